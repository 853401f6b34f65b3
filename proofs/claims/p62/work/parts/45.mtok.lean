def uX10_in2 : List Cond := List.cons (.code yX10_in cX10_in 6 (some .boolean)) ([] : List Cond)
theorem guX10_in2 : GU uX10_in2 := gu_cons (gu_all (by decide +kernel))
set_option maxHeartbeats 4000000 in
set_option maxRecDepth 100000 in
theorem kX10_in2 (l : Launch) (dC : Nat → ClassId) (dI : Nat → Nat → Nat) (a1 : Int64) (a2 : Int64) (a3 : Int64) : Met l yX10_in uX10_in2 ({ frames := 0, cells := 0, slots := 0, locals := 0 }) (va_Pc [.long a1, .long a2, .long a3] (fun _ => True)) (vp_Si (fun r => ((0 : Int) ≤ r.toInt ∧ r.toInt ≤ 1) ∧ (r ≠ 0 → (a2.toInt ≤ a1.toInt ∧ a1.toInt ≤ a3.toInt)) ∧ (r = 0 → (¬ (a2.toInt ≤ a1.toInt ∧ a1.toInt ≤ a3.toInt))))) 0 0 (fun _ => False) := by
  refine Met.ofW (cc := cX10_in) (maxL := 6) (ret := (some .boolean)) pn_X10 rfl ?_
  intro p e s m args below meth c s₁ B hml hv
  obtain ⟨rfl, _⟩ := hv
  have hx := B.exec
  have hb := B.bytes
  have hr := B.returns
  have hts := atoms_spec (ws := uX10_in2) B.pre
  have hown : s.vm.findClass RX10 = some m.cls := hown_of B.named rfl
  have hlocks := B.notSynchronized
  have hl := lv_entry ([.long a1, .long a2, .long a3]) (n := 6) (Nat.le_of_ble_eq_true rfl)
  rw [lg_entry_eq]
  generalize (lg_sl ([.long a1, .long a2, .long a3]) ++ List.replicate (6 - (lg_sl ([.long a1, .long a2, .long a3])).length) Slot.unset).toArray = ls at hl ⊢
  have hl : lv_has ls 6 [(0, .long a1), (2, .long a2), (4, .long a3)] := hl
  refine lv_lload_n hx hb dX10_in_0 rfl (lv_at hl 0 rfl) ?_
  refine lv_lload_n hx hb dX10_in_1 rfl (lv_at hl 1 rfl) ?_
  refine W.lcmp hx hb dX10_in_2 ?_
  refine lv_if_lt (tgt := 17) hx hb dX10_in_3 (by decide) (fun c_3 => ?_) (fun c_3 => ?_)
  ·
    have n_c_3 : (a1.toInt : Int) < a2.toInt := g_lt rfl rfl c_3
    have b_a1 : (-9223372036854775808 : Int) ≤ a1.toInt ∧ a1.toInt ≤ 9223372036854775806 := r_lt1 (tl_rng a1) (tl_rng a2) n_c_3 (by decide)
    have b_a2 : (-9223372036854775807 : Int) ≤ a2.toInt ∧ a2.toInt ≤ 9223372036854775807 := r_lt2 (tl_rng a1) (tl_rng a2) n_c_3 (by decide)
    refine lv_iconst (v := 0) hx hb dX10_in_17 (by decide) ?_
    exact W.zret (v := 0) hx hb hr rfl (fun t ht hW => ⟨0, rfl, ⟨(rg_w (by decide : (0 : Int) ≤ (0 : Int32).toInt ∧ (0 : Int32).toInt ≤ 0) (by decide) (by decide)), (fun h9 => absurd rfl h9), (fun _ => (by omega))⟩, ht⟩) t_nil dX10_in_18
  ·
    have n_c_3 : (a2.toInt : Int) ≤ a1.toInt := g_nlt rfl rfl c_3
    refine lv_lload_n hx hb dX10_in_6 rfl (lv_at hl 0 rfl) ?_
    refine lv_lload hx hb dX10_in_7 (lv_at hl 2 rfl) ?_
    refine W.lcmp hx hb dX10_in_9 ?_
    refine lv_if_gt (tgt := 17) hx hb dX10_in_10 (by decide) (fun c_4 => ?_) (fun c_4 => ?_)
    ·
      have n_c_4 : (a3.toInt : Int) < a1.toInt := g_gt rfl rfl c_4
      have b_a3 : (-9223372036854775808 : Int) ≤ a3.toInt ∧ a3.toInt ≤ 9223372036854775806 := r_lt1 (tl_rng a3) (tl_rng a1) n_c_4 (by decide)
      have b_a1 : (-9223372036854775807 : Int) ≤ a1.toInt ∧ a1.toInt ≤ 9223372036854775807 := r_lt2 (tl_rng a3) (tl_rng a1) n_c_4 (by decide)
      refine lv_iconst (v := 0) hx hb dX10_in_17 (by decide) ?_
      exact W.zret (v := 0) hx hb hr rfl (fun t ht hW => ⟨0, rfl, ⟨(rg_w (by decide : (0 : Int) ≤ (0 : Int32).toInt ∧ (0 : Int32).toInt ≤ 0) (by decide) (by decide)), (fun h9 => absurd rfl h9), (fun _ => (by omega))⟩, ht⟩) t_nil dX10_in_18
    ·
      have n_c_4 : (a1.toInt : Int) ≤ a3.toInt := g_ngt rfl rfl c_4
      refine lv_iconst (v := 1) hx hb dX10_in_13 (by decide) ?_
      refine lv_goto (tgt := 18) hx hb dX10_in_14 (by decide) ?_
      exact W.zret (v := 1) hx hb hr rfl (fun t ht hW => ⟨1, rfl, ⟨(rg_w (by decide : (1 : Int) ≤ (1 : Int32).toInt ∧ (1 : Int32).toInt ≤ 1) (by decide) (by decide)), (fun _ => (by omega)), (fun h9 => absurd h9 (by decide))⟩, ht⟩) t_nil dX10_in_18
theorem dX10_see_0 : decode cX10_see 0 = .ok (.iload_n 1, 1) := by decide +kernel
theorem dX10_see_1 : decode cX10_see 1 = .ok (.aload_n 0, 1) := by decide +kernel
theorem dX10_see_2 : decode cX10_see 2 = .ok (.getfield 100, 3) := by decide +kernel
theorem dX10_see_5 : decode cX10_see 5 = .ok (.if_icmp .ge 16, 3) := by decide +kernel
theorem dX10_see_8 : decode cX10_see 8 = .ok (.aload_n 0, 1) := by decide +kernel
theorem dX10_see_9 : decode cX10_see 9 = .ok (.getfield 23, 3) := by decide +kernel
theorem dX10_see_12 : decode cX10_see 12 = .ok (.iload_n 1, 1) := by decide +kernel
theorem dX10_see_13 : decode cX10_see 13 = .ok (.baload, 1) := by decide +kernel
theorem dX10_see_14 : decode cX10_see 14 = .ok (.sipush 255, 3) := by decide +kernel
theorem dX10_see_17 : decode cX10_see 17 = .ok (.iand, 1) := by decide +kernel
theorem dX10_see_18 : decode cX10_see 18 = .ok (.goto 4, 3) := by decide +kernel
theorem dX10_see_21 : decode cX10_see 21 = .ok (.iconst (-1), 1) := by decide +kernel
theorem dX10_see_22 : decode cX10_see 22 = .ok (.ireturn, 1) := by decide +kernel
theorem hd_yX10_see : yX10_see.cls = RX10 ∧ yX10_see.cls ≠ "java/lang/invoke/MethodHandle" ∧ yX10_see.cls ≠ "java/lang/invoke/VarHandle" ∧ (parseMethodDescriptor yX10_see.desc).map (fun d => d.parameters.length) = some 1 := by decide +kernel
def uX10_see : List Cond := List.cons (.code yX10_see cX10_see 2 (some .int)) (HAppend.hAppend ([.fieldLink RX10 100 "LuckyTicketModel" "size" "I", .fieldLink RX10 23 "LuckyTicketModel" "tape" "[B"] : List Cond) wsX100)
theorem iX10_see_X10 : ∀ w ∈ wsX100, w ∈ uX10_see := fun _ h => (List.mem_cons_of_mem _ (List.mem_append_right _ h))
theorem guX10_see : GU uX10_see := gu_cons (gu_app (by decide +kernel) gws_X10)
set_option maxHeartbeats 4000000 in
set_option maxRecDepth 100000 in
theorem kX10_see (l : Launch) (dC : Nat → ClassId) (dI : Nat → Nat → Nat) (o0 : Nat) (x_th : Int32) (mwo : Nat) (mim : Nat) (mhi : Nat) (mlu : Nat) (mtp : Nat) (x_td : Int32) (mfv : Nat) (x_sz : Int32) (x_at : Int32) (x_fr : Int32) (x_to : Int32) (x_va : Int32) (x_fk : Int32) (x_fp : Int32) (mfr : Nat) (mwt : Nat) (x_wt : Int32) (x_op : Int32) (x_jo : Int32) (mfg : Nat) (mpl : Nat) (x_dr : Int64) (mtm : Nat) (mfa : Nat) (mqu : Nat) (mmo : Nat) (mwy : Nat) (mwn : Nat) (mma : Nat) (mwi : Nat) (mnu : Nat) (mmv : Nat) (c_tp : ClassId) (w_tp : Nat → Int32) (a1 : Int32) (b_x_sz : (0 : Int) ≤ x_sz.toInt ∧ x_sz.toInt ≤ 1200) (b_x_at : (0 : Int) ≤ x_at.toInt ∧ x_at.toInt ≤ 1200) (b_x_fr : (0 : Int) ≤ x_fr.toInt ∧ x_fr.toInt ≤ 1200) (b_x_to : (0 : Int) ≤ x_to.toInt ∧ x_to.toInt ≤ 6) (b_x_fk : (0 : Int) ≤ x_fk.toInt ∧ x_fk.toInt ≤ 3) (ha0 : 0 ≤ a1.toInt) : Met l yX10_see uX10_see ({ frames := 0, cells := 0, slots := 0, locals := 0 }) (va_Pc [.ref o0, .int a1] (pw (dC, dI) vwCl [(o0, .inr (8, [.int x_th, .ref mwo, .ref mim, .ref mhi, .ref mlu, .ref mtp, .int x_td, .ref mfv, .int x_sz, .int x_at, .int x_fr, .int x_to, .int x_va, .int x_fk, .int x_fp, .ref mfr, .ref mwt, .int x_wt, .int x_op, .int x_jo, .ref mfg, .ref mpl, .long x_dr, .ref mtm, .ref mfa, .ref mqu, .ref mmo, .ref mwy, .ref mwn, .ref mma, .ref mwi, .ref mnu, .ref mmv])), (mtp, .inl (c_tp, 1200, .inl w_tp))] [(c_tp, .byte)])) (vp_Si (fun r => ((-1 : Int) ≤ r.toInt ∧ r.toInt ≤ 255) ∧ (r = seef w_tp x_sz a1))) 0 0 (fun _ => False) := by
  refine Met.ofW (cc := cX10_see) (maxL := 2) (ret := (some .int)) pn_X10 rfl ?_
  intro p e s m args below meth c s₁ B hml hv
  obtain ⟨rfl, hP, hK, hN⟩ := hv
  have hx := B.exec
  have hb := B.bytes
  have hr := B.returns
  have hts := atoms_spec (ws := uX10_see) B.pre
  have hown : s.vm.findClass RX10 = some m.cls := hown_of B.named rfl
  have hlocks := B.notSynchronized
  have hl := lv_entry ([.ref o0, .int a1]) (n := 2) (Nat.le_of_ble_eq_true rfl)
  rw [lg_entry_eq]
  generalize (lg_sl ([.ref o0, .int a1]) ++ List.replicate (2 - (lg_sl ([.ref o0, .int a1])).length) Slot.unset).toArray = ls at hl ⊢
  have hl : lv_has ls 2 [(0, .ref o0), (1, .int a1)] := hl
  refine lv_iload_n hx hb dX10_see_0 rfl (lv_at hl 1 rfl) ?_
  refine lv_aload_n hx hb dX10_see_1 rfl (lv_at hl 0 rfl) ?_
  refine va_get (D := (dC, dI)) (ci := 8) (v := .int x_sz) (C := RX10) (T := TX10) (N := 33) hx hb hts iX10_see_X10 hown hK hP 0 rfl rfl 8 (by decide) (hts (.fieldLink RX10 100 "LuckyTicketModel" "size" "I") (List.mem_of_getElem? (i := 1) rfl)) (fun _ h9 => h9) rfl dX10_see_2 ?_
  refine lv_icmp_ge (tgt := 21) hx hb dX10_see_5 (by decide) (fun c_4 => ?_) (fun c_4 => ?_)
  ·
    have n_c_4 : (x_sz.toInt : Int) ≤ a1.toInt := c_ge rfl rfl c_4
    have b_a1 : (0 : Int) ≤ a1.toInt ∧ a1.toInt ≤ 2147483647 := r_le2 b_x_sz (ti_rng a1) n_c_4 (by decide)
    refine lv_iconst (v := (-1)) hx hb dX10_see_21 (by decide) ?_
    exact W.iret (v := (-1)) hx hb hr (fun t ht hW => ⟨(-1), rfl, ⟨(rg_w (by decide : (-1 : Int) ≤ ((-1) : Int32).toInt ∧ ((-1) : Int32).toInt ≤ -1) (by decide) (by decide)), (seef_n (by omega))⟩, ht⟩) t_nil dX10_see_22
  ·
    have n_c_4 : (a1.toInt : Int) < x_sz.toInt := c_nge rfl rfl c_4
    have b_a1 : (-2147483648 : Int) ≤ a1.toInt ∧ a1.toInt ≤ 1199 := r_lt1 (ti_rng a1) b_x_sz n_c_4 (by decide)
    refine lv_aload_n hx hb dX10_see_8 rfl (lv_at hl 0 rfl) ?_
    refine va_get (D := (dC, dI)) (ci := 8) (v := .ref mtp) (C := RX10) (T := TX10) (N := 33) hx hb hts iX10_see_X10 hown hK hP 0 rfl rfl 5 (by decide) (hts (.fieldLink RX10 23 "LuckyTicketModel" "tape" "[B") (List.mem_of_getElem? (i := 2) rfl)) (fun _ h9 => h9) rfl dX10_see_9 ?_
    refine lv_iload_n hx hb dX10_see_12 rfl (lv_at hl 1 rfl) ?_
    refine va_bald hx hb hK hP 1 0 rfl rfl (vp_in_iff.mpr ⟨by omega, by omega⟩) dX10_see_13 ?_
    refine lv_topi (fun z_5 e_z_5 => ?_)
    refine lv_sipush (v := 255) hx hb dX10_see_14 (by decide) ?_
    refine lv_iand hx hb dX10_see_17 ?_
    refine lv_topi (fun z_6 e_z_6 => ?_)
    have b_z_6 : (0 : Int) ≤ z_6.toInt ∧ z_6.toInt ≤ 255 := ti_and (k := 8) e_z_6 (by decide) (by decide) (by decide)
    refine lv_goto (tgt := 22) hx hb dX10_see_18 (by decide) ?_
    exact W.iret (v := z_6) hx hb hr (fun t ht hW => ⟨z_6, rfl, ⟨(rg_w b_z_6 (by decide) (by decide)), (seef_y (by omega) e_z_5 e_z_6)⟩, ht⟩) t_nil dX10_see_22
theorem dX10_advance_0 : decode cX10_advance 0 = .ok (.aload_n 0, 1) := by decide +kernel
theorem dX10_advance_1 : decode cX10_advance 1 = .ok (.aload_n 0, 1) := by decide +kernel
theorem dX10_advance_2 : decode cX10_advance 2 = .ok (.getfield 103, 3) := by decide +kernel
theorem dX10_advance_5 : decode cX10_advance 5 = .ok (.invokevirtual 106, 3) := by decide +kernel
theorem dX10_advance_8 : decode cX10_advance 8 = .ok (.bipush 32, 2) := by decide +kernel
theorem dX10_advance_10 : decode cX10_advance 10 = .ok (.if_icmp .eq 16, 3) := by decide +kernel
theorem dX10_advance_13 : decode cX10_advance 13 = .ok (.aload_n 0, 1) := by decide +kernel
theorem dX10_advance_14 : decode cX10_advance 14 = .ok (.aload_n 0, 1) := by decide +kernel
theorem dX10_advance_15 : decode cX10_advance 15 = .ok (.getfield 103, 3) := by decide +kernel
theorem dX10_advance_18 : decode cX10_advance 18 = .ok (.invokevirtual 106, 3) := by decide +kernel
theorem dX10_advance_21 : decode cX10_advance 21 = .ok (.bipush 10, 2) := by decide +kernel
theorem dX10_advance_23 : decode cX10_advance 23 = .ok (.if_icmp .ne 16, 3) := by decide +kernel
theorem dX10_advance_26 : decode cX10_advance 26 = .ok (.aload_n 0, 1) := by decide +kernel
theorem dX10_advance_27 : decode cX10_advance 27 = .ok (.dup, 1) := by decide +kernel
theorem dX10_advance_28 : decode cX10_advance 28 = .ok (.getfield 103, 3) := by decide +kernel
theorem dX10_advance_31 : decode cX10_advance 31 = .ok (.iconst 1, 1) := by decide +kernel
theorem dX10_advance_32 : decode cX10_advance 32 = .ok (.iadd, 1) := by decide +kernel
theorem dX10_advance_33 : decode cX10_advance 33 = .ok (.putfield 103, 3) := by decide +kernel
theorem dX10_advance_36 : decode cX10_advance 36 = .ok (.goto (-36), 3) := by decide +kernel
theorem dX10_advance_39 : decode cX10_advance 39 = .ok (.aload_n 0, 1) := by decide +kernel
theorem dX10_advance_40 : decode cX10_advance 40 = .ok (.aload_n 0, 1) := by decide +kernel
theorem dX10_advance_41 : decode cX10_advance 41 = .ok (.getfield 103, 3) := by decide +kernel
theorem dX10_advance_44 : decode cX10_advance 44 = .ok (.putfield 110, 3) := by decide +kernel
theorem dX10_advance_47 : decode cX10_advance 47 = .ok (.aload_n 0, 1) := by decide +kernel
theorem dX10_advance_48 : decode cX10_advance 48 = .ok (.aload_n 0, 1) := by decide +kernel
theorem dX10_advance_49 : decode cX10_advance 49 = .ok (.getfield 103, 3) := by decide +kernel
theorem dX10_advance_52 : decode cX10_advance 52 = .ok (.invokevirtual 106, 3) := by decide +kernel
theorem dX10_advance_55 : decode cX10_advance 55 = .ok (.istore_n 1, 1) := by decide +kernel
theorem dX10_advance_56 : decode cX10_advance 56 = .ok (.iload_n 1, 1) := by decide +kernel
theorem dX10_advance_57 : decode cX10_advance 57 = .ok (.iconst (-1), 1) := by decide +kernel
theorem dX10_advance_58 : decode cX10_advance 58 = .ok (.if_icmp .ne 11, 3) := by decide +kernel
theorem dX10_advance_61 : decode cX10_advance 61 = .ok (.aload_n 0, 1) := by decide +kernel
theorem dX10_advance_62 : decode cX10_advance 62 = .ok (.iconst 0, 1) := by decide +kernel
theorem dX10_advance_63 : decode cX10_advance 63 = .ok (.putfield 113, 3) := by decide +kernel
theorem dX10_advance_66 : decode cX10_advance 66 = .ok (.goto 194, 3) := by decide +kernel
theorem dX10_advance_69 : decode cX10_advance 69 = .ok (.iload_n 1, 1) := by decide +kernel
theorem dX10_advance_70 : decode cX10_advance 70 = .ok (.i2l, 1) := by decide +kernel
theorem dX10_advance_71 : decode cX10_advance 71 = .ok (.ldc2_w 116, 3) := by decide +kernel
theorem dX10_advance_74 : decode cX10_advance 74 = .ok (.ldc2_w 118, 3) := by decide +kernel
theorem dX10_advance_77 : decode cX10_advance 77 = .ok (.invokestatic 82, 3) := by decide +kernel
theorem dX10_advance_80 : decode cX10_advance 80 = .ok (.ifCond .eq 45, 3) := by decide +kernel
theorem dX10_advance_83 : decode cX10_advance 83 = .ok (.aload_n 0, 1) := by decide +kernel
theorem dX10_advance_84 : decode cX10_advance 84 = .ok (.aload_n 0, 1) := by decide +kernel
theorem dX10_advance_85 : decode cX10_advance 85 = .ok (.getfield 103, 3) := by decide +kernel
theorem dX10_advance_88 : decode cX10_advance 88 = .ok (.invokevirtual 106, 3) := by decide +kernel
theorem dX10_advance_91 : decode cX10_advance 91 = .ok (.i2l, 1) := by decide +kernel
theorem dX10_advance_92 : decode cX10_advance 92 = .ok (.ldc2_w 116, 3) := by decide +kernel
theorem dX10_advance_95 : decode cX10_advance 95 = .ok (.ldc2_w 118, 3) := by decide +kernel
theorem dX10_advance_98 : decode cX10_advance 98 = .ok (.invokestatic 82, 3) := by decide +kernel
theorem dX10_advance_101 : decode cX10_advance 101 = .ok (.ifCond .eq 16, 3) := by decide +kernel
theorem dX10_advance_104 : decode cX10_advance 104 = .ok (.aload_n 0, 1) := by decide +kernel
theorem dX10_advance_105 : decode cX10_advance 105 = .ok (.dup, 1) := by decide +kernel
theorem dX10_advance_106 : decode cX10_advance 106 = .ok (.getfield 103, 3) := by decide +kernel
theorem dX10_advance_109 : decode cX10_advance 109 = .ok (.iconst 1, 1) := by decide +kernel
theorem dX10_advance_110 : decode cX10_advance 110 = .ok (.iadd, 1) := by decide +kernel
theorem dX10_advance_111 : decode cX10_advance 111 = .ok (.putfield 103, 3) := by decide +kernel
theorem dX10_advance_114 : decode cX10_advance 114 = .ok (.goto (-31), 3) := by decide +kernel
theorem dX10_advance_117 : decode cX10_advance 117 = .ok (.aload_n 0, 1) := by decide +kernel
theorem dX10_advance_118 : decode cX10_advance 118 = .ok (.iconst 1, 1) := by decide +kernel
theorem dX10_advance_119 : decode cX10_advance 119 = .ok (.putfield 113, 3) := by decide +kernel
theorem dX10_advance_122 : decode cX10_advance 122 = .ok (.goto 138, 3) := by decide +kernel
theorem dX10_advance_125 : decode cX10_advance 125 = .ok (.iload_n 1, 1) := by decide +kernel
theorem dX10_advance_126 : decode cX10_advance 126 = .ok (.i2l, 1) := by decide +kernel
theorem dX10_advance_127 : decode cX10_advance 127 = .ok (.ldc2_w 120, 3) := by decide +kernel
theorem dX10_advance_130 : decode cX10_advance 130 = .ok (.ldc2_w 122, 3) := by decide +kernel
theorem dX10_advance_133 : decode cX10_advance 133 = .ok (.invokestatic 82, 3) := by decide +kernel
theorem dX10_advance_136 : decode cX10_advance 136 = .ok (.ifCond .eq 78, 3) := by decide +kernel
theorem dX10_advance_139 : decode cX10_advance 139 = .ok (.aload_n 0, 1) := by decide +kernel
theorem dX10_advance_140 : decode cX10_advance 140 = .ok (.iconst 0, 1) := by decide +kernel
theorem dX10_advance_141 : decode cX10_advance 141 = .ok (.putfield 124, 3) := by decide +kernel
theorem dX10_advance_144 : decode cX10_advance 144 = .ok (.aload_n 0, 1) := by decide +kernel
theorem dX10_advance_145 : decode cX10_advance 145 = .ok (.aload_n 0, 1) := by decide +kernel
theorem dX10_advance_146 : decode cX10_advance 146 = .ok (.getfield 103, 3) := by decide +kernel
theorem dX10_advance_149 : decode cX10_advance 149 = .ok (.invokevirtual 106, 3) := by decide +kernel
theorem dX10_advance_152 : decode cX10_advance 152 = .ok (.i2l, 1) := by decide +kernel
theorem dX10_advance_153 : decode cX10_advance 153 = .ok (.ldc2_w 120, 3) := by decide +kernel
theorem dX10_advance_156 : decode cX10_advance 156 = .ok (.ldc2_w 122, 3) := by decide +kernel
theorem dX10_advance_159 : decode cX10_advance 159 = .ok (.invokestatic 82, 3) := by decide +kernel
theorem dX10_advance_162 : decode cX10_advance 162 = .ok (.ifCond .eq 44, 3) := by decide +kernel
theorem dX10_advance_165 : decode cX10_advance 165 = .ok (.aload_n 0, 1) := by decide +kernel
theorem dX10_advance_166 : decode cX10_advance 166 = .ok (.ldc 127, 2) := by decide +kernel
theorem dX10_advance_168 : decode cX10_advance 168 = .ok (.bipush 10, 2) := by decide +kernel
theorem dX10_advance_170 : decode cX10_advance 170 = .ok (.aload_n 0, 1) := by decide +kernel
theorem dX10_advance_171 : decode cX10_advance 171 = .ok (.getfield 124, 3) := by decide +kernel
theorem dX10_advance_174 : decode cX10_advance 174 = .ok (.imul, 1) := by decide +kernel
theorem dX10_advance_175 : decode cX10_advance 175 = .ok (.aload_n 0, 1) := by decide +kernel
theorem dX10_advance_176 : decode cX10_advance 176 = .ok (.aload_n 0, 1) := by decide +kernel
theorem dX10_advance_177 : decode cX10_advance 177 = .ok (.getfield 103, 3) := by decide +kernel
theorem dX10_advance_180 : decode cX10_advance 180 = .ok (.invokevirtual 106, 3) := by decide +kernel
theorem dX10_advance_183 : decode cX10_advance 183 = .ok (.iadd, 1) := by decide +kernel
theorem dX10_advance_184 : decode cX10_advance 184 = .ok (.bipush 48, 2) := by decide +kernel
theorem dX10_advance_186 : decode cX10_advance 186 = .ok (.isub, 1) := by decide +kernel
theorem dX10_advance_187 : decode cX10_advance 187 = .ok (.invokestatic 128, 3) := by decide +kernel
theorem dX10_advance_190 : decode cX10_advance 190 = .ok (.putfield 124, 3) := by decide +kernel
theorem dX10_advance_193 : decode cX10_advance 193 = .ok (.aload_n 0, 1) := by decide +kernel
theorem dX10_advance_194 : decode cX10_advance 194 = .ok (.dup, 1) := by decide +kernel
theorem dX10_advance_195 : decode cX10_advance 195 = .ok (.getfield 103, 3) := by decide +kernel
theorem dX10_advance_198 : decode cX10_advance 198 = .ok (.iconst 1, 1) := by decide +kernel
theorem dX10_advance_199 : decode cX10_advance 199 = .ok (.iadd, 1) := by decide +kernel
theorem dX10_advance_200 : decode cX10_advance 200 = .ok (.putfield 103, 3) := by decide +kernel
theorem dX10_advance_203 : decode cX10_advance 203 = .ok (.goto (-59), 3) := by decide +kernel
theorem dX10_advance_206 : decode cX10_advance 206 = .ok (.aload_n 0, 1) := by decide +kernel
theorem dX10_advance_207 : decode cX10_advance 207 = .ok (.iconst 2, 1) := by decide +kernel
theorem dX10_advance_208 : decode cX10_advance 208 = .ok (.putfield 113, 3) := by decide +kernel
theorem dX10_advance_211 : decode cX10_advance 211 = .ok (.goto 49, 3) := by decide +kernel
theorem dX10_advance_214 : decode cX10_advance 214 = .ok (.aload_n 0, 1) := by decide +kernel
theorem dX10_advance_215 : decode cX10_advance 215 = .ok (.iload_n 1, 1) := by decide +kernel
theorem dX10_advance_216 : decode cX10_advance 216 = .ok (.bipush 59, 2) := by decide +kernel
theorem dX10_advance_218 : decode cX10_advance 218 = .ok (.if_icmp .ne 7, 3) := by decide +kernel
theorem dX10_advance_221 : decode cX10_advance 221 = .ok (.iconst 3, 1) := by decide +kernel
theorem dX10_advance_222 : decode cX10_advance 222 = .ok (.goto 25, 3) := by decide +kernel
theorem dX10_advance_225 : decode cX10_advance 225 = .ok (.iload_n 1, 1) := by decide +kernel
theorem dX10_advance_226 : decode cX10_advance 226 = .ok (.bipush 40, 2) := by decide +kernel
theorem dX10_advance_228 : decode cX10_advance 228 = .ok (.if_icmp .ne 7, 3) := by decide +kernel
theorem dX10_advance_231 : decode cX10_advance 231 = .ok (.iconst 4, 1) := by decide +kernel
theorem dX10_advance_232 : decode cX10_advance 232 = .ok (.goto 15, 3) := by decide +kernel
theorem dX10_advance_235 : decode cX10_advance 235 = .ok (.iload_n 1, 1) := by decide +kernel
theorem dX10_advance_236 : decode cX10_advance 236 = .ok (.bipush 41, 2) := by decide +kernel
theorem dX10_advance_238 : decode cX10_advance 238 = .ok (.if_icmp .ne 7, 3) := by decide +kernel
theorem dX10_advance_241 : decode cX10_advance 241 = .ok (.iconst 5, 1) := by decide +kernel
theorem dX10_advance_242 : decode cX10_advance 242 = .ok (.goto 5, 3) := by decide +kernel
theorem dX10_advance_245 : decode cX10_advance 245 = .ok (.bipush 6, 2) := by decide +kernel
theorem dX10_advance_247 : decode cX10_advance 247 = .ok (.putfield 113, 3) := by decide +kernel
theorem dX10_advance_250 : decode cX10_advance 250 = .ok (.aload_n 0, 1) := by decide +kernel
theorem dX10_advance_251 : decode cX10_advance 251 = .ok (.dup, 1) := by decide +kernel
theorem dX10_advance_252 : decode cX10_advance 252 = .ok (.getfield 103, 3) := by decide +kernel
theorem dX10_advance_255 : decode cX10_advance 255 = .ok (.iconst 1, 1) := by decide +kernel
theorem dX10_advance_256 : decode cX10_advance 256 = .ok (.iadd, 1) := by decide +kernel
theorem dX10_advance_257 : decode cX10_advance 257 = .ok (.putfield 103, 3) := by decide +kernel
theorem dX10_advance_260 : decode cX10_advance 260 = .ok (.return_, 1) := by decide +kernel
theorem hd_yX10_advance : yX10_advance.cls = RX10 ∧ yX10_advance.cls ≠ "java/lang/invoke/MethodHandle" ∧ yX10_advance.cls ≠ "java/lang/invoke/VarHandle" ∧ (parseMethodDescriptor yX10_advance.desc).map (fun d => d.parameters.length) = some 0 := by decide +kernel
def uX10_advance : List Cond := List.cons (.code yX10_advance cX10_advance 2 none) (HAppend.hAppend ([.fieldLink RX10 103 "LuckyTicketModel" "at" "I", .methodLink RX10 106 yX10_see, .instanceMethod yX10_see, .selects RX10 yX10_see yX10_see, .initialized RX10, .fieldLink RX10 110 "LuckyTicketModel" "from" "I", .constantLong RX10 116 (97), .constantLong RX10 118 (122), .methodLink RX10 82 yX10_in, .static yX10_in, .constantLong RX10 120 (48), .constantLong RX10 122 (57), .fieldLink RX10 113 "LuckyTicketModel" "token" "I", .fieldLink RX10 124 "LuckyTicketModel" "value" "I", .constant RX10 127 (99999), .methodLink RX10 128 yJ9_min_7cf53, .static yJ9_min_7cf53, .initialized RJ9, .code yJ9_min_7cf53 cJ9_min_7cf53 2 (some .int)] : List Cond) (HAppend.hAppend uX10_see (HAppend.hAppend uX10_in2 wsX100)))
theorem iX10_advance_X10 : ∀ w ∈ wsX100, w ∈ uX10_advance := fun _ h => (List.mem_cons_of_mem _ (List.mem_append_right _ (List.mem_append_right _ (List.mem_append_right _ h))))
theorem guX10_advance : GU uX10_advance := gu_cons (gu_app (by decide +kernel) (gu_ap guX10_see (gu_ap guX10_in2 gws_X10)))
theorem gX10_advance__X10_see_V106 : GoodIn uX10_advance (wsV RX10 106 RX10 yX10_see uX10_see) := gin_V (List.mem_of_getElem? (i := 2) rfl) (List.mem_of_getElem? (i := 3) rfl) (List.mem_of_getElem? (i := 4) rfl) (List.mem_of_getElem? (i := 5) rfl) (fun _ h => (List.mem_cons_of_mem _ (List.mem_append_right _ (List.mem_append_left _ h)))) guX10_see
theorem gX10_advance__X10_in2_S82 : GoodIn uX10_advance (va_wsS RX10 82 yX10_in uX10_in2) := gin_S (List.mem_of_getElem? (i := 9) rfl) (List.mem_of_getElem? (i := 10) rfl) (List.mem_of_getElem? (i := 5) rfl) (fun _ h => (List.mem_cons_of_mem _ (List.mem_append_right _ (List.mem_append_right _ (List.mem_append_left _ h))))) guX10_in2
set_option maxHeartbeats 4000000 in
set_option maxRecDepth 100000 in
theorem kX10_advance (l : Launch) (dC : Nat → ClassId) (dI : Nat → Nat → Nat) (o0 : Nat) (x_th : Int32) (mwo : Nat) (mim : Nat) (mhi : Nat) (mlu : Nat) (mtp : Nat) (x_td : Int32) (mfv : Nat) (x_sz : Int32) (x_at : Int32) (x_fr : Int32) (x_to : Int32) (x_va : Int32) (x_fk : Int32) (x_fp : Int32) (mfr : Nat) (mwt : Nat) (x_wt : Int32) (x_op : Int32) (x_jo : Int32) (mfg : Nat) (mpl : Nat) (x_dr : Int64) (mtm : Nat) (mfa : Nat) (mqu : Nat) (mmo : Nat) (mwy : Nat) (mwn : Nat) (mma : Nat) (mwi : Nat) (mnu : Nat) (mmv : Nat) (c_tp : ClassId) (w_tp : Nat → Int32) (sz : Nat) (b_x_sz : (0 : Int) ≤ x_sz.toInt ∧ x_sz.toInt ≤ 1200) (b_x_at : (0 : Int) ≤ x_at.toInt ∧ x_at.toInt ≤ 1200) (b_x_fr : (0 : Int) ≤ x_fr.toInt ∧ x_fr.toInt ≤ 1200) (b_x_to : (0 : Int) ≤ x_to.toInt ∧ x_to.toInt ≤ 6) (b_x_fk : (0 : Int) ≤ x_fk.toInt ∧ x_fk.toInt ≤ 3) (hat : x_at.toInt ≤ x_sz.toInt) : Met l yX10_advance uX10_advance ({ frames := 1, cells := 0, slots := 0, locals := 25 }) (va_Pc [.ref o0] (hw (dC, dI) vwCl [(o0, .inr (8, [.int x_th, .ref mwo, .ref mim, .ref mhi, .ref mlu, .ref mtp, .int x_td, .ref mfv, .int x_sz, .int x_at, .int x_fr, .int x_to, .int x_va, .int x_fk, .int x_fp, .ref mfr, .ref mwt, .int x_wt, .int x_op, .int x_jo, .ref mfg, .ref mpl, .long x_dr, .ref mtm, .ref mfa, .ref mqu, .ref mmo, .ref mwy, .ref mwn, .ref mma, .ref mwi, .ref mnu, .ref mmv])), (mtp, .inl (c_tp, 1200, .inl w_tp))] [(c_tp, .byte)] sz)) (va_Qv (fun (_ : Unit) => True) (fun (_ : Unit) t => ∃ (o0_ : Int32) (o1_ : Int32) (o2_ : Int32) (o3_ : Int32), ((0 : Int) ≤ o0_.toInt ∧ o0_.toInt ≤ 1200) ∧ ((0 : Int) ≤ o1_.toInt ∧ o1_.toInt ≤ 1200) ∧ ((0 : Int) ≤ o2_.toInt ∧ o2_.toInt ≤ 6) ∧ (o1_.toInt ≤ o0_.toInt ∧ o0_.toInt ≤ x_sz.toInt) ∧ (o2_.toInt ≠ 0 → o1_.toInt < o0_.toInt) ∧ (x_at.toInt ≤ o1_.toInt) ∧ va_P (dC, dI) vwCl [(o0, .inr (8, [.int x_th, .ref mwo, .ref mim, .ref mhi, .ref mlu, .ref mtp, .int x_td, .ref mfv, .int x_sz, .int o0_, .int o1_, .int o2_, .int o3_, .int x_fk, .int x_fp, .ref mfr, .ref mwt, .int x_wt, .int x_op, .int x_jo, .ref mfg, .ref mpl, .long x_dr, .ref mtm, .ref mfa, .ref mqu, .ref mmo, .ref mwy, .ref mwn, .ref mma, .ref mwi, .ref mnu, .ref mmv])), (mtp, .inl (c_tp, 1200, .inl w_tp))] t.heap ∧ va_K (dC, dI) vwCl [(c_tp, .byte)] t ∧ va_D (va_A [(o0, .inr (8, [.int x_th, .ref mwo, .ref mim, .ref mhi, .ref mlu, .ref mtp, .int x_td, .ref mfv, .int x_sz, .int x_at, .int x_fr, .int x_to, .int x_va, .int x_fk, .int x_fp, .ref mfr, .ref mwt, .int x_wt, .int x_op, .int x_jo, .ref mfg, .ref mpl, .long x_dr, .ref mtm, .ref mfa, .ref mqu, .ref mmo, .ref mwy, .ref mwn, .ref mma, .ref mwi, .ref mnu, .ref mmv])), (mtp, .inl (c_tp, 1200, .inl w_tp))] sz) [(o0, .inr (8, [.int x_th, .ref mwo, .ref mim, .ref mhi, .ref mlu, .ref mtp, .int x_td, .ref mfv, .int x_sz, .int o0_, .int o1_, .int o2_, .int o3_, .int x_fk, .int x_fp, .ref mfr, .ref mwt, .int x_wt, .int x_op, .int x_jo, .ref mfg, .ref mpl, .long x_dr, .ref mtm, .ref mfa, .ref mqu, .ref mmo, .ref mwy, .ref mwn, .ref mma, .ref mwi, .ref mnu, .ref mmv])), (mtp, .inl (c_tp, 1200, .inl w_tp))]) (va_A [(o0, .inr (8, [.int x_th, .ref mwo, .ref mim, .ref mhi, .ref mlu, .ref mtp, .int x_td, .ref mfv, .int x_sz, .int x_at, .int x_fr, .int x_to, .int x_va, .int x_fk, .int x_fp, .ref mfr, .ref mwt, .int x_wt, .int x_op, .int x_jo, .ref mfg, .ref mpl, .long x_dr, .ref mtm, .ref mfa, .ref mqu, .ref mmo, .ref mwy, .ref mwn, .ref mma, .ref mwi, .ref mnu, .ref mmv])), (mtp, .inl (c_tp, 1200, .inl w_tp))] sz)) 0 0 (va_A [(o0, .inr (8, [.int x_th, .ref mwo, .ref mim, .ref mhi, .ref mlu, .ref mtp, .int x_td, .ref mfv, .int x_sz, .int x_at, .int x_fr, .int x_to, .int x_va, .int x_fk, .int x_fp, .ref mfr, .ref mwt, .int x_wt, .int x_op, .int x_jo, .ref mfg, .ref mpl, .long x_dr, .ref mtm, .ref mfa, .ref mqu, .ref mmo, .ref mwy, .ref mwn, .ref mma, .ref mwi, .ref mnu, .ref mmv])), (mtp, .inl (c_tp, 1200, .inl w_tp))] sz) := by
  refine Met.ofW (cc := cX10_advance) (maxL := 2) (ret := none) pn_X10 rfl ?_
  intro p e s m args below meth c s₁ B hml hv
  obtain ⟨rfl, hsz, hP, hK, hD0, hN⟩ := hv
  have hx := B.exec
  have hb := B.bytes
  have hr := B.returns
  have hts := atoms_spec (ws := uX10_advance) B.pre
  have hown : s.vm.findClass RX10 = some m.cls := hown_of B.named rfl
  have hlocks := B.notSynchronized
  subst hsz
  have hD := hD0.self (sz := s.heap.size)
  generalize hAe : va_A [(o0, .inr (8, [.int x_th, .ref mwo, .ref mim, .ref mhi, .ref mlu, .ref mtp, .int x_td, .ref mfv, .int x_sz, .int x_at, .int x_fr, .int x_to, .int x_va, .int x_fk, .int x_fp, .ref mfr, .ref mwt, .int x_wt, .int x_op, .int x_jo, .ref mfg, .ref mpl, .long x_dr, .ref mtm, .ref mfa, .ref mqu, .ref mmo, .ref mwy, .ref mwn, .ref mma, .ref mwi, .ref mnu, .ref mmv])), (mtp, .inl (c_tp, 1200, .inl w_tp))] s.heap.size = A at hD ⊢
  have hA : ∀ q : Nat, s.heap.size ≤ q → A q := fun q h => by rw [← hAe]; exact Or.inr h
  have hS : va_S A s.heap s.heap [] := va_S.rf
  have hP : va_P (dC, dI) vwCl [(o0, .inr (8, [.int x_th, .ref mwo, .ref mim, .ref mhi, .ref mlu, .ref mtp, .int x_td, .ref mfv, .int x_sz, .int x_at, .int x_fr, .int x_to, .int x_va, .int x_fk, .int x_fp, .ref mfr, .ref mwt, .int x_wt, .int x_op, .int x_jo, .ref mfg, .ref mpl, .long x_dr, .ref mtm, .ref mfa, .ref mqu, .ref mmo, .ref mwy, .ref mwn, .ref mma, .ref mwi, .ref mnu, .ref mmv])), (mtp, .inl (c_tp, 1200, .inl w_tp))] s.heap := hP
  have hl := lv_entry ([.ref o0]) (n := 2) (Nat.le_of_ble_eq_true rfl)
  rw [lg_entry_eq]
  generalize (lg_sl ([.ref o0]) ++ List.replicate (2 - (lg_sl ([.ref o0])).length) Slot.unset).toArray = ls at hl ⊢
  have hl : lv_has ls 2 [(0, .ref o0)] := hl
  refine loopW (σ := Int32) (fun v => (x_sz.toInt - v.toInt).toNat) (fun v H locs ls => ((0 : Int) ≤ v.toInt ∧ v.toInt ≤ 1200) ∧ (x_at.toInt ≤ v.toInt ∧ v.toInt ≤ x_sz.toInt) ∧ va_P (dC, dI) vwCl [(o0, .inr (8, [.int x_th, .ref mwo, .ref mim, .ref mhi, .ref mlu, .ref mtp, .int x_td, .ref mfv, .int x_sz, .int v, .int x_fr, .int x_to, .int x_va, .int x_fk, .int x_fp, .ref mfr, .ref mwt, .int x_wt, .int x_op, .int x_jo, .ref mfg, .ref mpl, .long x_dr, .ref mtm, .ref mfa, .ref mqu, .ref mmo, .ref mwy, .ref mwn, .ref mma, .ref mwi, .ref mnu, .ref mmv])), (mtp, .inl (c_tp, 1200, .inl w_tp))] H ∧ va_D A [(o0, .inr (8, [.int x_th, .ref mwo, .ref mim, .ref mhi, .ref mlu, .ref mtp, .int x_td, .ref mfv, .int x_sz, .int v, .int x_fr, .int x_to, .int x_va, .int x_fk, .int x_fp, .ref mfr, .ref mwt, .int x_wt, .int x_op, .int x_jo, .ref mfg, .ref mpl, .long x_dr, .ref mtm, .ref mfa, .ref mqu, .ref mmo, .ref mwy, .ref mwn, .ref mma, .ref mwi, .ref mnu, .ref mmv])), (mtp, .inl (c_tp, 1200, .inl w_tp))] ∧ va_S A s.heap H locs ∧ lv_has ls 2 [(0, .ref o0)]) (fun v H locs ls hI ih_0_497 => ?_) x_at ⟨(show (0 : Int) ≤ x_at.toInt ∧ x_at.toInt ≤ 1200 from b_x_at), (show x_at.toInt ≤ x_at.toInt ∧ x_at.toInt ≤ x_sz.toInt from (by omega)), hP, hD, hS, lv_sub hl [0] rfl⟩
  obtain ⟨y_398, rfl⟩ : ∃ z, z = v := ⟨_, rfl⟩
  obtain ⟨b_y_398, hl0, hP, hD, hS, hl⟩ := hI
  have b_y_398 : (0 : Int) ≤ y_398.toInt ∧ y_398.toInt ≤ 1200 := b_y_398
  have hl0 : x_at.toInt ≤ y_398.toInt ∧ y_398.toInt ≤ x_sz.toInt := hl0
  have hP : va_P (dC, dI) vwCl [(o0, .inr (8, [.int x_th, .ref mwo, .ref mim, .ref mhi, .ref mlu, .ref mtp, .int x_td, .ref mfv, .int x_sz, .int y_398, .int x_fr, .int x_to, .int x_va, .int x_fk, .int x_fp, .ref mfr, .ref mwt, .int x_wt, .int x_op, .int x_jo, .ref mfg, .ref mpl, .long x_dr, .ref mtm, .ref mfa, .ref mqu, .ref mmo, .ref mwy, .ref mwn, .ref mma, .ref mwi, .ref mnu, .ref mmv])), (mtp, .inl (c_tp, 1200, .inl w_tp))] H := hP
  have hD : va_D A [(o0, .inr (8, [.int x_th, .ref mwo, .ref mim, .ref mhi, .ref mlu, .ref mtp, .int x_td, .ref mfv, .int x_sz, .int y_398, .int x_fr, .int x_to, .int x_va, .int x_fk, .int x_fp, .ref mfr, .ref mwt, .int x_wt, .int x_op, .int x_jo, .ref mfg, .ref mpl, .long x_dr, .ref mtm, .ref mfa, .ref mqu, .ref mmo, .ref mwy, .ref mwn, .ref mma, .ref mwi, .ref mnu, .ref mmv])), (mtp, .inl (c_tp, 1200, .inl w_tp))] := hD
  have hl : lv_has ls 2 [(0, .ref o0)] := hl
  refine lv_aload_n hx hb dX10_advance_0 rfl (lv_at hl 0 rfl) ?_
  refine lv_aload_n hx hb dX10_advance_1 rfl (lv_at hl 0 rfl) ?_
  refine va_get (D := (dC, dI)) (ci := 8) (v := .int y_398) (C := RX10) (T := TX10) (N := 33) hx hb hts iX10_advance_X10 hown hK hP 0 rfl rfl 9 (by decide) (hts (.fieldLink RX10 103 "LuckyTicketModel" "at" "I") (List.mem_of_getElem? (i := 1) rfl)) (fun _ h9 => h9) rfl dX10_advance_2 ?_
  refine vp_callSi (W.runV (As := [.int y_398]) (rest := []) ⟨hx, hb, hml, hown, hts⟩ (kX10_see l dC dI o0 x_th mwo mim mhi mlu mtp x_td mfv x_sz y_398 x_fr x_to x_va x_fk x_fp mfr mwt x_wt x_op x_jo mfg mpl x_dr mtm mfa mqu mmo mwy mwn mma mwi mnu mmv c_tp w_tp y_398 b_x_sz b_y_398 b_x_fr b_x_to b_x_fk (by omega)) (cwV 1 hts gX10_advance__X10_see_V106 rfl rfl rfl hd_yX10_see ⟨lel 1 1 rfl, lel 21 25 rfl⟩) ⟨pw_fb, rcv_X10 hK hP (q0 := 0) rfl, (pw_use hP hK hN [0, 1] rfl [0] rfl)⟩ rfl rfl hl.1 rfl (lv_room (Nat.le_of_ble_eq_true rfl)) dX10_advance_5 ⟨lel 0 0 rfl, lel 0 0 rfl⟩) (fun r_498 h_r_498 => ?_)
  obtain ⟨b_r_498, pr_r_498⟩ := h_r_498
  have b_r_498 : (-1 : Int) ≤ r_498.toInt ∧ r_498.toInt ≤ 255 := b_r_498
  refine lv_bipush (v := 32) hx hb dX10_advance_8 (by decide) ?_
  refine lv_icmp_eq (tgt := 26) hx hb dX10_advance_10 (by decide) (fun c_499 => ?_) (fun c_499 => ?_)
  ·
    have n_c_499 : (r_498.toInt : Int) = 32 := c_eq rfl (by decide) c_499
    have b_r_498 : (32 : Int) ≤ r_498.toInt ∧ r_498.toInt ≤ 32 := r_eq1 b_r_498 (by decide : (32 : Int) ≤ (32 : Int32).toInt ∧ (32 : Int32).toInt ≤ 32) n_c_499 (by decide)
    have hlt : y_398.toInt < x_sz.toInt := seef_lt pr_r_498 (by omega)
    have b_y_398 : (0 : Int) ≤ y_398.toInt ∧ y_398.toInt ≤ 1199 := ⟨by omega, by omega⟩
    refine lv_aload_n hx hb dX10_advance_26 rfl (lv_at hl 0 rfl) ?_
    refine lv_dup hx hb dX10_advance_27 rfl ?_
    refine va_get (D := (dC, dI)) (ci := 8) (v := .int y_398) (C := RX10) (T := TX10) (N := 33) hx hb hts iX10_advance_X10 hown hK hP 0 rfl rfl 9 (by decide) (hts (.fieldLink RX10 103 "LuckyTicketModel" "at" "I") (List.mem_of_getElem? (i := 1) rfl)) (fun _ h9 => h9) rfl dX10_advance_28 ?_
    refine lv_iconst (v := 1) hx hb dX10_advance_31 (by decide) ?_
    refine lv_iadd hx hb dX10_advance_32 ?_
    refine lv_topi (fun z_501 e_z_501 => ?_)
    obtain ⟨q_z_501, b_z_501⟩ := ti_add (lo := 1) (hi := 1200) e_z_501 rfl (by decide : (1 : Int32).toInt = 1) b_y_398 (by decide : (1 : Int) ≤ (1 : Int32).toInt ∧ (1 : Int32).toInt ≤ 1) (by decide)
    refine va_put (D := (dC, dI)) (ci := 8) (v := .int z_501) (ty := .int) (C := RX10) (T := TX10) (N := 33) hx hb hts iX10_advance_X10 tyX10 tyX10_ok nmX10 hown hK hP hD hS 0 rfl rfl 9 (by decide) (hts (.fieldLink RX10 103 "LuckyTicketModel" "at" "I") (List.mem_of_getElem? (i := 1) rfl)) (fun _ h9 => h9) rfl (by decide +kernel) rfl rfl (Nat.le_of_ble_eq_true rfl) dX10_advance_33 (fun H locs hP hD hS => ?_)
    have hP : va_P (dC, dI) vwCl [(o0, .inr (8, [.int x_th, .ref mwo, .ref mim, .ref mhi, .ref mlu, .ref mtp, .int x_td, .ref mfv, .int x_sz, .int z_501, .int x_fr, .int x_to, .int x_va, .int x_fk, .int x_fp, .ref mfr, .ref mwt, .int x_wt, .int x_op, .int x_jo, .ref mfg, .ref mpl, .long x_dr, .ref mtm, .ref mfa, .ref mqu, .ref mmo, .ref mwy, .ref mwn, .ref mma, .ref mwi, .ref mnu, .ref mmv])), (mtp, .inl (c_tp, 1200, .inl w_tp))] H := hP
    have hD : va_D A [(o0, .inr (8, [.int x_th, .ref mwo, .ref mim, .ref mhi, .ref mlu, .ref mtp, .int x_td, .ref mfv, .int x_sz, .int z_501, .int x_fr, .int x_to, .int x_va, .int x_fk, .int x_fp, .ref mfr, .ref mwt, .int x_wt, .int x_op, .int x_jo, .ref mfg, .ref mpl, .long x_dr, .ref mtm, .ref mfa, .ref mqu, .ref mmo, .ref mwy, .ref mwn, .ref mma, .ref mwi, .ref mnu, .ref mmv])), (mtp, .inl (c_tp, 1200, .inl w_tp))] := hD
    refine lv_goto (tgt := 0) hx hb dX10_advance_36 (by decide) ?_
    exact ih_0_497 z_501 _ _ _ ⟨(show (0 : Int) ≤ z_501.toInt ∧ z_501.toInt ≤ 1200 from (rg_w b_z_501 (by decide) (by decide))), (show x_at.toInt ≤ z_501.toInt ∧ z_501.toInt ≤ x_sz.toInt from (by omega)), hP, hD, hS, lv_sub hl [0] rfl⟩ (show (x_sz.toInt - z_501.toInt).toNat < (x_sz.toInt - y_398.toInt).toNat by omega)
  ·
    have n_c_499 : (r_498.toInt : Int) ≠ 32 := c_ne rfl (by decide) c_499
    refine lv_aload_n hx hb dX10_advance_13 rfl (lv_at hl 0 rfl) ?_
    refine lv_aload_n hx hb dX10_advance_14 rfl (lv_at hl 0 rfl) ?_
    refine va_get (D := (dC, dI)) (ci := 8) (v := .int y_398) (C := RX10) (T := TX10) (N := 33) hx hb hts iX10_advance_X10 hown hK hP 0 rfl rfl 9 (by decide) (hts (.fieldLink RX10 103 "LuckyTicketModel" "at" "I") (List.mem_of_getElem? (i := 1) rfl)) (fun _ h9 => h9) rfl dX10_advance_15 ?_
    refine vp_callSi (W.runV (As := [.int y_398]) (rest := []) ⟨hx, hb, hml, hown, hts⟩ (kX10_see l dC dI o0 x_th mwo mim mhi mlu mtp x_td mfv x_sz y_398 x_fr x_to x_va x_fk x_fp mfr mwt x_wt x_op x_jo mfg mpl x_dr mtm mfa mqu mmo mwy mwn mma mwi mnu mmv c_tp w_tp y_398 b_x_sz b_y_398 b_x_fr b_x_to b_x_fk (by omega)) (cwV 1 hts gX10_advance__X10_see_V106 rfl rfl rfl hd_yX10_see ⟨lel 1 1 rfl, lel 21 25 rfl⟩) ⟨pw_fb, rcv_X10 hK hP (q0 := 0) rfl, (pw_use hP hK hN [0, 1] rfl [0] rfl)⟩ rfl rfl hl.1 rfl (lv_room (Nat.le_of_ble_eq_true rfl)) dX10_advance_18 ⟨lel 0 0 rfl, lel 0 0 rfl⟩) (fun r_502 h_r_502 => ?_)
    obtain ⟨b_r_502, pr_r_502⟩ := h_r_502
    have b_r_502 : (-1 : Int) ≤ r_502.toInt ∧ r_502.toInt ≤ 255 := b_r_502
    refine lv_bipush (v := 10) hx hb dX10_advance_21 (by decide) ?_
    refine lv_icmp_ne (tgt := 39) hx hb dX10_advance_23 (by decide) (fun c_503 => ?_) (fun c_503 => ?_)
    ·
      have n_c_503 : (r_502.toInt : Int) ≠ 10 := c_ne rfl (by decide) c_503
      refine lv_aload_n hx hb dX10_advance_39 rfl (lv_at hl 0 rfl) ?_
      refine lv_aload_n hx hb dX10_advance_40 rfl (lv_at hl 0 rfl) ?_
      refine va_get (D := (dC, dI)) (ci := 8) (v := .int y_398) (C := RX10) (T := TX10) (N := 33) hx hb hts iX10_advance_X10 hown hK hP 0 rfl rfl 9 (by decide) (hts (.fieldLink RX10 103 "LuckyTicketModel" "at" "I") (List.mem_of_getElem? (i := 1) rfl)) (fun _ h9 => h9) rfl dX10_advance_41 ?_
      refine va_put (D := (dC, dI)) (ci := 8) (v := .int y_398) (ty := .int) (C := RX10) (T := TX10) (N := 33) hx hb hts iX10_advance_X10 tyX10 tyX10_ok nmX10 hown hK hP hD hS 0 rfl rfl 10 (by decide) (hts (.fieldLink RX10 110 "LuckyTicketModel" "from" "I") (List.mem_of_getElem? (i := 6) rfl)) (fun _ h9 => h9) rfl (by decide +kernel) rfl rfl (Nat.le_of_ble_eq_true rfl) dX10_advance_44 (fun H locs hP hD hS => ?_)
      have hP : va_P (dC, dI) vwCl [(o0, .inr (8, [.int x_th, .ref mwo, .ref mim, .ref mhi, .ref mlu, .ref mtp, .int x_td, .ref mfv, .int x_sz, .int y_398, .int y_398, .int x_to, .int x_va, .int x_fk, .int x_fp, .ref mfr, .ref mwt, .int x_wt, .int x_op, .int x_jo, .ref mfg, .ref mpl, .long x_dr, .ref mtm, .ref mfa, .ref mqu, .ref mmo, .ref mwy, .ref mwn, .ref mma, .ref mwi, .ref mnu, .ref mmv])), (mtp, .inl (c_tp, 1200, .inl w_tp))] H := hP
      have hD : va_D A [(o0, .inr (8, [.int x_th, .ref mwo, .ref mim, .ref mhi, .ref mlu, .ref mtp, .int x_td, .ref mfv, .int x_sz, .int y_398, .int y_398, .int x_to, .int x_va, .int x_fk, .int x_fp, .ref mfr, .ref mwt, .int x_wt, .int x_op, .int x_jo, .ref mfg, .ref mpl, .long x_dr, .ref mtm, .ref mfa, .ref mqu, .ref mmo, .ref mwy, .ref mwn, .ref mma, .ref mwi, .ref mnu, .ref mmv])), (mtp, .inl (c_tp, 1200, .inl w_tp))] := hD
      refine lv_aload_n hx hb dX10_advance_47 rfl (lv_at hl 0 rfl) ?_
      refine lv_aload_n hx hb dX10_advance_48 rfl (lv_at hl 0 rfl) ?_
      refine va_get (D := (dC, dI)) (ci := 8) (v := .int y_398) (C := RX10) (T := TX10) (N := 33) hx hb hts iX10_advance_X10 hown hK hP 0 rfl rfl 9 (by decide) (hts (.fieldLink RX10 103 "LuckyTicketModel" "at" "I") (List.mem_of_getElem? (i := 1) rfl)) (fun _ h9 => h9) rfl dX10_advance_49 ?_
      refine vp_callSi (W.runV (As := [.int y_398]) (rest := []) ⟨hx, hb, hml, hown, hts⟩ (kX10_see l dC dI o0 x_th mwo mim mhi mlu mtp x_td mfv x_sz y_398 y_398 x_to x_va x_fk x_fp mfr mwt x_wt x_op x_jo mfg mpl x_dr mtm mfa mqu mmo mwy mwn mma mwi mnu mmv c_tp w_tp y_398 b_x_sz b_y_398 b_y_398 b_x_to b_x_fk (by omega)) (cwV 1 hts gX10_advance__X10_see_V106 rfl rfl rfl hd_yX10_see ⟨lel 1 1 rfl, lel 21 25 rfl⟩) ⟨pw_fb, rcv_X10 hK hP (q0 := 0) rfl, (pw_use hP hK hN [0, 1] rfl [0] rfl)⟩ rfl rfl hl.1 rfl (lv_room (Nat.le_of_ble_eq_true rfl)) dX10_advance_52 ⟨lel 0 0 rfl, lel 0 0 rfl⟩) (fun r_505 h_r_505 => ?_)
      obtain ⟨b_r_505, pr_r_505⟩ := h_r_505
      have b_r_505 : (-1 : Int) ≤ r_505.toInt ∧ r_505.toInt ≤ 255 := b_r_505
      refine lv_istore_n (lv' := [(1, .int r_505), (0, .ref o0)]) hx hb dX10_advance_55 rfl hl (by decide) rfl (fun ls hl => ?_)
      refine lv_iload_n hx hb dX10_advance_56 rfl (lv_at hl 0 rfl) ?_
      refine lv_iconst (v := (-1)) hx hb dX10_advance_57 (by decide) ?_
      refine lv_icmp_ne (tgt := 69) hx hb dX10_advance_58 (by decide) (fun c_506 => ?_) (fun c_506 => ?_)
      ·
        have n_c_506 : (r_505.toInt : Int) ≠ (-1) := c_ne rfl (by decide) c_506
        have b_r_505 : (0 : Int) ≤ r_505.toInt ∧ r_505.toInt ≤ 255 := r_ne1 b_r_505 (by decide : (-1 : Int) ≤ ((-1) : Int32).toInt ∧ ((-1) : Int32).toInt ≤ -1) n_c_506 (by decide)
        refine lv_iload_n hx hb dX10_advance_69 rfl (lv_at hl 0 rfl) ?_
        obtain ⟨z_507, e_z_507⟩ : ∃ y : Int64, y = r_505.toInt64 := ⟨_, rfl⟩
        refine lv_i2l (v := z_507) hx hb dX10_advance_70 e_z_507.symm ?_
        obtain ⟨q_z_507, b_z_507⟩ := ti_i2l e_z_507 b_r_505
        refine lv_ldc2 (v := 97) hx hb hown (hts (.constantLong RX10 116 (97)) (List.mem_of_getElem? (i := 7) rfl)) dX10_advance_71 ?_
        refine lv_ldc2 (v := 122) hx hb hown (hts (.constantLong RX10 118 (122)) (List.mem_of_getElem? (i := 8) rfl)) dX10_advance_74 ?_
        refine vp_callSi (W.runS (As := [.long z_507, .long 97, .long 122]) (rest := []) ⟨hx, hb, hml, hown, hts⟩ (kX10_in2 l dC dI z_507 97 122 ) (va_cwS 3 hts gX10_advance__X10_in2_S82 rfl rfl rfl hd_yX10_in.2 ⟨lel 1 1 rfl, lel 25 25 rfl⟩) ⟨pn_fb, pn_use⟩ rfl rfl hl.1 rfl (lv_room (Nat.le_of_ble_eq_true rfl)) dX10_advance_77 ⟨lel 0 0 rfl, lel 0 0 rfl⟩) (fun r_508 h_r_508 => ?_)
        obtain ⟨b_r_508, nz_r_508, zz_r_508⟩ := h_r_508
        have b_r_508 : (0 : Int) ≤ r_508.toInt ∧ r_508.toInt ≤ 1 := b_r_508
        refine lv_if_eq (tgt := 125) hx hb dX10_advance_80 (by decide) (fun c_509 => ?_) (fun c_509 => ?_)
        ·
          have n_c_509 : (r_508.toInt : Int) = 0 := c_eq rfl (by decide) c_509
          have b_r_508 : (0 : Int) ≤ r_508.toInt ∧ r_508.toInt ≤ 0 := r_eq1 b_r_508 (by decide : (0 : Int) ≤ (0 : Int32).toInt ∧ (0 : Int32).toInt ≤ 0) n_c_509 (by decide)
          have g_510 := zz_r_508 c_509
          have lt0_g_510 := (by decide : (97 : Int64).toInt = 97)
          have lt1_g_510 := (by decide : (122 : Int64).toInt = 122)
          refine lv_iload_n hx hb dX10_advance_125 rfl (lv_at hl 0 rfl) ?_
          obtain ⟨z_511, e_z_511⟩ : ∃ y : Int64, y = r_505.toInt64 := ⟨_, rfl⟩
          refine lv_i2l (v := z_511) hx hb dX10_advance_126 e_z_511.symm ?_
          obtain ⟨q_z_511, b_z_511⟩ := ti_i2l e_z_511 b_r_505
          refine lv_ldc2 (v := 48) hx hb hown (hts (.constantLong RX10 120 (48)) (List.mem_of_getElem? (i := 11) rfl)) dX10_advance_127 ?_
          refine lv_ldc2 (v := 57) hx hb hown (hts (.constantLong RX10 122 (57)) (List.mem_of_getElem? (i := 12) rfl)) dX10_advance_130 ?_
          refine vp_callSi (W.runS (As := [.long z_511, .long 48, .long 57]) (rest := []) ⟨hx, hb, hml, hown, hts⟩ (kX10_in2 l dC dI z_511 48 57 ) (va_cwS 3 hts gX10_advance__X10_in2_S82 rfl rfl rfl hd_yX10_in.2 ⟨lel 1 1 rfl, lel 25 25 rfl⟩) ⟨pn_fb, pn_use⟩ rfl rfl hl.1 rfl (lv_room (Nat.le_of_ble_eq_true rfl)) dX10_advance_133 ⟨lel 0 0 rfl, lel 0 0 rfl⟩) (fun r_512 h_r_512 => ?_)
          obtain ⟨b_r_512, nz_r_512, zz_r_512⟩ := h_r_512
          have b_r_512 : (0 : Int) ≤ r_512.toInt ∧ r_512.toInt ≤ 1 := b_r_512
          refine lv_if_eq (tgt := 214) hx hb dX10_advance_136 (by decide) (fun c_513 => ?_) (fun c_513 => ?_)
          ·
            have n_c_513 : (r_512.toInt : Int) = 0 := c_eq rfl (by decide) c_513
            have b_r_512 : (0 : Int) ≤ r_512.toInt ∧ r_512.toInt ≤ 0 := r_eq1 b_r_512 (by decide : (0 : Int) ≤ (0 : Int32).toInt ∧ (0 : Int32).toInt ≤ 0) n_c_513 (by decide)
            have g_514 := zz_r_512 c_513
            have lt0_g_514 := (by decide : (48 : Int64).toInt = 48)
            have lt1_g_514 := (by decide : (57 : Int64).toInt = 57)
            refine lv_aload_n hx hb dX10_advance_214 rfl (lv_at hl 1 rfl) ?_
            refine lv_iload_n hx hb dX10_advance_215 rfl (lv_at hl 0 rfl) ?_
            refine lv_bipush (v := 59) hx hb dX10_advance_216 (by decide) ?_
            refine cutW (σ := Int32) (pc2 := 247) (st2 := fun v => [.int v, .ref o0]) (cells2 := 0) (slots2 := 0) (fun v H locs ls => ((3 : Int) ≤ v.toInt ∧ v.toInt ≤ 6) ∧ va_P (dC, dI) vwCl [(o0, .inr (8, [.int x_th, .ref mwo, .ref mim, .ref mhi, .ref mlu, .ref mtp, .int x_td, .ref mfv, .int x_sz, .int y_398, .int y_398, .int x_to, .int x_va, .int x_fk, .int x_fp, .ref mfr, .ref mwt, .int x_wt, .int x_op, .int x_jo, .ref mfg, .ref mpl, .long x_dr, .ref mtm, .ref mfa, .ref mqu, .ref mmo, .ref mwy, .ref mwn, .ref mma, .ref mwi, .ref mnu, .ref mmv])), (mtp, .inl (c_tp, 1200, .inl w_tp))] H ∧ va_D A [(o0, .inr (8, [.int x_th, .ref mwo, .ref mim, .ref mhi, .ref mlu, .ref mtp, .int x_td, .ref mfv, .int x_sz, .int y_398, .int y_398, .int x_to, .int x_va, .int x_fk, .int x_fp, .ref mfr, .ref mwt, .int x_wt, .int x_op, .int x_jo, .ref mfg, .ref mpl, .long x_dr, .ref mtm, .ref mfa, .ref mqu, .ref mmo, .ref mwy, .ref mwn, .ref mma, .ref mwi, .ref mnu, .ref mmv])), (mtp, .inl (c_tp, 1200, .inl w_tp))] ∧ va_S A s.heap H locs ∧ lv_has ls 2 [(1, .int r_505), (0, .ref o0)]) (fun v H locs ls hI => ?_) (fun hj_247_518 => ?_)
            ·
              obtain ⟨y_518, rfl⟩ : ∃ z, z = v := ⟨_, rfl⟩
              obtain ⟨b_y_518, hP, hD, hS, hl⟩ := hI
              have b_y_518 : (3 : Int) ≤ y_518.toInt ∧ y_518.toInt ≤ 6 := b_y_518
              have hP : va_P (dC, dI) vwCl [(o0, .inr (8, [.int x_th, .ref mwo, .ref mim, .ref mhi, .ref mlu, .ref mtp, .int x_td, .ref mfv, .int x_sz, .int y_398, .int y_398, .int x_to, .int x_va, .int x_fk, .int x_fp, .ref mfr, .ref mwt, .int x_wt, .int x_op, .int x_jo, .ref mfg, .ref mpl, .long x_dr, .ref mtm, .ref mfa, .ref mqu, .ref mmo, .ref mwy, .ref mwn, .ref mma, .ref mwi, .ref mnu, .ref mmv])), (mtp, .inl (c_tp, 1200, .inl w_tp))] H := hP
              have hD : va_D A [(o0, .inr (8, [.int x_th, .ref mwo, .ref mim, .ref mhi, .ref mlu, .ref mtp, .int x_td, .ref mfv, .int x_sz, .int y_398, .int y_398, .int x_to, .int x_va, .int x_fk, .int x_fp, .ref mfr, .ref mwt, .int x_wt, .int x_op, .int x_jo, .ref mfg, .ref mpl, .long x_dr, .ref mtm, .ref mfa, .ref mqu, .ref mmo, .ref mwy, .ref mwn, .ref mma, .ref mwi, .ref mnu, .ref mmv])), (mtp, .inl (c_tp, 1200, .inl w_tp))] := hD
              have hl : lv_has ls 2 [(1, .int r_505), (0, .ref o0)] := hl
              refine va_put (D := (dC, dI)) (ci := 8) (v := .int y_518) (ty := .int) (C := RX10) (T := TX10) (N := 33) hx hb hts iX10_advance_X10 tyX10 tyX10_ok nmX10 hown hK hP hD hS 0 rfl rfl 11 (by decide) (hts (.fieldLink RX10 113 "LuckyTicketModel" "token" "I") (List.mem_of_getElem? (i := 13) rfl)) (fun _ h9 => h9) rfl (by decide +kernel) rfl rfl (Nat.le_of_ble_eq_true rfl) dX10_advance_247 (fun H locs hP hD hS => ?_)
              have hP : va_P (dC, dI) vwCl [(o0, .inr (8, [.int x_th, .ref mwo, .ref mim, .ref mhi, .ref mlu, .ref mtp, .int x_td, .ref mfv, .int x_sz, .int y_398, .int y_398, .int y_518, .int x_va, .int x_fk, .int x_fp, .ref mfr, .ref mwt, .int x_wt, .int x_op, .int x_jo, .ref mfg, .ref mpl, .long x_dr, .ref mtm, .ref mfa, .ref mqu, .ref mmo, .ref mwy, .ref mwn, .ref mma, .ref mwi, .ref mnu, .ref mmv])), (mtp, .inl (c_tp, 1200, .inl w_tp))] H := hP
              have hD : va_D A [(o0, .inr (8, [.int x_th, .ref mwo, .ref mim, .ref mhi, .ref mlu, .ref mtp, .int x_td, .ref mfv, .int x_sz, .int y_398, .int y_398, .int y_518, .int x_va, .int x_fk, .int x_fp, .ref mfr, .ref mwt, .int x_wt, .int x_op, .int x_jo, .ref mfg, .ref mpl, .long x_dr, .ref mtm, .ref mfa, .ref mqu, .ref mmo, .ref mwy, .ref mwn, .ref mma, .ref mwi, .ref mnu, .ref mmv])), (mtp, .inl (c_tp, 1200, .inl w_tp))] := hD
              have hlt : y_398.toInt < x_sz.toInt := seef_lt pr_r_505 (by omega)
              have b_y_398 : (0 : Int) ≤ y_398.toInt ∧ y_398.toInt ≤ 1199 := ⟨by omega, by omega⟩
              refine lv_aload_n hx hb dX10_advance_250 rfl (lv_at hl 1 rfl) ?_
              refine lv_dup hx hb dX10_advance_251 rfl ?_
              refine va_get (D := (dC, dI)) (ci := 8) (v := .int y_398) (C := RX10) (T := TX10) (N := 33) hx hb hts iX10_advance_X10 hown hK hP 0 rfl rfl 9 (by decide) (hts (.fieldLink RX10 103 "LuckyTicketModel" "at" "I") (List.mem_of_getElem? (i := 1) rfl)) (fun _ h9 => h9) rfl dX10_advance_252 ?_
              refine lv_iconst (v := 1) hx hb dX10_advance_255 (by decide) ?_
              refine lv_iadd hx hb dX10_advance_256 ?_
              refine lv_topi (fun z_519 e_z_519 => ?_)
              obtain ⟨q_z_519, b_z_519⟩ := ti_add (lo := 1) (hi := 1200) e_z_519 rfl (by decide : (1 : Int32).toInt = 1) b_y_398 (by decide : (1 : Int) ≤ (1 : Int32).toInt ∧ (1 : Int32).toInt ≤ 1) (by decide)
              refine va_put (D := (dC, dI)) (ci := 8) (v := .int z_519) (ty := .int) (C := RX10) (T := TX10) (N := 33) hx hb hts iX10_advance_X10 tyX10 tyX10_ok nmX10 hown hK hP hD hS 0 rfl rfl 9 (by decide) (hts (.fieldLink RX10 103 "LuckyTicketModel" "at" "I") (List.mem_of_getElem? (i := 1) rfl)) (fun _ h9 => h9) rfl (by decide +kernel) rfl rfl (Nat.le_of_ble_eq_true rfl) dX10_advance_257 (fun H locs hP hD hS => ?_)
              have hP : va_P (dC, dI) vwCl [(o0, .inr (8, [.int x_th, .ref mwo, .ref mim, .ref mhi, .ref mlu, .ref mtp, .int x_td, .ref mfv, .int x_sz, .int z_519, .int y_398, .int y_518, .int x_va, .int x_fk, .int x_fp, .ref mfr, .ref mwt, .int x_wt, .int x_op, .int x_jo, .ref mfg, .ref mpl, .long x_dr, .ref mtm, .ref mfa, .ref mqu, .ref mmo, .ref mwy, .ref mwn, .ref mma, .ref mwi, .ref mnu, .ref mmv])), (mtp, .inl (c_tp, 1200, .inl w_tp))] H := hP
              have hD : va_D A [(o0, .inr (8, [.int x_th, .ref mwo, .ref mim, .ref mhi, .ref mlu, .ref mtp, .int x_td, .ref mfv, .int x_sz, .int z_519, .int y_398, .int y_518, .int x_va, .int x_fk, .int x_fp, .ref mfr, .ref mwt, .int x_wt, .int x_op, .int x_jo, .ref mfg, .ref mpl, .long x_dr, .ref mtm, .ref mfa, .ref mqu, .ref mmo, .ref mwy, .ref mwn, .ref mma, .ref mwi, .ref mnu, .ref mmv])), (mtp, .inl (c_tp, 1200, .inl w_tp))] := hD
              have hP9 := hP.sub (ws' := [(o0, .inr (8, [.int x_th, .ref mwo, .ref mim, .ref mhi, .ref mlu, .ref mtp, .int x_td, .ref mfv, .int x_sz, .int z_519, .int y_398, .int y_518, .int x_va, .int x_fk, .int x_fp, .ref mfr, .ref mwt, .int x_wt, .int x_op, .int x_jo, .ref mfg, .ref mpl, .long x_dr, .ref mtm, .ref mfa, .ref mqu, .ref mmo, .ref mwy, .ref mwn, .ref mma, .ref mwi, .ref mnu, .ref mmv])), (mtp, .inl (c_tp, 1200, .inl w_tp))]) [0, 1] rfl
              have hD9 := hD.sub (ws' := [(o0, .inr (8, [.int x_th, .ref mwo, .ref mim, .ref mhi, .ref mlu, .ref mtp, .int x_td, .ref mfv, .int x_sz, .int z_519, .int y_398, .int y_518, .int x_va, .int x_fk, .int x_fp, .ref mfr, .ref mwt, .int x_wt, .int x_op, .int x_jo, .ref mfg, .ref mpl, .long x_dr, .ref mtm, .ref mfa, .ref mqu, .ref mmo, .ref mwy, .ref mwn, .ref mma, .ref mwi, .ref mnu, .ref mmv])), (mtp, .inl (c_tp, 1200, .inl w_tp))]) [0, 1] (by decide) rfl
              have hK9 := hK.sub (tys' := [(c_tp, .byte)]) [0] rfl
              exact W.vret hx hb hr (fun t ht hW => ⟨⟨(), rfl, trivial, z_519, y_398, y_518, x_va, (rg_w b_z_519 (by decide) (by decide)), (rg_w b_y_398 (by decide) (by decide)), (rg_w b_y_518 (by decide) (by decide)), (by omega), (by omega), (by omega), by rw [ht]; exact hP9, va_K.moved hW.alike hK9, hD9⟩, hS.F ht⟩) hS.2.2 dX10_advance_260
            ·
              refine lv_icmp_ne (tgt := 225) hx hb dX10_advance_218 (by decide) (fun c_515 => ?_) (fun c_515 => ?_)
              ·
                have n_c_515 : (r_505.toInt : Int) ≠ 59 := c_ne rfl (by decide) c_515
                refine lv_iload_n hx hb dX10_advance_225 rfl (lv_at hl 0 rfl) ?_
                refine lv_bipush (v := 40) hx hb dX10_advance_226 (by decide) ?_
                refine lv_icmp_ne (tgt := 235) hx hb dX10_advance_228 (by decide) (fun c_520 => ?_) (fun c_520 => ?_)
                ·
                  have n_c_520 : (r_505.toInt : Int) ≠ 40 := c_ne rfl (by decide) c_520
                  refine lv_iload_n hx hb dX10_advance_235 rfl (lv_at hl 0 rfl) ?_
                  refine lv_bipush (v := 41) hx hb dX10_advance_236 (by decide) ?_
                  refine lv_icmp_ne (tgt := 245) hx hb dX10_advance_238 (by decide) (fun c_521 => ?_) (fun c_521 => ?_)
                  ·
                    have n_c_521 : (r_505.toInt : Int) ≠ 41 := c_ne rfl (by decide) c_521
                    refine lv_bipush (v := 6) hx hb dX10_advance_245 (by decide) ?_
                    exact hj_247_518 (6 : Int32) _ _ _ ⟨(show (3 : Int) ≤ (6 : Int32).toInt ∧ (6 : Int32).toInt ≤ 6 from (rg_w (by decide : (6 : Int) ≤ (6 : Int32).toInt ∧ (6 : Int32).toInt ≤ 6) (by decide) (by decide))), hP, hD, hS, lv_sub hl [0, 1] rfl⟩
                  ·
                    have n_c_521 : (r_505.toInt : Int) = 41 := c_eq rfl (by decide) c_521
                    have b_r_505 : (41 : Int) ≤ r_505.toInt ∧ r_505.toInt ≤ 41 := r_eq1 b_r_505 (by decide : (41 : Int) ≤ (41 : Int32).toInt ∧ (41 : Int32).toInt ≤ 41) n_c_521 (by decide)
                    refine lv_iconst (v := 5) hx hb dX10_advance_241 (by decide) ?_
                    refine lv_goto (tgt := 247) hx hb dX10_advance_242 (by decide) ?_
                    exact hj_247_518 (5 : Int32) _ _ _ ⟨(show (3 : Int) ≤ (5 : Int32).toInt ∧ (5 : Int32).toInt ≤ 6 from (rg_w (by decide : (5 : Int) ≤ (5 : Int32).toInt ∧ (5 : Int32).toInt ≤ 5) (by decide) (by decide))), hP, hD, hS, lv_sub hl [0, 1] rfl⟩
                ·
                  have n_c_520 : (r_505.toInt : Int) = 40 := c_eq rfl (by decide) c_520
                  have b_r_505 : (40 : Int) ≤ r_505.toInt ∧ r_505.toInt ≤ 40 := r_eq1 b_r_505 (by decide : (40 : Int) ≤ (40 : Int32).toInt ∧ (40 : Int32).toInt ≤ 40) n_c_520 (by decide)
                  refine lv_iconst (v := 4) hx hb dX10_advance_231 (by decide) ?_
                  refine lv_goto (tgt := 247) hx hb dX10_advance_232 (by decide) ?_
                  exact hj_247_518 (4 : Int32) _ _ _ ⟨(show (3 : Int) ≤ (4 : Int32).toInt ∧ (4 : Int32).toInt ≤ 6 from (rg_w (by decide : (4 : Int) ≤ (4 : Int32).toInt ∧ (4 : Int32).toInt ≤ 4) (by decide) (by decide))), hP, hD, hS, lv_sub hl [0, 1] rfl⟩
              ·
                have n_c_515 : (r_505.toInt : Int) = 59 := c_eq rfl (by decide) c_515
                have b_r_505 : (59 : Int) ≤ r_505.toInt ∧ r_505.toInt ≤ 59 := r_eq1 b_r_505 (by decide : (59 : Int) ≤ (59 : Int32).toInt ∧ (59 : Int32).toInt ≤ 59) n_c_515 (by decide)
                refine lv_iconst (v := 3) hx hb dX10_advance_221 (by decide) ?_
                refine lv_goto (tgt := 247) hx hb dX10_advance_222 (by decide) ?_
                exact hj_247_518 (3 : Int32) _ _ _ ⟨(show (3 : Int) ≤ (3 : Int32).toInt ∧ (3 : Int32).toInt ≤ 6 from (rg_w (by decide : (3 : Int) ≤ (3 : Int32).toInt ∧ (3 : Int32).toInt ≤ 3) (by decide) (by decide))), hP, hD, hS, lv_sub hl [0, 1] rfl⟩
          ·
            have n_c_513 : (r_512.toInt : Int) ≠ 0 := c_ne rfl (by decide) c_513
            have b_r_512 : (1 : Int) ≤ r_512.toInt ∧ r_512.toInt ≤ 1 := r_ne1 b_r_512 (by decide : (0 : Int) ≤ (0 : Int32).toInt ∧ (0 : Int32).toInt ≤ 0) n_c_513 (by decide)
            have g_522 := nz_r_512 c_513
            have lt0_g_522 := (by decide : (48 : Int64).toInt = 48)
            have lt1_g_522 := (by decide : (57 : Int64).toInt = 57)
            have b_z_511 : (48 : Int) ≤ z_511.toInt ∧ z_511.toInt ≤ 57 := by
              have q0 := b_z_511
              have q1 := (by decide : (48 : Int) ≤ (48 : Int64).toInt ∧ (48 : Int64).toInt ≤ 48)
              have q2 := (by decide : (57 : Int) ≤ (57 : Int64).toInt ∧ (57 : Int64).toInt ≤ 57)
              omega
            have b_r_505 : (48 : Int) ≤ r_505.toInt ∧ r_505.toInt ≤ 57 := by
              have q0 := b_z_511; have q1 := q_z_511; have q2 := b_r_505; omega
            refine lv_aload_n hx hb dX10_advance_139 rfl (lv_at hl 1 rfl) ?_
            refine lv_iconst (v := 0) hx hb dX10_advance_140 (by decide) ?_
            refine va_put (D := (dC, dI)) (ci := 8) (v := .int 0) (ty := .int) (C := RX10) (T := TX10) (N := 33) hx hb hts iX10_advance_X10 tyX10 tyX10_ok nmX10 hown hK hP hD hS 0 rfl rfl 12 (by decide) (hts (.fieldLink RX10 124 "LuckyTicketModel" "value" "I") (List.mem_of_getElem? (i := 14) rfl)) (fun _ h9 => h9) rfl (by decide +kernel) rfl rfl (Nat.le_of_ble_eq_true rfl) dX10_advance_141 (fun H locs hP hD hS => ?_)
            have hP : va_P (dC, dI) vwCl [(o0, .inr (8, [.int x_th, .ref mwo, .ref mim, .ref mhi, .ref mlu, .ref mtp, .int x_td, .ref mfv, .int x_sz, .int y_398, .int y_398, .int x_to, .int 0, .int x_fk, .int x_fp, .ref mfr, .ref mwt, .int x_wt, .int x_op, .int x_jo, .ref mfg, .ref mpl, .long x_dr, .ref mtm, .ref mfa, .ref mqu, .ref mmo, .ref mwy, .ref mwn, .ref mma, .ref mwi, .ref mnu, .ref mmv])), (mtp, .inl (c_tp, 1200, .inl w_tp))] H := hP
            have hD : va_D A [(o0, .inr (8, [.int x_th, .ref mwo, .ref mim, .ref mhi, .ref mlu, .ref mtp, .int x_td, .ref mfv, .int x_sz, .int y_398, .int y_398, .int x_to, .int 0, .int x_fk, .int x_fp, .ref mfr, .ref mwt, .int x_wt, .int x_op, .int x_jo, .ref mfg, .ref mpl, .long x_dr, .ref mtm, .ref mfa, .ref mqu, .ref mmo, .ref mwy, .ref mwn, .ref mma, .ref mwi, .ref mnu, .ref mmv])), (mtp, .inl (c_tp, 1200, .inl w_tp))] := hD
            refine loopW (σ := Int32 × Int32) (fun v => (x_sz.toInt - v.1.toInt).toNat) (fun v H locs ls => ((0 : Int) ≤ v.1.toInt ∧ v.1.toInt ≤ 1200) ∧ ((-2147483648 : Int) ≤ v.2.toInt ∧ v.2.toInt ≤ 99999) ∧ (y_398.toInt ≤ v.1.toInt ∧ v.1.toInt ≤ x_sz.toInt) ∧ va_P (dC, dI) vwCl [(o0, .inr (8, [.int x_th, .ref mwo, .ref mim, .ref mhi, .ref mlu, .ref mtp, .int x_td, .ref mfv, .int x_sz, .int v.1, .int y_398, .int x_to, .int v.2, .int x_fk, .int x_fp, .ref mfr, .ref mwt, .int x_wt, .int x_op, .int x_jo, .ref mfg, .ref mpl, .long x_dr, .ref mtm, .ref mfa, .ref mqu, .ref mmo, .ref mwy, .ref mwn, .ref mma, .ref mwi, .ref mnu, .ref mmv])), (mtp, .inl (c_tp, 1200, .inl w_tp))] H ∧ va_D A [(o0, .inr (8, [.int x_th, .ref mwo, .ref mim, .ref mhi, .ref mlu, .ref mtp, .int x_td, .ref mfv, .int x_sz, .int v.1, .int y_398, .int x_to, .int v.2, .int x_fk, .int x_fp, .ref mfr, .ref mwt, .int x_wt, .int x_op, .int x_jo, .ref mfg, .ref mpl, .long x_dr, .ref mtm, .ref mfa, .ref mqu, .ref mmo, .ref mwy, .ref mwn, .ref mma, .ref mwi, .ref mnu, .ref mmv])), (mtp, .inl (c_tp, 1200, .inl w_tp))] ∧ va_S A s.heap H locs ∧ lv_has ls 2 [(1, .int r_505), (0, .ref o0)]) (fun v H locs ls hI ih_144_560 => ?_) (y_398, (0 : Int32)) ⟨(show (0 : Int) ≤ y_398.toInt ∧ y_398.toInt ≤ 1200 from b_y_398), (show (-2147483648 : Int) ≤ (0 : Int32).toInt ∧ (0 : Int32).toInt ≤ 99999 from (rg_w (by decide : (0 : Int) ≤ (0 : Int32).toInt ∧ (0 : Int32).toInt ≤ 0) (by decide) (by decide))), (show y_398.toInt ≤ y_398.toInt ∧ y_398.toInt ≤ x_sz.toInt from (by have zl : (0 : Int32).toInt = 0 := (by decide); omega)), hP, hD, hS, lv_sub hl [0, 1] rfl⟩
            obtain ⟨y_535, y_536⟩ := v
            obtain ⟨b_y_535, b_y_536, hlq, hP, hD, hS, hl⟩ := hI
            have b_y_535 : (0 : Int) ≤ y_535.toInt ∧ y_535.toInt ≤ 1200 := b_y_535
            have b_y_536 : (-2147483648 : Int) ≤ y_536.toInt ∧ y_536.toInt ≤ 99999 := b_y_536
            have hlq : y_398.toInt ≤ y_535.toInt ∧ y_535.toInt ≤ x_sz.toInt := hlq
            have hP : va_P (dC, dI) vwCl [(o0, .inr (8, [.int x_th, .ref mwo, .ref mim, .ref mhi, .ref mlu, .ref mtp, .int x_td, .ref mfv, .int x_sz, .int y_535, .int y_398, .int x_to, .int y_536, .int x_fk, .int x_fp, .ref mfr, .ref mwt, .int x_wt, .int x_op, .int x_jo, .ref mfg, .ref mpl, .long x_dr, .ref mtm, .ref mfa, .ref mqu, .ref mmo, .ref mwy, .ref mwn, .ref mma, .ref mwi, .ref mnu, .ref mmv])), (mtp, .inl (c_tp, 1200, .inl w_tp))] H := hP
            have hD : va_D A [(o0, .inr (8, [.int x_th, .ref mwo, .ref mim, .ref mhi, .ref mlu, .ref mtp, .int x_td, .ref mfv, .int x_sz, .int y_535, .int y_398, .int x_to, .int y_536, .int x_fk, .int x_fp, .ref mfr, .ref mwt, .int x_wt, .int x_op, .int x_jo, .ref mfg, .ref mpl, .long x_dr, .ref mtm, .ref mfa, .ref mqu, .ref mmo, .ref mwy, .ref mwn, .ref mma, .ref mwi, .ref mnu, .ref mmv])), (mtp, .inl (c_tp, 1200, .inl w_tp))] := hD
            have hl : lv_has ls 2 [(1, .int r_505), (0, .ref o0)] := hl
            refine lv_aload_n hx hb dX10_advance_144 rfl (lv_at hl 1 rfl) ?_
            refine lv_aload_n hx hb dX10_advance_145 rfl (lv_at hl 1 rfl) ?_
            refine va_get (D := (dC, dI)) (ci := 8) (v := .int y_535) (C := RX10) (T := TX10) (N := 33) hx hb hts iX10_advance_X10 hown hK hP 0 rfl rfl 9 (by decide) (hts (.fieldLink RX10 103 "LuckyTicketModel" "at" "I") (List.mem_of_getElem? (i := 1) rfl)) (fun _ h9 => h9) rfl dX10_advance_146 ?_
            refine vp_callSi (W.runV (As := [.int y_535]) (rest := []) ⟨hx, hb, hml, hown, hts⟩ (kX10_see l dC dI o0 x_th mwo mim mhi mlu mtp x_td mfv x_sz y_535 y_398 x_to y_536 x_fk x_fp mfr mwt x_wt x_op x_jo mfg mpl x_dr mtm mfa mqu mmo mwy mwn mma mwi mnu mmv c_tp w_tp y_535 b_x_sz b_y_535 b_y_398 b_x_to b_x_fk (by omega)) (cwV 1 hts gX10_advance__X10_see_V106 rfl rfl rfl hd_yX10_see ⟨lel 1 1 rfl, lel 21 25 rfl⟩) ⟨pw_fb, rcv_X10 hK hP (q0 := 0) rfl, (pw_use hP hK hN [0, 1] rfl [0] rfl)⟩ rfl rfl hl.1 rfl (lv_room (Nat.le_of_ble_eq_true rfl)) dX10_advance_149 ⟨lel 0 0 rfl, lel 0 0 rfl⟩) (fun r_561 h_r_561 => ?_)
            obtain ⟨b_r_561, pr_r_561⟩ := h_r_561
            have b_r_561 : (-1 : Int) ≤ r_561.toInt ∧ r_561.toInt ≤ 255 := b_r_561
            obtain ⟨z_562, e_z_562⟩ : ∃ y : Int64, y = r_561.toInt64 := ⟨_, rfl⟩
            refine lv_i2l (v := z_562) hx hb dX10_advance_152 e_z_562.symm ?_
            obtain ⟨q_z_562, b_z_562⟩ := ti_i2l e_z_562 b_r_561
            refine lv_ldc2 (v := 48) hx hb hown (hts (.constantLong RX10 120 (48)) (List.mem_of_getElem? (i := 11) rfl)) dX10_advance_153 ?_
            refine lv_ldc2 (v := 57) hx hb hown (hts (.constantLong RX10 122 (57)) (List.mem_of_getElem? (i := 12) rfl)) dX10_advance_156 ?_
            refine vp_callSi (W.runS (As := [.long z_562, .long 48, .long 57]) (rest := []) ⟨hx, hb, hml, hown, hts⟩ (kX10_in2 l dC dI z_562 48 57 ) (va_cwS 3 hts gX10_advance__X10_in2_S82 rfl rfl rfl hd_yX10_in.2 ⟨lel 1 1 rfl, lel 25 25 rfl⟩) ⟨pn_fb, pn_use⟩ rfl rfl hl.1 rfl (lv_room (Nat.le_of_ble_eq_true rfl)) dX10_advance_159 ⟨lel 0 0 rfl, lel 0 0 rfl⟩) (fun r_563 h_r_563 => ?_)
            obtain ⟨b_r_563, nz_r_563, zz_r_563⟩ := h_r_563
            have b_r_563 : (0 : Int) ≤ r_563.toInt ∧ r_563.toInt ≤ 1 := b_r_563
            refine lv_if_eq (tgt := 206) hx hb dX10_advance_162 (by decide) (fun c_564 => ?_) (fun c_564 => ?_)
            ·
              have n_c_564 : (r_563.toInt : Int) = 0 := c_eq rfl (by decide) c_564
              have b_r_563 : (0 : Int) ≤ r_563.toInt ∧ r_563.toInt ≤ 0 := r_eq1 b_r_563 (by decide : (0 : Int) ≤ (0 : Int32).toInt ∧ (0 : Int32).toInt ≤ 0) n_c_564 (by decide)
              have g_565 := zz_r_563 c_564
              have lt0_g_565 := (by decide : (48 : Int64).toInt = 48)
              have lt1_g_565 := (by decide : (57 : Int64).toInt = 57)
              have hne : y_398.toInt < y_535.toInt := by
                rcases (show y_398.toInt < y_535.toInt ∨ y_535.toInt ≤ y_398.toInt from by omega) with h9 | h9
                · exact h9
                · have e9 := congrArg Int32.toInt (seef_eq pr_r_505 pr_r_561 (show y_535.toInt = y_398.toInt from by omega))
                  omega
              refine lv_aload_n hx hb dX10_advance_206 rfl (lv_at hl 1 rfl) ?_
              refine lv_iconst (v := 2) hx hb dX10_advance_207 (by decide) ?_
              refine va_put (D := (dC, dI)) (ci := 8) (v := .int 2) (ty := .int) (C := RX10) (T := TX10) (N := 33) hx hb hts iX10_advance_X10 tyX10 tyX10_ok nmX10 hown hK hP hD hS 0 rfl rfl 11 (by decide) (hts (.fieldLink RX10 113 "LuckyTicketModel" "token" "I") (List.mem_of_getElem? (i := 13) rfl)) (fun _ h9 => h9) rfl (by decide +kernel) rfl rfl (Nat.le_of_ble_eq_true rfl) dX10_advance_208 (fun H locs hP hD hS => ?_)
              have hP : va_P (dC, dI) vwCl [(o0, .inr (8, [.int x_th, .ref mwo, .ref mim, .ref mhi, .ref mlu, .ref mtp, .int x_td, .ref mfv, .int x_sz, .int y_535, .int y_398, .int 2, .int y_536, .int x_fk, .int x_fp, .ref mfr, .ref mwt, .int x_wt, .int x_op, .int x_jo, .ref mfg, .ref mpl, .long x_dr, .ref mtm, .ref mfa, .ref mqu, .ref mmo, .ref mwy, .ref mwn, .ref mma, .ref mwi, .ref mnu, .ref mmv])), (mtp, .inl (c_tp, 1200, .inl w_tp))] H := hP
              have hD : va_D A [(o0, .inr (8, [.int x_th, .ref mwo, .ref mim, .ref mhi, .ref mlu, .ref mtp, .int x_td, .ref mfv, .int x_sz, .int y_535, .int y_398, .int 2, .int y_536, .int x_fk, .int x_fp, .ref mfr, .ref mwt, .int x_wt, .int x_op, .int x_jo, .ref mfg, .ref mpl, .long x_dr, .ref mtm, .ref mfa, .ref mqu, .ref mmo, .ref mwy, .ref mwn, .ref mma, .ref mwi, .ref mnu, .ref mmv])), (mtp, .inl (c_tp, 1200, .inl w_tp))] := hD
              refine lv_goto (tgt := 260) hx hb dX10_advance_211 (by decide) ?_
              have hP9 := hP.sub (ws' := [(o0, .inr (8, [.int x_th, .ref mwo, .ref mim, .ref mhi, .ref mlu, .ref mtp, .int x_td, .ref mfv, .int x_sz, .int y_535, .int y_398, .int 2, .int y_536, .int x_fk, .int x_fp, .ref mfr, .ref mwt, .int x_wt, .int x_op, .int x_jo, .ref mfg, .ref mpl, .long x_dr, .ref mtm, .ref mfa, .ref mqu, .ref mmo, .ref mwy, .ref mwn, .ref mma, .ref mwi, .ref mnu, .ref mmv])), (mtp, .inl (c_tp, 1200, .inl w_tp))]) [0, 1] rfl
              have hD9 := hD.sub (ws' := [(o0, .inr (8, [.int x_th, .ref mwo, .ref mim, .ref mhi, .ref mlu, .ref mtp, .int x_td, .ref mfv, .int x_sz, .int y_535, .int y_398, .int 2, .int y_536, .int x_fk, .int x_fp, .ref mfr, .ref mwt, .int x_wt, .int x_op, .int x_jo, .ref mfg, .ref mpl, .long x_dr, .ref mtm, .ref mfa, .ref mqu, .ref mmo, .ref mwy, .ref mwn, .ref mma, .ref mwi, .ref mnu, .ref mmv])), (mtp, .inl (c_tp, 1200, .inl w_tp))]) [0, 1] (by decide) rfl
              have hK9 := hK.sub (tys' := [(c_tp, .byte)]) [0] rfl
              exact W.vret hx hb hr (fun t ht hW => ⟨⟨(), rfl, trivial, y_535, y_398, 2, y_536, b_y_535, b_y_398, (rg_w (by decide : (2 : Int) ≤ (2 : Int32).toInt ∧ (2 : Int32).toInt ≤ 2) (by decide) (by decide)), (by have zl : (2 : Int32).toInt = 2 := (by decide); omega), (by have zl : (2 : Int32).toInt = 2 := (by decide); omega), (by have zl : (2 : Int32).toInt = 2 := (by decide); omega), by rw [ht]; exact hP9, va_K.moved hW.alike hK9, hD9⟩, hS.F ht⟩) hS.2.2 dX10_advance_260
            ·
              have n_c_564 : (r_563.toInt : Int) ≠ 0 := c_ne rfl (by decide) c_564
              have b_r_563 : (1 : Int) ≤ r_563.toInt ∧ r_563.toInt ≤ 1 := r_ne1 b_r_563 (by decide : (0 : Int) ≤ (0 : Int32).toInt ∧ (0 : Int32).toInt ≤ 0) n_c_564 (by decide)
              have g_566 := nz_r_563 c_564
              have lt0_g_566 := (by decide : (48 : Int64).toInt = 48)
              have lt1_g_566 := (by decide : (57 : Int64).toInt = 57)
              have b_z_562 : (48 : Int) ≤ z_562.toInt ∧ z_562.toInt ≤ 57 := by
                have q0 := b_z_562
                have q1 := (by decide : (48 : Int) ≤ (48 : Int64).toInt ∧ (48 : Int64).toInt ≤ 48)
                have q2 := (by decide : (57 : Int) ≤ (57 : Int64).toInt ∧ (57 : Int64).toInt ≤ 57)
                omega
              have b_r_561 : (48 : Int) ≤ r_561.toInt ∧ r_561.toInt ≤ 57 := by
                have q0 := b_z_562; have q1 := q_z_562; have q2 := b_r_561; omega
              have hlt : y_535.toInt < x_sz.toInt := seef_lt pr_r_561 (by omega)
              have b_y_535 : (0 : Int) ≤ y_535.toInt ∧ y_535.toInt ≤ 1199 := ⟨by omega, by omega⟩
              refine lv_aload_n hx hb dX10_advance_165 rfl (lv_at hl 1 rfl) ?_
              refine lv_ldc (v := 99999) hx hb hown (hts (.constant RX10 127 (99999)) (List.mem_of_getElem? (i := 15) rfl)) dX10_advance_166 ?_
              refine lv_bipush (v := 10) hx hb dX10_advance_168 (by decide) ?_
              refine lv_aload_n hx hb dX10_advance_170 rfl (lv_at hl 1 rfl) ?_
              refine va_get (D := (dC, dI)) (ci := 8) (v := .int y_536) (C := RX10) (T := TX10) (N := 33) hx hb hts iX10_advance_X10 hown hK hP 0 rfl rfl 12 (by decide) (hts (.fieldLink RX10 124 "LuckyTicketModel" "value" "I") (List.mem_of_getElem? (i := 14) rfl)) (fun _ h9 => h9) rfl dX10_advance_171 ?_
              refine lv_imul hx hb dX10_advance_174 ?_
              refine lv_topi (fun z_567 e_z_567 => ?_)
              refine lv_aload_n hx hb dX10_advance_175 rfl (lv_at hl 1 rfl) ?_
              refine lv_aload_n hx hb dX10_advance_176 rfl (lv_at hl 1 rfl) ?_
              refine va_get (D := (dC, dI)) (ci := 8) (v := .int y_535) (C := RX10) (T := TX10) (N := 33) hx hb hts iX10_advance_X10 hown hK hP 0 rfl rfl 9 (by decide) (hts (.fieldLink RX10 103 "LuckyTicketModel" "at" "I") (List.mem_of_getElem? (i := 1) rfl)) (fun _ h9 => h9) rfl dX10_advance_177 ?_
              refine vp_callSi (W.runV (As := [.int y_535]) (rest := [.int z_567, .int 99999, .ref o0]) ⟨hx, hb, hml, hown, hts⟩ (kX10_see l dC dI o0 x_th mwo mim mhi mlu mtp x_td mfv x_sz y_535 y_398 x_to y_536 x_fk x_fp mfr mwt x_wt x_op x_jo mfg mpl x_dr mtm mfa mqu mmo mwy mwn mma mwi mnu mmv c_tp w_tp y_535 b_x_sz (rg_w b_y_535 (by decide) (by decide)) b_y_398 b_x_to b_x_fk (by omega)) (cwV 1 hts gX10_advance__X10_see_V106 rfl rfl rfl hd_yX10_see ⟨lel 1 1 rfl, lel 21 25 rfl⟩) ⟨pw_fb, rcv_X10 hK hP (q0 := 0) rfl, (pw_use hP hK hN [0, 1] rfl [0] rfl)⟩ rfl rfl hl.1 rfl (lv_room (Nat.le_of_ble_eq_true rfl)) dX10_advance_180 ⟨lel 0 0 rfl, lel 0 0 rfl⟩) (fun r_568 h_r_568 => ?_)
              obtain ⟨b_r_568, pr_r_568⟩ := h_r_568
              have b_r_568 : (-1 : Int) ≤ r_568.toInt ∧ r_568.toInt ≤ 255 := b_r_568
              refine lv_iadd hx hb dX10_advance_183 ?_
              refine lv_topi (fun z_569 e_z_569 => ?_)
              refine lv_bipush (v := 48) hx hb dX10_advance_184 (by decide) ?_
              refine lv_isub hx hb dX10_advance_186 ?_
              refine lv_topi (fun z_570 e_z_570 => ?_)
              refine va_mmin hx hb (hml.trans hl.1.symm) hown (hts (.methodLink RX10 128 yJ9_min_7cf53) (List.mem_of_getElem? (i := 16) rfl)) (hts (.static yJ9_min_7cf53) (List.mem_of_getElem? (i := 17) rfl)) (hts (.initialized RJ9) (List.mem_of_getElem? (i := 18) rfl)) (hts (.code yJ9_min_7cf53 cJ9_min_7cf53 2 (some .int)) (List.mem_of_getElem? (i := 19) rfl)) (lel 1 1 rfl) (Nat.le_of_ble_eq_true rfl) (lel 0 0 rfl) (lel 0 0 rfl) dX10_advance_187 ?_
              refine lv_topi (fun z_571 e_z_571 => ?_)
              have q_z_571 := ti_min e_z_571 (by decide : (99999 : Int32).toInt = 99999) rfl
              have b_z_571 : (-2147483648 : Int) ≤ z_571.toInt ∧ z_571.toInt ≤ 99999 := by
                have q0 := (by decide : (99999 : Int) ≤ (99999 : Int32).toInt ∧ (99999 : Int32).toInt ≤ 99999); have q1 := (ti_rng z_570)
                have q2 := (by decide : (99999 : Int32).toInt = 99999)
                omega
              refine va_put (D := (dC, dI)) (ci := 8) (v := .int z_571) (ty := .int) (C := RX10) (T := TX10) (N := 33) hx hb hts iX10_advance_X10 tyX10 tyX10_ok nmX10 hown hK hP hD hS 0 rfl rfl 12 (by decide) (hts (.fieldLink RX10 124 "LuckyTicketModel" "value" "I") (List.mem_of_getElem? (i := 14) rfl)) (fun _ h9 => h9) rfl (by decide +kernel) rfl rfl (Nat.le_of_ble_eq_true rfl) dX10_advance_190 (fun H locs hP hD hS => ?_)
              have hP : va_P (dC, dI) vwCl [(o0, .inr (8, [.int x_th, .ref mwo, .ref mim, .ref mhi, .ref mlu, .ref mtp, .int x_td, .ref mfv, .int x_sz, .int y_535, .int y_398, .int x_to, .int z_571, .int x_fk, .int x_fp, .ref mfr, .ref mwt, .int x_wt, .int x_op, .int x_jo, .ref mfg, .ref mpl, .long x_dr, .ref mtm, .ref mfa, .ref mqu, .ref mmo, .ref mwy, .ref mwn, .ref mma, .ref mwi, .ref mnu, .ref mmv])), (mtp, .inl (c_tp, 1200, .inl w_tp))] H := hP
              have hD : va_D A [(o0, .inr (8, [.int x_th, .ref mwo, .ref mim, .ref mhi, .ref mlu, .ref mtp, .int x_td, .ref mfv, .int x_sz, .int y_535, .int y_398, .int x_to, .int z_571, .int x_fk, .int x_fp, .ref mfr, .ref mwt, .int x_wt, .int x_op, .int x_jo, .ref mfg, .ref mpl, .long x_dr, .ref mtm, .ref mfa, .ref mqu, .ref mmo, .ref mwy, .ref mwn, .ref mma, .ref mwi, .ref mnu, .ref mmv])), (mtp, .inl (c_tp, 1200, .inl w_tp))] := hD
              refine lv_aload_n hx hb dX10_advance_193 rfl (lv_at hl 1 rfl) ?_
              refine lv_dup hx hb dX10_advance_194 rfl ?_
              refine va_get (D := (dC, dI)) (ci := 8) (v := .int y_535) (C := RX10) (T := TX10) (N := 33) hx hb hts iX10_advance_X10 hown hK hP 0 rfl rfl 9 (by decide) (hts (.fieldLink RX10 103 "LuckyTicketModel" "at" "I") (List.mem_of_getElem? (i := 1) rfl)) (fun _ h9 => h9) rfl dX10_advance_195 ?_
              refine lv_iconst (v := 1) hx hb dX10_advance_198 (by decide) ?_
              refine lv_iadd hx hb dX10_advance_199 ?_
              refine lv_topi (fun z_572 e_z_572 => ?_)
              obtain ⟨q_z_572, b_z_572⟩ := ti_add (lo := 1) (hi := 1200) e_z_572 rfl (by decide : (1 : Int32).toInt = 1) b_y_535 (by decide : (1 : Int) ≤ (1 : Int32).toInt ∧ (1 : Int32).toInt ≤ 1) (by decide)
              refine va_put (D := (dC, dI)) (ci := 8) (v := .int z_572) (ty := .int) (C := RX10) (T := TX10) (N := 33) hx hb hts iX10_advance_X10 tyX10 tyX10_ok nmX10 hown hK hP hD hS 0 rfl rfl 9 (by decide) (hts (.fieldLink RX10 103 "LuckyTicketModel" "at" "I") (List.mem_of_getElem? (i := 1) rfl)) (fun _ h9 => h9) rfl (by decide +kernel) rfl rfl (Nat.le_of_ble_eq_true rfl) dX10_advance_200 (fun H locs hP hD hS => ?_)
              have hP : va_P (dC, dI) vwCl [(o0, .inr (8, [.int x_th, .ref mwo, .ref mim, .ref mhi, .ref mlu, .ref mtp, .int x_td, .ref mfv, .int x_sz, .int z_572, .int y_398, .int x_to, .int z_571, .int x_fk, .int x_fp, .ref mfr, .ref mwt, .int x_wt, .int x_op, .int x_jo, .ref mfg, .ref mpl, .long x_dr, .ref mtm, .ref mfa, .ref mqu, .ref mmo, .ref mwy, .ref mwn, .ref mma, .ref mwi, .ref mnu, .ref mmv])), (mtp, .inl (c_tp, 1200, .inl w_tp))] H := hP
              have hD : va_D A [(o0, .inr (8, [.int x_th, .ref mwo, .ref mim, .ref mhi, .ref mlu, .ref mtp, .int x_td, .ref mfv, .int x_sz, .int z_572, .int y_398, .int x_to, .int z_571, .int x_fk, .int x_fp, .ref mfr, .ref mwt, .int x_wt, .int x_op, .int x_jo, .ref mfg, .ref mpl, .long x_dr, .ref mtm, .ref mfa, .ref mqu, .ref mmo, .ref mwy, .ref mwn, .ref mma, .ref mwi, .ref mnu, .ref mmv])), (mtp, .inl (c_tp, 1200, .inl w_tp))] := hD
              refine lv_goto (tgt := 144) hx hb dX10_advance_203 (by decide) ?_
              exact ih_144_560 (z_572, z_571) _ _ _ ⟨(show (0 : Int) ≤ z_572.toInt ∧ z_572.toInt ≤ 1200 from (rg_w b_z_572 (by decide) (by decide))), (show (-2147483648 : Int) ≤ z_571.toInt ∧ z_571.toInt ≤ 99999 from b_z_571), (show y_398.toInt ≤ z_572.toInt ∧ z_572.toInt ≤ x_sz.toInt from (by omega)), hP, hD, hS, lv_sub hl [0, 1] rfl⟩ (show (x_sz.toInt - z_572.toInt).toNat < (x_sz.toInt - y_535.toInt).toNat by omega)
        ·
          have n_c_509 : (r_508.toInt : Int) ≠ 0 := c_ne rfl (by decide) c_509
          have b_r_508 : (1 : Int) ≤ r_508.toInt ∧ r_508.toInt ≤ 1 := r_ne1 b_r_508 (by decide : (0 : Int) ≤ (0 : Int32).toInt ∧ (0 : Int32).toInt ≤ 0) n_c_509 (by decide)
          have g_573 := nz_r_508 c_509
          have lt0_g_573 := (by decide : (97 : Int64).toInt = 97)
          have lt1_g_573 := (by decide : (122 : Int64).toInt = 122)
          have b_z_507 : (97 : Int) ≤ z_507.toInt ∧ z_507.toInt ≤ 122 := by
            have q0 := b_z_507
            have q1 := (by decide : (97 : Int) ≤ (97 : Int64).toInt ∧ (97 : Int64).toInt ≤ 97)
            have q2 := (by decide : (122 : Int) ≤ (122 : Int64).toInt ∧ (122 : Int64).toInt ≤ 122)
            omega
          have b_r_505 : (97 : Int) ≤ r_505.toInt ∧ r_505.toInt ≤ 122 := by
            have q0 := b_z_507; have q1 := q_z_507; have q2 := b_r_505; omega
          refine loopW (σ := Int32) (fun v => (x_sz.toInt - v.toInt).toNat) (fun v H locs ls => ((0 : Int) ≤ v.toInt ∧ v.toInt ≤ 1200) ∧ (y_398.toInt ≤ v.toInt ∧ v.toInt ≤ x_sz.toInt) ∧ va_P (dC, dI) vwCl [(o0, .inr (8, [.int x_th, .ref mwo, .ref mim, .ref mhi, .ref mlu, .ref mtp, .int x_td, .ref mfv, .int x_sz, .int v, .int y_398, .int x_to, .int x_va, .int x_fk, .int x_fp, .ref mfr, .ref mwt, .int x_wt, .int x_op, .int x_jo, .ref mfg, .ref mpl, .long x_dr, .ref mtm, .ref mfa, .ref mqu, .ref mmo, .ref mwy, .ref mwn, .ref mma, .ref mwi, .ref mnu, .ref mmv])), (mtp, .inl (c_tp, 1200, .inl w_tp))] H ∧ va_D A [(o0, .inr (8, [.int x_th, .ref mwo, .ref mim, .ref mhi, .ref mlu, .ref mtp, .int x_td, .ref mfv, .int x_sz, .int v, .int y_398, .int x_to, .int x_va, .int x_fk, .int x_fp, .ref mfr, .ref mwt, .int x_wt, .int x_op, .int x_jo, .ref mfg, .ref mpl, .long x_dr, .ref mtm, .ref mfa, .ref mqu, .ref mmo, .ref mwy, .ref mwn, .ref mma, .ref mwi, .ref mnu, .ref mmv])), (mtp, .inl (c_tp, 1200, .inl w_tp))] ∧ va_S A s.heap H locs ∧ lv_has ls 2 [(1, .int r_505), (0, .ref o0)]) (fun v H locs ls hI ih_83_588 => ?_) y_398 ⟨(show (0 : Int) ≤ y_398.toInt ∧ y_398.toInt ≤ 1200 from b_y_398), (show y_398.toInt ≤ y_398.toInt ∧ y_398.toInt ≤ x_sz.toInt from (by omega)), hP, hD, hS, lv_sub hl [0, 1] rfl⟩
          obtain ⟨y_581, rfl⟩ : ∃ z, z = v := ⟨_, rfl⟩
          obtain ⟨b_y_581, hlq, hP, hD, hS, hl⟩ := hI
          have b_y_581 : (0 : Int) ≤ y_581.toInt ∧ y_581.toInt ≤ 1200 := b_y_581
          have hlq : y_398.toInt ≤ y_581.toInt ∧ y_581.toInt ≤ x_sz.toInt := hlq
          have hP : va_P (dC, dI) vwCl [(o0, .inr (8, [.int x_th, .ref mwo, .ref mim, .ref mhi, .ref mlu, .ref mtp, .int x_td, .ref mfv, .int x_sz, .int y_581, .int y_398, .int x_to, .int x_va, .int x_fk, .int x_fp, .ref mfr, .ref mwt, .int x_wt, .int x_op, .int x_jo, .ref mfg, .ref mpl, .long x_dr, .ref mtm, .ref mfa, .ref mqu, .ref mmo, .ref mwy, .ref mwn, .ref mma, .ref mwi, .ref mnu, .ref mmv])), (mtp, .inl (c_tp, 1200, .inl w_tp))] H := hP
          have hD : va_D A [(o0, .inr (8, [.int x_th, .ref mwo, .ref mim, .ref mhi, .ref mlu, .ref mtp, .int x_td, .ref mfv, .int x_sz, .int y_581, .int y_398, .int x_to, .int x_va, .int x_fk, .int x_fp, .ref mfr, .ref mwt, .int x_wt, .int x_op, .int x_jo, .ref mfg, .ref mpl, .long x_dr, .ref mtm, .ref mfa, .ref mqu, .ref mmo, .ref mwy, .ref mwn, .ref mma, .ref mwi, .ref mnu, .ref mmv])), (mtp, .inl (c_tp, 1200, .inl w_tp))] := hD
          have hl : lv_has ls 2 [(1, .int r_505), (0, .ref o0)] := hl
          refine lv_aload_n hx hb dX10_advance_83 rfl (lv_at hl 1 rfl) ?_
          refine lv_aload_n hx hb dX10_advance_84 rfl (lv_at hl 1 rfl) ?_
          refine va_get (D := (dC, dI)) (ci := 8) (v := .int y_581) (C := RX10) (T := TX10) (N := 33) hx hb hts iX10_advance_X10 hown hK hP 0 rfl rfl 9 (by decide) (hts (.fieldLink RX10 103 "LuckyTicketModel" "at" "I") (List.mem_of_getElem? (i := 1) rfl)) (fun _ h9 => h9) rfl dX10_advance_85 ?_
          refine vp_callSi (W.runV (As := [.int y_581]) (rest := []) ⟨hx, hb, hml, hown, hts⟩ (kX10_see l dC dI o0 x_th mwo mim mhi mlu mtp x_td mfv x_sz y_581 y_398 x_to x_va x_fk x_fp mfr mwt x_wt x_op x_jo mfg mpl x_dr mtm mfa mqu mmo mwy mwn mma mwi mnu mmv c_tp w_tp y_581 b_x_sz b_y_581 b_y_398 b_x_to b_x_fk (by omega)) (cwV 1 hts gX10_advance__X10_see_V106 rfl rfl rfl hd_yX10_see ⟨lel 1 1 rfl, lel 21 25 rfl⟩) ⟨pw_fb, rcv_X10 hK hP (q0 := 0) rfl, (pw_use hP hK hN [0, 1] rfl [0] rfl)⟩ rfl rfl hl.1 rfl (lv_room (Nat.le_of_ble_eq_true rfl)) dX10_advance_88 ⟨lel 0 0 rfl, lel 0 0 rfl⟩) (fun r_589 h_r_589 => ?_)
          obtain ⟨b_r_589, pr_r_589⟩ := h_r_589
          have b_r_589 : (-1 : Int) ≤ r_589.toInt ∧ r_589.toInt ≤ 255 := b_r_589
          obtain ⟨z_590, e_z_590⟩ : ∃ y : Int64, y = r_589.toInt64 := ⟨_, rfl⟩
          refine lv_i2l (v := z_590) hx hb dX10_advance_91 e_z_590.symm ?_
          obtain ⟨q_z_590, b_z_590⟩ := ti_i2l e_z_590 b_r_589
          refine lv_ldc2 (v := 97) hx hb hown (hts (.constantLong RX10 116 (97)) (List.mem_of_getElem? (i := 7) rfl)) dX10_advance_92 ?_
          refine lv_ldc2 (v := 122) hx hb hown (hts (.constantLong RX10 118 (122)) (List.mem_of_getElem? (i := 8) rfl)) dX10_advance_95 ?_
          refine vp_callSi (W.runS (As := [.long z_590, .long 97, .long 122]) (rest := []) ⟨hx, hb, hml, hown, hts⟩ (kX10_in2 l dC dI z_590 97 122 ) (va_cwS 3 hts gX10_advance__X10_in2_S82 rfl rfl rfl hd_yX10_in.2 ⟨lel 1 1 rfl, lel 25 25 rfl⟩) ⟨pn_fb, pn_use⟩ rfl rfl hl.1 rfl (lv_room (Nat.le_of_ble_eq_true rfl)) dX10_advance_98 ⟨lel 0 0 rfl, lel 0 0 rfl⟩) (fun r_591 h_r_591 => ?_)
          obtain ⟨b_r_591, nz_r_591, zz_r_591⟩ := h_r_591
          have b_r_591 : (0 : Int) ≤ r_591.toInt ∧ r_591.toInt ≤ 1 := b_r_591
          refine lv_if_eq (tgt := 117) hx hb dX10_advance_101 (by decide) (fun c_592 => ?_) (fun c_592 => ?_)
          ·
            have n_c_592 : (r_591.toInt : Int) = 0 := c_eq rfl (by decide) c_592
            have b_r_591 : (0 : Int) ≤ r_591.toInt ∧ r_591.toInt ≤ 0 := r_eq1 b_r_591 (by decide : (0 : Int) ≤ (0 : Int32).toInt ∧ (0 : Int32).toInt ≤ 0) n_c_592 (by decide)
            have g_593 := zz_r_591 c_592
            have lt0_g_593 := (by decide : (97 : Int64).toInt = 97)
            have lt1_g_593 := (by decide : (122 : Int64).toInt = 122)
            have hne : y_398.toInt < y_581.toInt := by
              rcases (show y_398.toInt < y_581.toInt ∨ y_581.toInt ≤ y_398.toInt from by omega) with h9 | h9
              · exact h9
              · have e9 := congrArg Int32.toInt (seef_eq pr_r_505 pr_r_589 (show y_581.toInt = y_398.toInt from by omega))
                omega
            refine lv_aload_n hx hb dX10_advance_117 rfl (lv_at hl 1 rfl) ?_
            refine lv_iconst (v := 1) hx hb dX10_advance_118 (by decide) ?_
            refine va_put (D := (dC, dI)) (ci := 8) (v := .int 1) (ty := .int) (C := RX10) (T := TX10) (N := 33) hx hb hts iX10_advance_X10 tyX10 tyX10_ok nmX10 hown hK hP hD hS 0 rfl rfl 11 (by decide) (hts (.fieldLink RX10 113 "LuckyTicketModel" "token" "I") (List.mem_of_getElem? (i := 13) rfl)) (fun _ h9 => h9) rfl (by decide +kernel) rfl rfl (Nat.le_of_ble_eq_true rfl) dX10_advance_119 (fun H locs hP hD hS => ?_)
            have hP : va_P (dC, dI) vwCl [(o0, .inr (8, [.int x_th, .ref mwo, .ref mim, .ref mhi, .ref mlu, .ref mtp, .int x_td, .ref mfv, .int x_sz, .int y_581, .int y_398, .int 1, .int x_va, .int x_fk, .int x_fp, .ref mfr, .ref mwt, .int x_wt, .int x_op, .int x_jo, .ref mfg, .ref mpl, .long x_dr, .ref mtm, .ref mfa, .ref mqu, .ref mmo, .ref mwy, .ref mwn, .ref mma, .ref mwi, .ref mnu, .ref mmv])), (mtp, .inl (c_tp, 1200, .inl w_tp))] H := hP
            have hD : va_D A [(o0, .inr (8, [.int x_th, .ref mwo, .ref mim, .ref mhi, .ref mlu, .ref mtp, .int x_td, .ref mfv, .int x_sz, .int y_581, .int y_398, .int 1, .int x_va, .int x_fk, .int x_fp, .ref mfr, .ref mwt, .int x_wt, .int x_op, .int x_jo, .ref mfg, .ref mpl, .long x_dr, .ref mtm, .ref mfa, .ref mqu, .ref mmo, .ref mwy, .ref mwn, .ref mma, .ref mwi, .ref mnu, .ref mmv])), (mtp, .inl (c_tp, 1200, .inl w_tp))] := hD
            refine lv_goto (tgt := 260) hx hb dX10_advance_122 (by decide) ?_
            have hP9 := hP.sub (ws' := [(o0, .inr (8, [.int x_th, .ref mwo, .ref mim, .ref mhi, .ref mlu, .ref mtp, .int x_td, .ref mfv, .int x_sz, .int y_581, .int y_398, .int 1, .int x_va, .int x_fk, .int x_fp, .ref mfr, .ref mwt, .int x_wt, .int x_op, .int x_jo, .ref mfg, .ref mpl, .long x_dr, .ref mtm, .ref mfa, .ref mqu, .ref mmo, .ref mwy, .ref mwn, .ref mma, .ref mwi, .ref mnu, .ref mmv])), (mtp, .inl (c_tp, 1200, .inl w_tp))]) [0, 1] rfl
            have hD9 := hD.sub (ws' := [(o0, .inr (8, [.int x_th, .ref mwo, .ref mim, .ref mhi, .ref mlu, .ref mtp, .int x_td, .ref mfv, .int x_sz, .int y_581, .int y_398, .int 1, .int x_va, .int x_fk, .int x_fp, .ref mfr, .ref mwt, .int x_wt, .int x_op, .int x_jo, .ref mfg, .ref mpl, .long x_dr, .ref mtm, .ref mfa, .ref mqu, .ref mmo, .ref mwy, .ref mwn, .ref mma, .ref mwi, .ref mnu, .ref mmv])), (mtp, .inl (c_tp, 1200, .inl w_tp))]) [0, 1] (by decide) rfl
            have hK9 := hK.sub (tys' := [(c_tp, .byte)]) [0] rfl
            exact W.vret hx hb hr (fun t ht hW => ⟨⟨(), rfl, trivial, y_581, y_398, 1, x_va, b_y_581, b_y_398, (rg_w (by decide : (1 : Int) ≤ (1 : Int32).toInt ∧ (1 : Int32).toInt ≤ 1) (by decide) (by decide)), (by have zl : (1 : Int32).toInt = 1 := (by decide); omega), (by have zl : (1 : Int32).toInt = 1 := (by decide); omega), (by have zl : (1 : Int32).toInt = 1 := (by decide); omega), by rw [ht]; exact hP9, va_K.moved hW.alike hK9, hD9⟩, hS.F ht⟩) hS.2.2 dX10_advance_260
          ·
            have n_c_592 : (r_591.toInt : Int) ≠ 0 := c_ne rfl (by decide) c_592
            have b_r_591 : (1 : Int) ≤ r_591.toInt ∧ r_591.toInt ≤ 1 := r_ne1 b_r_591 (by decide : (0 : Int) ≤ (0 : Int32).toInt ∧ (0 : Int32).toInt ≤ 0) n_c_592 (by decide)
            have g_594 := nz_r_591 c_592
            have lt0_g_594 := (by decide : (97 : Int64).toInt = 97)
            have lt1_g_594 := (by decide : (122 : Int64).toInt = 122)
            have b_z_590 : (97 : Int) ≤ z_590.toInt ∧ z_590.toInt ≤ 122 := by
              have q0 := b_z_590
              have q1 := (by decide : (97 : Int) ≤ (97 : Int64).toInt ∧ (97 : Int64).toInt ≤ 97)
              have q2 := (by decide : (122 : Int) ≤ (122 : Int64).toInt ∧ (122 : Int64).toInt ≤ 122)
              omega
            have b_r_589 : (97 : Int) ≤ r_589.toInt ∧ r_589.toInt ≤ 122 := by
              have q0 := b_z_590; have q1 := q_z_590; have q2 := b_r_589; omega
            have hlt : y_581.toInt < x_sz.toInt := seef_lt pr_r_589 (by omega)
            have b_y_581 : (0 : Int) ≤ y_581.toInt ∧ y_581.toInt ≤ 1199 := ⟨by omega, by omega⟩
            refine lv_aload_n hx hb dX10_advance_104 rfl (lv_at hl 1 rfl) ?_
            refine lv_dup hx hb dX10_advance_105 rfl ?_
            refine va_get (D := (dC, dI)) (ci := 8) (v := .int y_581) (C := RX10) (T := TX10) (N := 33) hx hb hts iX10_advance_X10 hown hK hP 0 rfl rfl 9 (by decide) (hts (.fieldLink RX10 103 "LuckyTicketModel" "at" "I") (List.mem_of_getElem? (i := 1) rfl)) (fun _ h9 => h9) rfl dX10_advance_106 ?_
            refine lv_iconst (v := 1) hx hb dX10_advance_109 (by decide) ?_
            refine lv_iadd hx hb dX10_advance_110 ?_
            refine lv_topi (fun z_595 e_z_595 => ?_)
            obtain ⟨q_z_595, b_z_595⟩ := ti_add (lo := 1) (hi := 1200) e_z_595 rfl (by decide : (1 : Int32).toInt = 1) b_y_581 (by decide : (1 : Int) ≤ (1 : Int32).toInt ∧ (1 : Int32).toInt ≤ 1) (by decide)
            refine va_put (D := (dC, dI)) (ci := 8) (v := .int z_595) (ty := .int) (C := RX10) (T := TX10) (N := 33) hx hb hts iX10_advance_X10 tyX10 tyX10_ok nmX10 hown hK hP hD hS 0 rfl rfl 9 (by decide) (hts (.fieldLink RX10 103 "LuckyTicketModel" "at" "I") (List.mem_of_getElem? (i := 1) rfl)) (fun _ h9 => h9) rfl (by decide +kernel) rfl rfl (Nat.le_of_ble_eq_true rfl) dX10_advance_111 (fun H locs hP hD hS => ?_)
            have hP : va_P (dC, dI) vwCl [(o0, .inr (8, [.int x_th, .ref mwo, .ref mim, .ref mhi, .ref mlu, .ref mtp, .int x_td, .ref mfv, .int x_sz, .int z_595, .int y_398, .int x_to, .int x_va, .int x_fk, .int x_fp, .ref mfr, .ref mwt, .int x_wt, .int x_op, .int x_jo, .ref mfg, .ref mpl, .long x_dr, .ref mtm, .ref mfa, .ref mqu, .ref mmo, .ref mwy, .ref mwn, .ref mma, .ref mwi, .ref mnu, .ref mmv])), (mtp, .inl (c_tp, 1200, .inl w_tp))] H := hP
            have hD : va_D A [(o0, .inr (8, [.int x_th, .ref mwo, .ref mim, .ref mhi, .ref mlu, .ref mtp, .int x_td, .ref mfv, .int x_sz, .int z_595, .int y_398, .int x_to, .int x_va, .int x_fk, .int x_fp, .ref mfr, .ref mwt, .int x_wt, .int x_op, .int x_jo, .ref mfg, .ref mpl, .long x_dr, .ref mtm, .ref mfa, .ref mqu, .ref mmo, .ref mwy, .ref mwn, .ref mma, .ref mwi, .ref mnu, .ref mmv])), (mtp, .inl (c_tp, 1200, .inl w_tp))] := hD
            refine lv_goto (tgt := 83) hx hb dX10_advance_114 (by decide) ?_
            exact ih_83_588 z_595 _ _ _ ⟨(show (0 : Int) ≤ z_595.toInt ∧ z_595.toInt ≤ 1200 from (rg_w b_z_595 (by decide) (by decide))), (show y_398.toInt ≤ z_595.toInt ∧ z_595.toInt ≤ x_sz.toInt from (by omega)), hP, hD, hS, lv_sub hl [0, 1] rfl⟩ (show (x_sz.toInt - z_595.toInt).toNat < (x_sz.toInt - y_581.toInt).toNat by omega)
      ·
        have n_c_506 : (r_505.toInt : Int) = (-1) := c_eq rfl (by decide) c_506
        have b_r_505 : (-1 : Int) ≤ r_505.toInt ∧ r_505.toInt ≤ -1 := r_eq1 b_r_505 (by decide : (-1 : Int) ≤ ((-1) : Int32).toInt ∧ ((-1) : Int32).toInt ≤ -1) n_c_506 (by decide)
        refine lv_aload_n hx hb dX10_advance_61 rfl (lv_at hl 1 rfl) ?_
        refine lv_iconst (v := 0) hx hb dX10_advance_62 (by decide) ?_
        refine va_put (D := (dC, dI)) (ci := 8) (v := .int 0) (ty := .int) (C := RX10) (T := TX10) (N := 33) hx hb hts iX10_advance_X10 tyX10 tyX10_ok nmX10 hown hK hP hD hS 0 rfl rfl 11 (by decide) (hts (.fieldLink RX10 113 "LuckyTicketModel" "token" "I") (List.mem_of_getElem? (i := 13) rfl)) (fun _ h9 => h9) rfl (by decide +kernel) rfl rfl (Nat.le_of_ble_eq_true rfl) dX10_advance_63 (fun H locs hP hD hS => ?_)
        have hP : va_P (dC, dI) vwCl [(o0, .inr (8, [.int x_th, .ref mwo, .ref mim, .ref mhi, .ref mlu, .ref mtp, .int x_td, .ref mfv, .int x_sz, .int y_398, .int y_398, .int 0, .int x_va, .int x_fk, .int x_fp, .ref mfr, .ref mwt, .int x_wt, .int x_op, .int x_jo, .ref mfg, .ref mpl, .long x_dr, .ref mtm, .ref mfa, .ref mqu, .ref mmo, .ref mwy, .ref mwn, .ref mma, .ref mwi, .ref mnu, .ref mmv])), (mtp, .inl (c_tp, 1200, .inl w_tp))] H := hP
        have hD : va_D A [(o0, .inr (8, [.int x_th, .ref mwo, .ref mim, .ref mhi, .ref mlu, .ref mtp, .int x_td, .ref mfv, .int x_sz, .int y_398, .int y_398, .int 0, .int x_va, .int x_fk, .int x_fp, .ref mfr, .ref mwt, .int x_wt, .int x_op, .int x_jo, .ref mfg, .ref mpl, .long x_dr, .ref mtm, .ref mfa, .ref mqu, .ref mmo, .ref mwy, .ref mwn, .ref mma, .ref mwi, .ref mnu, .ref mmv])), (mtp, .inl (c_tp, 1200, .inl w_tp))] := hD
        refine lv_goto (tgt := 260) hx hb dX10_advance_66 (by decide) ?_
        have hP9 := hP.sub (ws' := [(o0, .inr (8, [.int x_th, .ref mwo, .ref mim, .ref mhi, .ref mlu, .ref mtp, .int x_td, .ref mfv, .int x_sz, .int y_398, .int y_398, .int 0, .int x_va, .int x_fk, .int x_fp, .ref mfr, .ref mwt, .int x_wt, .int x_op, .int x_jo, .ref mfg, .ref mpl, .long x_dr, .ref mtm, .ref mfa, .ref mqu, .ref mmo, .ref mwy, .ref mwn, .ref mma, .ref mwi, .ref mnu, .ref mmv])), (mtp, .inl (c_tp, 1200, .inl w_tp))]) [0, 1] rfl
        have hD9 := hD.sub (ws' := [(o0, .inr (8, [.int x_th, .ref mwo, .ref mim, .ref mhi, .ref mlu, .ref mtp, .int x_td, .ref mfv, .int x_sz, .int y_398, .int y_398, .int 0, .int x_va, .int x_fk, .int x_fp, .ref mfr, .ref mwt, .int x_wt, .int x_op, .int x_jo, .ref mfg, .ref mpl, .long x_dr, .ref mtm, .ref mfa, .ref mqu, .ref mmo, .ref mwy, .ref mwn, .ref mma, .ref mwi, .ref mnu, .ref mmv])), (mtp, .inl (c_tp, 1200, .inl w_tp))]) [0, 1] (by decide) rfl
        have hK9 := hK.sub (tys' := [(c_tp, .byte)]) [0] rfl
        exact W.vret hx hb hr (fun t ht hW => ⟨⟨(), rfl, trivial, y_398, y_398, 0, x_va, b_y_398, b_y_398, (rg_w (by decide : (0 : Int) ≤ (0 : Int32).toInt ∧ (0 : Int32).toInt ≤ 0) (by decide) (by decide)), (by have zl : (0 : Int32).toInt = 0 := (by decide); omega), (by have zl : (0 : Int32).toInt = 0 := (by decide); omega), (by have zl : (0 : Int32).toInt = 0 := (by decide); omega), by rw [ht]; exact hP9, va_K.moved hW.alike hK9, hD9⟩, hS.F ht⟩) hS.2.2 dX10_advance_260
    ·
      have n_c_503 : (r_502.toInt : Int) = 10 := c_eq rfl (by decide) c_503
      have b_r_502 : (10 : Int) ≤ r_502.toInt ∧ r_502.toInt ≤ 10 := r_eq1 b_r_502 (by decide : (10 : Int) ≤ (10 : Int32).toInt ∧ (10 : Int32).toInt ≤ 10) n_c_503 (by decide)
      have hlt : y_398.toInt < x_sz.toInt := seef_lt pr_r_502 (by omega)
      have b_y_398 : (0 : Int) ≤ y_398.toInt ∧ y_398.toInt ≤ 1199 := ⟨by omega, by omega⟩
      refine lv_aload_n hx hb dX10_advance_26 rfl (lv_at hl 0 rfl) ?_
      refine lv_dup hx hb dX10_advance_27 rfl ?_
      refine va_get (D := (dC, dI)) (ci := 8) (v := .int y_398) (C := RX10) (T := TX10) (N := 33) hx hb hts iX10_advance_X10 hown hK hP 0 rfl rfl 9 (by decide) (hts (.fieldLink RX10 103 "LuckyTicketModel" "at" "I") (List.mem_of_getElem? (i := 1) rfl)) (fun _ h9 => h9) rfl dX10_advance_28 ?_
      refine lv_iconst (v := 1) hx hb dX10_advance_31 (by decide) ?_
      refine lv_iadd hx hb dX10_advance_32 ?_
      refine lv_topi (fun z_596 e_z_596 => ?_)
      obtain ⟨q_z_596, b_z_596⟩ := ti_add (lo := 1) (hi := 1200) e_z_596 rfl (by decide : (1 : Int32).toInt = 1) b_y_398 (by decide : (1 : Int) ≤ (1 : Int32).toInt ∧ (1 : Int32).toInt ≤ 1) (by decide)
      refine va_put (D := (dC, dI)) (ci := 8) (v := .int z_596) (ty := .int) (C := RX10) (T := TX10) (N := 33) hx hb hts iX10_advance_X10 tyX10 tyX10_ok nmX10 hown hK hP hD hS 0 rfl rfl 9 (by decide) (hts (.fieldLink RX10 103 "LuckyTicketModel" "at" "I") (List.mem_of_getElem? (i := 1) rfl)) (fun _ h9 => h9) rfl (by decide +kernel) rfl rfl (Nat.le_of_ble_eq_true rfl) dX10_advance_33 (fun H locs hP hD hS => ?_)
      have hP : va_P (dC, dI) vwCl [(o0, .inr (8, [.int x_th, .ref mwo, .ref mim, .ref mhi, .ref mlu, .ref mtp, .int x_td, .ref mfv, .int x_sz, .int z_596, .int x_fr, .int x_to, .int x_va, .int x_fk, .int x_fp, .ref mfr, .ref mwt, .int x_wt, .int x_op, .int x_jo, .ref mfg, .ref mpl, .long x_dr, .ref mtm, .ref mfa, .ref mqu, .ref mmo, .ref mwy, .ref mwn, .ref mma, .ref mwi, .ref mnu, .ref mmv])), (mtp, .inl (c_tp, 1200, .inl w_tp))] H := hP
      have hD : va_D A [(o0, .inr (8, [.int x_th, .ref mwo, .ref mim, .ref mhi, .ref mlu, .ref mtp, .int x_td, .ref mfv, .int x_sz, .int z_596, .int x_fr, .int x_to, .int x_va, .int x_fk, .int x_fp, .ref mfr, .ref mwt, .int x_wt, .int x_op, .int x_jo, .ref mfg, .ref mpl, .long x_dr, .ref mtm, .ref mfa, .ref mqu, .ref mmo, .ref mwy, .ref mwn, .ref mma, .ref mwi, .ref mnu, .ref mmv])), (mtp, .inl (c_tp, 1200, .inl w_tp))] := hD
      refine lv_goto (tgt := 0) hx hb dX10_advance_36 (by decide) ?_
      exact ih_0_497 z_596 _ _ _ ⟨(show (0 : Int) ≤ z_596.toInt ∧ z_596.toInt ≤ 1200 from (rg_w b_z_596 (by decide) (by decide))), (show x_at.toInt ≤ z_596.toInt ∧ z_596.toInt ≤ x_sz.toInt from (by omega)), hP, hD, hS, lv_sub hl [0] rfl⟩ (show (x_sz.toInt - z_596.toInt).toNat < (x_sz.toInt - y_398.toInt).toNat by omega)
theorem dX10_good_0 : decode cX10_good 0 = .ok (.aload_n 0, 1) := by decide +kernel
theorem dX10_good_1 : decode cX10_good 1 = .ok (.getfield 134, 3) := by decide +kernel
theorem dX10_good_4 : decode cX10_good 4 = .ok (.ifCond .ne 7, 3) := by decide +kernel
theorem dX10_good_7 : decode cX10_good 7 = .ok (.iconst 1, 1) := by decide +kernel
theorem dX10_good_8 : decode cX10_good 8 = .ok (.goto 4, 3) := by decide +kernel
theorem dX10_good_11 : decode cX10_good 11 = .ok (.iconst 0, 1) := by decide +kernel
theorem dX10_good_12 : decode cX10_good 12 = .ok (.ireturn, 1) := by decide +kernel
theorem hd_yX10_good : yX10_good.cls = RX10 ∧ yX10_good.cls ≠ "java/lang/invoke/MethodHandle" ∧ yX10_good.cls ≠ "java/lang/invoke/VarHandle" ∧ (parseMethodDescriptor yX10_good.desc).map (fun d => d.parameters.length) = some 0 := by decide +kernel
def uX10_good : List Cond := List.cons (.code yX10_good cX10_good 1 (some .boolean)) (HAppend.hAppend ([.fieldLink RX10 134 "LuckyTicketModel" "faultKind" "I"] : List Cond) wsX100)
theorem iX10_good_X10 : ∀ w ∈ wsX100, w ∈ uX10_good := fun _ h => (List.mem_cons_of_mem _ (List.mem_append_right _ h))
theorem guX10_good : GU uX10_good := gu_cons (gu_app (by decide +kernel) gws_X10)
set_option maxHeartbeats 4000000 in
set_option maxRecDepth 100000 in
theorem kX10_good (l : Launch) (dC : Nat → ClassId) (dI : Nat → Nat → Nat) (o0 : Nat) (x_th : Int32) (mwo : Nat) (mim : Nat) (mhi : Nat) (mlu : Nat) (mtp : Nat) (x_td : Int32) (mfv : Nat) (x_sz : Int32) (x_at : Int32) (x_fr : Int32) (x_to : Int32) (x_va : Int32) (x_fk : Int32) (x_fp : Int32) (mfr : Nat) (mwt : Nat) (x_wt : Int32) (x_op : Int32) (x_jo : Int32) (mfg : Nat) (mpl : Nat) (x_dr : Int64) (mtm : Nat) (mfa : Nat) (mqu : Nat) (mmo : Nat) (mwy : Nat) (mwn : Nat) (mma : Nat) (mwi : Nat) (mnu : Nat) (mmv : Nat) (b_x_sz : (0 : Int) ≤ x_sz.toInt ∧ x_sz.toInt ≤ 1200) (b_x_at : (0 : Int) ≤ x_at.toInt ∧ x_at.toInt ≤ 1200) (b_x_fr : (0 : Int) ≤ x_fr.toInt ∧ x_fr.toInt ≤ 1200) (b_x_to : (0 : Int) ≤ x_to.toInt ∧ x_to.toInt ≤ 6) (b_x_fk : (0 : Int) ≤ x_fk.toInt ∧ x_fk.toInt ≤ 3) : Met l yX10_good uX10_good ({ frames := 0, cells := 0, slots := 0, locals := 0 }) (va_Pc [.ref o0] (pw (dC, dI) vwCl [(o0, .inr (8, [.int x_th, .ref mwo, .ref mim, .ref mhi, .ref mlu, .ref mtp, .int x_td, .ref mfv, .int x_sz, .int x_at, .int x_fr, .int x_to, .int x_va, .int x_fk, .int x_fp, .ref mfr, .ref mwt, .int x_wt, .int x_op, .int x_jo, .ref mfg, .ref mpl, .long x_dr, .ref mtm, .ref mfa, .ref mqu, .ref mmo, .ref mwy, .ref mwn, .ref mma, .ref mwi, .ref mnu, .ref mmv]))] [])) (vp_Si (fun r => ((0 : Int) ≤ r.toInt ∧ r.toInt ≤ 1) ∧ (r ≠ 0 → (x_fk.toInt = 0)) ∧ (r = 0 → (x_fk.toInt ≠ 0)))) 0 0 (fun _ => False) := by
  refine Met.ofW (cc := cX10_good) (maxL := 1) (ret := (some .boolean)) pn_X10 rfl ?_
  intro p e s m args below meth c s₁ B hml hv
  obtain ⟨rfl, hP, hK, hN⟩ := hv
  have hx := B.exec
  have hb := B.bytes
  have hr := B.returns
  have hts := atoms_spec (ws := uX10_good) B.pre
  have hown : s.vm.findClass RX10 = some m.cls := hown_of B.named rfl
  have hlocks := B.notSynchronized
  have hl := lv_entry ([.ref o0]) (n := 1) (Nat.le_of_ble_eq_true rfl)
  rw [lg_entry_eq]
  generalize (lg_sl ([.ref o0]) ++ List.replicate (1 - (lg_sl ([.ref o0])).length) Slot.unset).toArray = ls at hl ⊢
  have hl : lv_has ls 1 [(0, .ref o0)] := hl
  refine lv_aload_n hx hb dX10_good_0 rfl (lv_at hl 0 rfl) ?_
  refine va_get (D := (dC, dI)) (ci := 8) (v := .int x_fk) (C := RX10) (T := TX10) (N := 33) hx hb hts iX10_good_X10 hown hK hP 0 rfl rfl 13 (by decide) (hts (.fieldLink RX10 134 "LuckyTicketModel" "faultKind" "I") (List.mem_of_getElem? (i := 1) rfl)) (fun _ h9 => h9) rfl dX10_good_1 ?_
  refine lv_if_ne (tgt := 11) hx hb dX10_good_4 (by decide) (fun c_2 => ?_) (fun c_2 => ?_)
  ·
    have n_c_2 : (x_fk.toInt : Int) ≠ 0 := c_ne rfl (by decide) c_2
    have b_x_fk : (1 : Int) ≤ x_fk.toInt ∧ x_fk.toInt ≤ 3 := r_ne1 b_x_fk (by decide : (0 : Int) ≤ (0 : Int32).toInt ∧ (0 : Int32).toInt ≤ 0) n_c_2 (by decide)
    refine lv_iconst (v := 0) hx hb dX10_good_11 (by decide) ?_
    exact W.zret (v := 0) hx hb hr rfl (fun t ht hW => ⟨0, rfl, ⟨(rg_w (by decide : (0 : Int) ≤ (0 : Int32).toInt ∧ (0 : Int32).toInt ≤ 0) (by decide) (by decide)), (fun h9 => absurd rfl h9), (fun _ => (by omega))⟩, ht⟩) t_nil dX10_good_12
  ·
    have n_c_2 : (x_fk.toInt : Int) = 0 := c_eq rfl (by decide) c_2
    have b_x_fk : (0 : Int) ≤ x_fk.toInt ∧ x_fk.toInt ≤ 0 := r_eq1 b_x_fk (by decide : (0 : Int) ≤ (0 : Int32).toInt ∧ (0 : Int32).toInt ≤ 0) n_c_2 (by decide)
    refine lv_iconst (v := 1) hx hb dX10_good_7 (by decide) ?_
    refine lv_goto (tgt := 12) hx hb dX10_good_8 (by decide) ?_
    exact W.zret (v := 1) hx hb hr rfl (fun t ht hW => ⟨1, rfl, ⟨(rg_w (by decide : (1 : Int) ≤ (1 : Int32).toInt ∧ (1 : Int32).toInt ≤ 1) (by decide) (by decide)), (fun _ => (by omega)), (fun h9 => absurd h9 (by decide))⟩, ht⟩) t_nil dX10_good_12
theorem dX10_errs_0 : decode cX10_errs 0 = .ok (.aload_n 0, 1) := by decide +kernel
theorem dX10_errs_1 : decode cX10_errs 1 = .ok (.invokevirtual 137, 3) := by decide +kernel
theorem dX10_errs_4 : decode cX10_errs 4 = .ok (.ifCond .ne 4, 3) := by decide +kernel
theorem dX10_errs_7 : decode cX10_errs 7 = .ok (.return_, 1) := by decide +kernel
theorem dX10_errs_8 : decode cX10_errs 8 = .ok (.aload_n 0, 1) := by decide +kernel
theorem dX10_errs_9 : decode cX10_errs 9 = .ok (.iload_n 1, 1) := by decide +kernel
theorem dX10_errs_10 : decode cX10_errs 10 = .ok (.putfield 134, 3) := by decide +kernel
theorem dX10_errs_13 : decode cX10_errs 13 = .ok (.aload_n 0, 1) := by decide +kernel
theorem dX10_errs_14 : decode cX10_errs 14 = .ok (.aload_n 0, 1) := by decide +kernel
theorem dX10_errs_15 : decode cX10_errs 15 = .ok (.getfield 110, 3) := by decide +kernel
theorem dX10_errs_18 : decode cX10_errs 18 = .ok (.putfield 30, 3) := by decide +kernel
theorem dX10_errs_21 : decode cX10_errs 21 = .ok (.return_, 1) := by decide +kernel
theorem hd_yX10_errs : yX10_errs.cls = RX10 ∧ yX10_errs.cls ≠ "java/lang/invoke/MethodHandle" ∧ yX10_errs.cls ≠ "java/lang/invoke/VarHandle" ∧ (parseMethodDescriptor yX10_errs.desc).map (fun d => d.parameters.length) = some 1 := by decide +kernel
def uX10_errs : List Cond := List.cons (.code yX10_errs cX10_errs 2 none) (HAppend.hAppend ([.methodLink RX10 137 yX10_good, .instanceMethod yX10_good, .selects RX10 yX10_good yX10_good, .initialized RX10, .fieldLink RX10 134 "LuckyTicketModel" "faultKind" "I", .fieldLink RX10 110 "LuckyTicketModel" "from" "I", .fieldLink RX10 30 "LuckyTicketModel" "faultPlace" "I"] : List Cond) (HAppend.hAppend uX10_good wsX100))
theorem iX10_errs_X10 : ∀ w ∈ wsX100, w ∈ uX10_errs := fun _ h => (List.mem_cons_of_mem _ (List.mem_append_right _ (List.mem_append_right _ h)))
theorem guX10_errs : GU uX10_errs := gu_cons (gu_app (by decide +kernel) (gu_ap guX10_good gws_X10))
theorem gX10_errs__X10_good_V137 : GoodIn uX10_errs (wsV RX10 137 RX10 yX10_good uX10_good) := gin_V (List.mem_of_getElem? (i := 1) rfl) (List.mem_of_getElem? (i := 2) rfl) (List.mem_of_getElem? (i := 3) rfl) (List.mem_of_getElem? (i := 4) rfl) (fun _ h => (List.mem_cons_of_mem _ (List.mem_append_right _ (List.mem_append_left _ h)))) guX10_good
set_option maxHeartbeats 4000000 in
set_option maxRecDepth 100000 in
theorem kX10_errs (l : Launch) (dC : Nat → ClassId) (dI : Nat → Nat → Nat) (o0 : Nat) (x_th : Int32) (mwo : Nat) (mim : Nat) (mhi : Nat) (mlu : Nat) (mtp : Nat) (x_td : Int32) (mfv : Nat) (x_sz : Int32) (x_at : Int32) (x_fr : Int32) (x_to : Int32) (x_va : Int32) (x_fk : Int32) (x_fp : Int32) (mfr : Nat) (mwt : Nat) (x_wt : Int32) (x_op : Int32) (x_jo : Int32) (mfg : Nat) (mpl : Nat) (x_dr : Int64) (mtm : Nat) (mfa : Nat) (mqu : Nat) (mmo : Nat) (mwy : Nat) (mwn : Nat) (mma : Nat) (mwi : Nat) (mnu : Nat) (mmv : Nat) (a1 : Int32) (sz : Nat) (b_x_sz : (0 : Int) ≤ x_sz.toInt ∧ x_sz.toInt ≤ 1200) (b_x_at : (0 : Int) ≤ x_at.toInt ∧ x_at.toInt ≤ 1200) (b_x_fr : (0 : Int) ≤ x_fr.toInt ∧ x_fr.toInt ≤ 1200) (b_x_to : (0 : Int) ≤ x_to.toInt ∧ x_to.toInt ≤ 6) (b_x_fk : (0 : Int) ≤ x_fk.toInt ∧ x_fk.toInt ≤ 3) (b_a1 : (1 : Int) ≤ a1.toInt ∧ a1.toInt ≤ 3) : Met l yX10_errs uX10_errs ({ frames := 1, cells := 0, slots := 0, locals := 20 }) (va_Pc [.ref o0, .int a1] (hw (dC, dI) vwCl [(o0, .inr (8, [.int x_th, .ref mwo, .ref mim, .ref mhi, .ref mlu, .ref mtp, .int x_td, .ref mfv, .int x_sz, .int x_at, .int x_fr, .int x_to, .int x_va, .int x_fk, .int x_fp, .ref mfr, .ref mwt, .int x_wt, .int x_op, .int x_jo, .ref mfg, .ref mpl, .long x_dr, .ref mtm, .ref mfa, .ref mqu, .ref mmo, .ref mwy, .ref mwn, .ref mma, .ref mwi, .ref mnu, .ref mmv]))] [] sz)) (va_Qv (fun (_ : Unit) => True) (fun (_ : Unit) t => ∃ (o0_ : Int32) (o1_ : Int32), ((0 : Int) ≤ o0_.toInt ∧ o0_.toInt ≤ 3) ∧ (o0_.toInt ≠ 0) ∧ va_P (dC, dI) vwCl [(o0, .inr (8, [.int x_th, .ref mwo, .ref mim, .ref mhi, .ref mlu, .ref mtp, .int x_td, .ref mfv, .int x_sz, .int x_at, .int x_fr, .int x_to, .int x_va, .int o0_, .int o1_, .ref mfr, .ref mwt, .int x_wt, .int x_op, .int x_jo, .ref mfg, .ref mpl, .long x_dr, .ref mtm, .ref mfa, .ref mqu, .ref mmo, .ref mwy, .ref mwn, .ref mma, .ref mwi, .ref mnu, .ref mmv]))] t.heap ∧ va_K (dC, dI) vwCl [] t ∧ va_D (va_A [(o0, .inr (8, [.int x_th, .ref mwo, .ref mim, .ref mhi, .ref mlu, .ref mtp, .int x_td, .ref mfv, .int x_sz, .int x_at, .int x_fr, .int x_to, .int x_va, .int x_fk, .int x_fp, .ref mfr, .ref mwt, .int x_wt, .int x_op, .int x_jo, .ref mfg, .ref mpl, .long x_dr, .ref mtm, .ref mfa, .ref mqu, .ref mmo, .ref mwy, .ref mwn, .ref mma, .ref mwi, .ref mnu, .ref mmv]))] sz) [(o0, .inr (8, [.int x_th, .ref mwo, .ref mim, .ref mhi, .ref mlu, .ref mtp, .int x_td, .ref mfv, .int x_sz, .int x_at, .int x_fr, .int x_to, .int x_va, .int o0_, .int o1_, .ref mfr, .ref mwt, .int x_wt, .int x_op, .int x_jo, .ref mfg, .ref mpl, .long x_dr, .ref mtm, .ref mfa, .ref mqu, .ref mmo, .ref mwy, .ref mwn, .ref mma, .ref mwi, .ref mnu, .ref mmv]))]) (va_A [(o0, .inr (8, [.int x_th, .ref mwo, .ref mim, .ref mhi, .ref mlu, .ref mtp, .int x_td, .ref mfv, .int x_sz, .int x_at, .int x_fr, .int x_to, .int x_va, .int x_fk, .int x_fp, .ref mfr, .ref mwt, .int x_wt, .int x_op, .int x_jo, .ref mfg, .ref mpl, .long x_dr, .ref mtm, .ref mfa, .ref mqu, .ref mmo, .ref mwy, .ref mwn, .ref mma, .ref mwi, .ref mnu, .ref mmv]))] sz)) 0 0 (va_A [(o0, .inr (8, [.int x_th, .ref mwo, .ref mim, .ref mhi, .ref mlu, .ref mtp, .int x_td, .ref mfv, .int x_sz, .int x_at, .int x_fr, .int x_to, .int x_va, .int x_fk, .int x_fp, .ref mfr, .ref mwt, .int x_wt, .int x_op, .int x_jo, .ref mfg, .ref mpl, .long x_dr, .ref mtm, .ref mfa, .ref mqu, .ref mmo, .ref mwy, .ref mwn, .ref mma, .ref mwi, .ref mnu, .ref mmv]))] sz) := by
  refine Met.ofW (cc := cX10_errs) (maxL := 2) (ret := none) pn_X10 rfl ?_
  intro p e s m args below meth c s₁ B hml hv
  obtain ⟨rfl, hsz, hP, hK, hD0, hN⟩ := hv
  have hx := B.exec
  have hb := B.bytes
  have hr := B.returns
  have hts := atoms_spec (ws := uX10_errs) B.pre
  have hown : s.vm.findClass RX10 = some m.cls := hown_of B.named rfl
  have hlocks := B.notSynchronized
  subst hsz
  have hD := hD0.self (sz := s.heap.size)
  generalize hAe : va_A [(o0, .inr (8, [.int x_th, .ref mwo, .ref mim, .ref mhi, .ref mlu, .ref mtp, .int x_td, .ref mfv, .int x_sz, .int x_at, .int x_fr, .int x_to, .int x_va, .int x_fk, .int x_fp, .ref mfr, .ref mwt, .int x_wt, .int x_op, .int x_jo, .ref mfg, .ref mpl, .long x_dr, .ref mtm, .ref mfa, .ref mqu, .ref mmo, .ref mwy, .ref mwn, .ref mma, .ref mwi, .ref mnu, .ref mmv]))] s.heap.size = A at hD ⊢
  have hA : ∀ q : Nat, s.heap.size ≤ q → A q := fun q h => by rw [← hAe]; exact Or.inr h
  have hS : va_S A s.heap s.heap [] := va_S.rf
  have hP : va_P (dC, dI) vwCl [(o0, .inr (8, [.int x_th, .ref mwo, .ref mim, .ref mhi, .ref mlu, .ref mtp, .int x_td, .ref mfv, .int x_sz, .int x_at, .int x_fr, .int x_to, .int x_va, .int x_fk, .int x_fp, .ref mfr, .ref mwt, .int x_wt, .int x_op, .int x_jo, .ref mfg, .ref mpl, .long x_dr, .ref mtm, .ref mfa, .ref mqu, .ref mmo, .ref mwy, .ref mwn, .ref mma, .ref mwi, .ref mnu, .ref mmv]))] s.heap := hP
  have hl := lv_entry ([.ref o0, .int a1]) (n := 2) (Nat.le_of_ble_eq_true rfl)
  rw [lg_entry_eq]
  generalize (lg_sl ([.ref o0, .int a1]) ++ List.replicate (2 - (lg_sl ([.ref o0, .int a1])).length) Slot.unset).toArray = ls at hl ⊢
  have hl : lv_has ls 2 [(0, .ref o0), (1, .int a1)] := hl
  refine lv_aload_n hx hb dX10_errs_0 rfl (lv_at hl 0 rfl) ?_
  refine vp_callSi (W.runV (As := []) (rest := []) ⟨hx, hb, hml, hown, hts⟩ (kX10_good l dC dI o0 x_th mwo mim mhi mlu mtp x_td mfv x_sz x_at x_fr x_to x_va x_fk x_fp mfr mwt x_wt x_op x_jo mfg mpl x_dr mtm mfa mqu mmo mwy mwn mma mwi mnu mmv b_x_sz b_x_at b_x_fr b_x_to b_x_fk) (cwV 0 hts gX10_errs__X10_good_V137 rfl rfl rfl hd_yX10_good ⟨lel 1 1 rfl, lel 20 20 rfl⟩) ⟨pw_fb, rcv_X10 hK hP (q0 := 0) rfl, (pw_use hP hK hN [0] rfl [] rfl)⟩ rfl rfl hl.1 rfl (lv_room (Nat.le_of_ble_eq_true rfl)) dX10_errs_1 ⟨lel 0 0 rfl, lel 0 0 rfl⟩) (fun r_5 h_r_5 => ?_)
  obtain ⟨b_r_5, nz_r_5, zz_r_5⟩ := h_r_5
  have b_r_5 : (0 : Int) ≤ r_5.toInt ∧ r_5.toInt ≤ 1 := b_r_5
  refine lv_if_ne (tgt := 8) hx hb dX10_errs_4 (by decide) (fun c_6 => ?_) (fun c_6 => ?_)
  ·
    have n_c_6 : (r_5.toInt : Int) ≠ 0 := c_ne rfl (by decide) c_6
    have b_r_5 : (1 : Int) ≤ r_5.toInt ∧ r_5.toInt ≤ 1 := r_ne1 b_r_5 (by decide : (0 : Int) ≤ (0 : Int32).toInt ∧ (0 : Int32).toInt ≤ 0) n_c_6 (by decide)
    have g_7 := nz_r_5 c_6
    refine lv_aload_n hx hb dX10_errs_8 rfl (lv_at hl 0 rfl) ?_
    refine lv_iload_n hx hb dX10_errs_9 rfl (lv_at hl 1 rfl) ?_
    refine va_put (D := (dC, dI)) (ci := 8) (v := .int a1) (ty := .int) (C := RX10) (T := TX10) (N := 33) hx hb hts iX10_errs_X10 tyX10 tyX10_ok nmX10 hown hK hP hD hS 0 rfl rfl 13 (by decide) (hts (.fieldLink RX10 134 "LuckyTicketModel" "faultKind" "I") (List.mem_of_getElem? (i := 5) rfl)) (fun _ h9 => h9) rfl (by decide +kernel) rfl rfl (Nat.le_of_ble_eq_true rfl) dX10_errs_10 (fun H locs hP hD hS => ?_)
    have hP : va_P (dC, dI) vwCl [(o0, .inr (8, [.int x_th, .ref mwo, .ref mim, .ref mhi, .ref mlu, .ref mtp, .int x_td, .ref mfv, .int x_sz, .int x_at, .int x_fr, .int x_to, .int x_va, .int a1, .int x_fp, .ref mfr, .ref mwt, .int x_wt, .int x_op, .int x_jo, .ref mfg, .ref mpl, .long x_dr, .ref mtm, .ref mfa, .ref mqu, .ref mmo, .ref mwy, .ref mwn, .ref mma, .ref mwi, .ref mnu, .ref mmv]))] H := hP
    have hD : va_D A [(o0, .inr (8, [.int x_th, .ref mwo, .ref mim, .ref mhi, .ref mlu, .ref mtp, .int x_td, .ref mfv, .int x_sz, .int x_at, .int x_fr, .int x_to, .int x_va, .int a1, .int x_fp, .ref mfr, .ref mwt, .int x_wt, .int x_op, .int x_jo, .ref mfg, .ref mpl, .long x_dr, .ref mtm, .ref mfa, .ref mqu, .ref mmo, .ref mwy, .ref mwn, .ref mma, .ref mwi, .ref mnu, .ref mmv]))] := hD
    refine lv_aload_n hx hb dX10_errs_13 rfl (lv_at hl 0 rfl) ?_
    refine lv_aload_n hx hb dX10_errs_14 rfl (lv_at hl 0 rfl) ?_
    refine va_get (D := (dC, dI)) (ci := 8) (v := .int x_fr) (C := RX10) (T := TX10) (N := 33) hx hb hts iX10_errs_X10 hown hK hP 0 rfl rfl 10 (by decide) (hts (.fieldLink RX10 110 "LuckyTicketModel" "from" "I") (List.mem_of_getElem? (i := 6) rfl)) (fun _ h9 => h9) rfl dX10_errs_15 ?_
    refine va_put (D := (dC, dI)) (ci := 8) (v := .int x_fr) (ty := .int) (C := RX10) (T := TX10) (N := 33) hx hb hts iX10_errs_X10 tyX10 tyX10_ok nmX10 hown hK hP hD hS 0 rfl rfl 14 (by decide) (hts (.fieldLink RX10 30 "LuckyTicketModel" "faultPlace" "I") (List.mem_of_getElem? (i := 7) rfl)) (fun _ h9 => h9) rfl (by decide +kernel) rfl rfl (Nat.le_of_ble_eq_true rfl) dX10_errs_18 (fun H locs hP hD hS => ?_)
    have hP : va_P (dC, dI) vwCl [(o0, .inr (8, [.int x_th, .ref mwo, .ref mim, .ref mhi, .ref mlu, .ref mtp, .int x_td, .ref mfv, .int x_sz, .int x_at, .int x_fr, .int x_to, .int x_va, .int a1, .int x_fr, .ref mfr, .ref mwt, .int x_wt, .int x_op, .int x_jo, .ref mfg, .ref mpl, .long x_dr, .ref mtm, .ref mfa, .ref mqu, .ref mmo, .ref mwy, .ref mwn, .ref mma, .ref mwi, .ref mnu, .ref mmv]))] H := hP
    have hD : va_D A [(o0, .inr (8, [.int x_th, .ref mwo, .ref mim, .ref mhi, .ref mlu, .ref mtp, .int x_td, .ref mfv, .int x_sz, .int x_at, .int x_fr, .int x_to, .int x_va, .int a1, .int x_fr, .ref mfr, .ref mwt, .int x_wt, .int x_op, .int x_jo, .ref mfg, .ref mpl, .long x_dr, .ref mtm, .ref mfa, .ref mqu, .ref mmo, .ref mwy, .ref mwn, .ref mma, .ref mwi, .ref mnu, .ref mmv]))] := hD
    have hP9 := hP.sub (ws' := [(o0, .inr (8, [.int x_th, .ref mwo, .ref mim, .ref mhi, .ref mlu, .ref mtp, .int x_td, .ref mfv, .int x_sz, .int x_at, .int x_fr, .int x_to, .int x_va, .int a1, .int x_fr, .ref mfr, .ref mwt, .int x_wt, .int x_op, .int x_jo, .ref mfg, .ref mpl, .long x_dr, .ref mtm, .ref mfa, .ref mqu, .ref mmo, .ref mwy, .ref mwn, .ref mma, .ref mwi, .ref mnu, .ref mmv]))]) [0] rfl
    have hD9 := hD.sub (ws' := [(o0, .inr (8, [.int x_th, .ref mwo, .ref mim, .ref mhi, .ref mlu, .ref mtp, .int x_td, .ref mfv, .int x_sz, .int x_at, .int x_fr, .int x_to, .int x_va, .int a1, .int x_fr, .ref mfr, .ref mwt, .int x_wt, .int x_op, .int x_jo, .ref mfg, .ref mpl, .long x_dr, .ref mtm, .ref mfa, .ref mqu, .ref mmo, .ref mwy, .ref mwn, .ref mma, .ref mwi, .ref mnu, .ref mmv]))]) [0] (by decide) rfl
    have hK9 := hK.sub (tys' := []) [] rfl
    exact W.vret hx hb hr (fun t ht hW => ⟨⟨(), rfl, trivial, a1, x_fr, (rg_w b_a1 (by decide) (by decide)), (by omega), by rw [ht]; exact hP9, va_K.moved hW.alike hK9, hD9⟩, hS.F ht⟩) hS.2.2 dX10_errs_21
  ·
    have n_c_6 : (r_5.toInt : Int) = 0 := c_eq rfl (by decide) c_6
    have b_r_5 : (0 : Int) ≤ r_5.toInt ∧ r_5.toInt ≤ 0 := r_eq1 b_r_5 (by decide : (0 : Int) ≤ (0 : Int32).toInt ∧ (0 : Int32).toInt ≤ 0) n_c_6 (by decide)
    have g_8 := zz_r_5 c_6
    have hP9 := hP.sub (ws' := [(o0, .inr (8, [.int x_th, .ref mwo, .ref mim, .ref mhi, .ref mlu, .ref mtp, .int x_td, .ref mfv, .int x_sz, .int x_at, .int x_fr, .int x_to, .int x_va, .int x_fk, .int x_fp, .ref mfr, .ref mwt, .int x_wt, .int x_op, .int x_jo, .ref mfg, .ref mpl, .long x_dr, .ref mtm, .ref mfa, .ref mqu, .ref mmo, .ref mwy, .ref mwn, .ref mma, .ref mwi, .ref mnu, .ref mmv]))]) [0] rfl
    have hD9 := hD.sub (ws' := [(o0, .inr (8, [.int x_th, .ref mwo, .ref mim, .ref mhi, .ref mlu, .ref mtp, .int x_td, .ref mfv, .int x_sz, .int x_at, .int x_fr, .int x_to, .int x_va, .int x_fk, .int x_fp, .ref mfr, .ref mwt, .int x_wt, .int x_op, .int x_jo, .ref mfg, .ref mpl, .long x_dr, .ref mtm, .ref mfa, .ref mqu, .ref mmo, .ref mwy, .ref mwn, .ref mma, .ref mwi, .ref mnu, .ref mmv]))]) [0] (by decide) rfl
    have hK9 := hK.sub (tys' := []) [] rfl
    exact W.vret hx hb hr (fun t ht hW => ⟨⟨(), rfl, trivial, x_fk, x_fp, b_x_fk, (by omega), by rw [ht]; exact hP9, va_K.moved hW.alike hK9, hD9⟩, hS.F ht⟩) hS.2.2 dX10_errs_7
theorem dX10_is_0 : decode cX10_is 0 = .ok (.aload_n 0, 1) := by decide +kernel
theorem dX10_is_1 : decode cX10_is 1 = .ok (.invokevirtual 137, 3) := by decide +kernel
theorem dX10_is_4 : decode cX10_is 4 = .ok (.ifCond .eq 31, 3) := by decide +kernel
theorem dX10_is_7 : decode cX10_is 7 = .ok (.aload_n 0, 1) := by decide +kernel
theorem dX10_is_8 : decode cX10_is 8 = .ok (.getfield 113, 3) := by decide +kernel
theorem dX10_is_11 : decode cX10_is 11 = .ok (.iconst 1, 1) := by decide +kernel
theorem dX10_is_12 : decode cX10_is 12 = .ok (.if_icmp .ne 23, 3) := by decide +kernel
theorem dX10_is_15 : decode cX10_is 15 = .ok (.aload_n 0, 1) := by decide +kernel
theorem dX10_is_16 : decode cX10_is 16 = .ok (.getfield 103, 3) := by decide +kernel
theorem dX10_is_19 : decode cX10_is 19 = .ok (.aload_n 0, 1) := by decide +kernel
theorem dX10_is_20 : decode cX10_is 20 = .ok (.getfield 110, 3) := by decide +kernel
theorem dX10_is_23 : decode cX10_is 23 = .ok (.isub, 1) := by decide +kernel
theorem dX10_is_24 : decode cX10_is 24 = .ok (.aload_n 1, 1) := by decide +kernel
theorem dX10_is_25 : decode cX10_is 25 = .ok (.invokevirtual 141, 3) := by decide +kernel
theorem dX10_is_28 : decode cX10_is 28 = .ok (.if_icmp .ne 7, 3) := by decide +kernel
theorem dX10_is_31 : decode cX10_is 31 = .ok (.iconst 1, 1) := by decide +kernel
theorem dX10_is_32 : decode cX10_is 32 = .ok (.goto 4, 3) := by decide +kernel
theorem dX10_is_35 : decode cX10_is 35 = .ok (.iconst 0, 1) := by decide +kernel
theorem dX10_is_36 : decode cX10_is 36 = .ok (.istore_n 2, 1) := by decide +kernel
theorem dX10_is_37 : decode cX10_is 37 = .ok (.iconst 0, 1) := by decide +kernel
theorem dX10_is_38 : decode cX10_is 38 = .ok (.istore_n 3, 1) := by decide +kernel
theorem dX10_is_39 : decode cX10_is 39 = .ok (.iload_n 3, 1) := by decide +kernel
theorem dX10_is_40 : decode cX10_is 40 = .ok (.aload_n 1, 1) := by decide +kernel
theorem dX10_is_41 : decode cX10_is 41 = .ok (.invokevirtual 141, 3) := by decide +kernel
theorem dX10_is_44 : decode cX10_is 44 = .ok (.if_icmp .ge 38, 3) := by decide +kernel
theorem dX10_is_47 : decode cX10_is 47 = .ok (.iload_n 2, 1) := by decide +kernel
theorem dX10_is_48 : decode cX10_is 48 = .ok (.ifCond .eq 34, 3) := by decide +kernel
theorem dX10_is_51 : decode cX10_is 51 = .ok (.aload_n 0, 1) := by decide +kernel
theorem dX10_is_52 : decode cX10_is 52 = .ok (.getfield 23, 3) := by decide +kernel
theorem dX10_is_55 : decode cX10_is 55 = .ok (.aload_n 0, 1) := by decide +kernel
theorem dX10_is_56 : decode cX10_is 56 = .ok (.getfield 110, 3) := by decide +kernel
theorem dX10_is_59 : decode cX10_is 59 = .ok (.iload_n 3, 1) := by decide +kernel
theorem dX10_is_60 : decode cX10_is 60 = .ok (.iadd, 1) := by decide +kernel
theorem dX10_is_61 : decode cX10_is 61 = .ok (.baload, 1) := by decide +kernel
theorem dX10_is_62 : decode cX10_is 62 = .ok (.aload_n 1, 1) := by decide +kernel
theorem dX10_is_63 : decode cX10_is 63 = .ok (.iload_n 3, 1) := by decide +kernel
theorem dX10_is_64 : decode cX10_is 64 = .ok (.invokevirtual 147, 3) := by decide +kernel
theorem dX10_is_67 : decode cX10_is 67 = .ok (.if_icmp .ne 7, 3) := by decide +kernel
theorem dX10_is_70 : decode cX10_is 70 = .ok (.iconst 1, 1) := by decide +kernel
theorem dX10_is_71 : decode cX10_is 71 = .ok (.goto 4, 3) := by decide +kernel
theorem dX10_is_74 : decode cX10_is 74 = .ok (.iconst 0, 1) := by decide +kernel
theorem dX10_is_75 : decode cX10_is 75 = .ok (.istore_n 2, 1) := by decide +kernel
theorem dX10_is_76 : decode cX10_is 76 = .ok (.iinc 3 1, 3) := by decide +kernel
theorem dX10_is_79 : decode cX10_is 79 = .ok (.goto (-40), 3) := by decide +kernel
theorem dX10_is_82 : decode cX10_is 82 = .ok (.iload_n 2, 1) := by decide +kernel
theorem dX10_is_83 : decode cX10_is 83 = .ok (.ireturn, 1) := by decide +kernel
theorem hd_yX10_is : yX10_is.cls = RX10 ∧ yX10_is.cls ≠ "java/lang/invoke/MethodHandle" ∧ yX10_is.cls ≠ "java/lang/invoke/VarHandle" ∧ (parseMethodDescriptor yX10_is.desc).map (fun d => d.parameters.length) = some 1 := by decide +kernel
def uX10_is : List Cond := List.cons (.code yX10_is cX10_is 4 (some .boolean)) (HAppend.hAppend ([.methodLink RX10 137 yX10_good, .instanceMethod yX10_good, .selects RX10 yX10_good yX10_good, .initialized RX10, .fieldLink RX10 113 "LuckyTicketModel" "token" "I", .fieldLink RX10 103 "LuckyTicketModel" "at" "I", .fieldLink RX10 110 "LuckyTicketModel" "from" "I", .methodLink RX10 141 yJ0_length_8abf5, .instanceMethod yJ0_length_8abf5, .selects RJ0 yJ0_length_8abf5 yJ0_length_8abf5, .initialized RJ0, .fieldLink RX10 23 "LuckyTicketModel" "tape" "[B", .methodLink RX10 147 yJ0_charAt_5068e, .instanceMethod yJ0_charAt_5068e, .selects RJ0 yJ0_charAt_5068e yJ0_charAt_5068e] : List Cond) (HAppend.hAppend uX10_good (HAppend.hAppend uJ0_length_8abf5 (HAppend.hAppend uJ0_charAt_5068e wsX100))))
theorem iX10_is_X10 : ∀ w ∈ wsX100, w ∈ uX10_is := fun _ h => (List.mem_cons_of_mem _ (List.mem_append_right _ (List.mem_append_right _ (List.mem_append_right _ (List.mem_append_right _ h)))))
theorem guX10_is : GU uX10_is := gu_cons (gu_app (by decide +kernel) (gu_ap guX10_good (gu_ap guJ0_length_8abf5 (gu_ap guJ0_charAt_5068e gws_X10))))
theorem gX10_is__X10_good_V137 : GoodIn uX10_is (wsV RX10 137 RX10 yX10_good uX10_good) := gin_V (List.mem_of_getElem? (i := 1) rfl) (List.mem_of_getElem? (i := 2) rfl) (List.mem_of_getElem? (i := 3) rfl) (List.mem_of_getElem? (i := 4) rfl) (fun _ h => (List.mem_cons_of_mem _ (List.mem_append_right _ (List.mem_append_left _ h)))) guX10_good
theorem gX10_is__J0_length_8abf5_V141 : GoodIn uX10_is (wsV RX10 141 RJ0 yJ0_length_8abf5 uJ0_length_8abf5) := gin_V (List.mem_of_getElem? (i := 8) rfl) (List.mem_of_getElem? (i := 9) rfl) (List.mem_of_getElem? (i := 10) rfl) (List.mem_of_getElem? (i := 11) rfl) (fun _ h => (List.mem_cons_of_mem _ (List.mem_append_right _ (List.mem_append_right _ (List.mem_append_left _ h))))) guJ0_length_8abf5
theorem gX10_is__J0_charAt_5068e_V147 : GoodIn uX10_is (wsV RX10 147 RJ0 yJ0_charAt_5068e uJ0_charAt_5068e) := gin_V (List.mem_of_getElem? (i := 13) rfl) (List.mem_of_getElem? (i := 14) rfl) (List.mem_of_getElem? (i := 15) rfl) (List.mem_of_getElem? (i := 11) rfl) (fun _ h => (List.mem_cons_of_mem _ (List.mem_append_right _ (List.mem_append_right _ (List.mem_append_right _ (List.mem_append_left _ h)))))) guJ0_charAt_5068e
set_option maxHeartbeats 4000000 in
set_option maxRecDepth 100000 in
theorem kX10_is (l : Launch) (dC : Nat → ClassId) (dI : Nat → Nat → Nat) (o0 : Nat) (x_th : Int32) (mwo : Nat) (mim : Nat) (mhi : Nat) (mlu : Nat) (mtp : Nat) (x_td : Int32) (mfv : Nat) (x_sz : Int32) (x_at : Int32) (x_fr : Int32) (x_to : Int32) (x_va : Int32) (x_fk : Int32) (x_fp : Int32) (mfr : Nat) (mwt : Nat) (x_wt : Int32) (x_op : Int32) (x_jo : Int32) (mfg : Nat) (mpl : Nat) (x_dr : Int64) (mtm : Nat) (mfa : Nat) (mqu : Nat) (mmo : Nat) (mwy : Nat) (mwn : Nat) (mma : Nat) (mwi : Nat) (mnu : Nat) (mmv : Nat) (c_tp : ClassId) (w_tp : Nat → Int32) (tq : Nat) (tn : Nat) (tf : Nat → Int32) (n0 : Nat) (b_x_sz : (0 : Int) ≤ x_sz.toInt ∧ x_sz.toInt ≤ 1200) (b_x_at : (0 : Int) ≤ x_at.toInt ∧ x_at.toInt ≤ 1200) (b_x_fr : (0 : Int) ≤ x_fr.toInt ∧ x_fr.toInt ≤ 1200) (b_x_to : (0 : Int) ≤ x_to.toInt ∧ x_to.toInt ≤ 6) (b_x_fk : (0 : Int) ≤ x_fk.toInt ∧ x_fk.toInt ≤ 3) (hpf : x_fr.toInt ≤ x_at.toInt ∧ x_at.toInt ≤ x_sz.toInt) (htk0 : x_to.toInt ≠ 0 → x_fr.toInt < x_at.toInt) (htn : 2 ≤ tn ∧ tn ≤ 6) : Met l yX10_is uX10_is ({ frames := 4, cells := 0, slots := 0, locals := 85 }) (va_Pc [.ref o0, .ref tq] (px (dC, dI) vwCl [(o0, .inr (8, [.int x_th, .ref mwo, .ref mim, .ref mhi, .ref mlu, .ref mtp, .int x_td, .ref mfv, .int x_sz, .int x_at, .int x_fr, .int x_to, .int x_va, .int x_fk, .int x_fp, .ref mfr, .ref mwt, .int x_wt, .int x_op, .int x_jo, .ref mfg, .ref mpl, .long x_dr, .ref mtm, .ref mfa, .ref mqu, .ref mmo, .ref mwy, .ref mwn, .ref mma, .ref mwi, .ref mnu, .ref mmv])), (mtp, .inl (c_tp, 1200, .inl w_tp))] [(c_tp, .byte)] n0 [(tq, tn, tf)] [])) (vp_Si (fun r => ((0 : Int) ≤ r.toInt ∧ r.toInt ≤ 1) ∧ (r ≠ 0 → (x_fk.toInt = 0 ∧ WD w_tp x_to x_fr x_at tn tf)) ∧ (r = 0 → (¬ (x_fk.toInt = 0 ∧ WD w_tp x_to x_fr x_at tn tf))))) 0 0 (fun _ => False) := by
  refine Met.ofW (cc := cX10_is) (maxL := 4) (ret := (some .boolean)) pn_X10 rfl ?_
  intro p e s m args below meth c s₁ B hml hv
  obtain ⟨rfl, ⟨hP, hK, hN⟩, hX, hTx, hBx⟩ := hv
  have hx := B.exec
  have hb := B.bytes
  have hr := B.returns
  have hts := atoms_spec (ws := uX10_is) B.pre
  have hown : s.vm.findClass RX10 = some m.cls := hown_of B.named rfl
  have hlocks := B.notSynchronized
  have hS0 : va_S (fun a => n0 ≤ a) s.heap s.heap [] := va_S.rf
  have ht_tq : txt n0 tq tn tf s := hTx _ (List.mem_of_getElem? (i := 0) rfl)
  have hl := lv_entry ([.ref o0, .ref tq]) (n := 4) (Nat.le_of_ble_eq_true rfl)
  rw [lg_entry_eq]
  generalize (lg_sl ([.ref o0, .ref tq]) ++ List.replicate (4 - (lg_sl ([.ref o0, .ref tq])).length) Slot.unset).toArray = ls at hl ⊢
  have hl : lv_has ls 4 [(0, .ref o0), (1, .ref tq)] := hl
  refine lv_aload_n hx hb dX10_is_0 rfl (lv_at hl 0 rfl) ?_
  refine vp_callSi (W.runV (As := []) (rest := []) ⟨hx, hb, hml, hown, hts⟩ (kX10_good l dC dI o0 x_th mwo mim mhi mlu mtp x_td mfv x_sz x_at x_fr x_to x_va x_fk x_fp mfr mwt x_wt x_op x_jo mfg mpl x_dr mtm mfa mqu mmo mwy mwn mma mwi mnu mmv b_x_sz b_x_at b_x_fr b_x_to b_x_fk) (cwV 0 hts gX10_is__X10_good_V137 rfl rfl rfl hd_yX10_good ⟨lel 1 4 rfl, lel 20 85 rfl⟩) ⟨pw_fb, rcv_X10 hK hP (q0 := 0) rfl, (pw_use hP hK hN [0] rfl [] rfl)⟩ rfl rfl hl.1 rfl (lv_room (Nat.le_of_ble_eq_true rfl)) dX10_is_1 ⟨lel 0 0 rfl, lel 0 0 rfl⟩) (fun r_54 h_r_54 => ?_)
  obtain ⟨b_r_54, nz_r_54, zz_r_54⟩ := h_r_54
  have b_r_54 : (0 : Int) ≤ r_54.toInt ∧ r_54.toInt ≤ 1 := b_r_54
  refine cutP (σ := Int32) (pc2 := 36) (st2 := fun v => [.int v]) (cells2 := 0) (slots2 := 0) (fun v ls => ((0 : Int) ≤ v.toInt ∧ v.toInt ≤ 1) ∧ ((v.toInt = 1 → (x_fk.toInt = 0 ∧ x_to.toInt = 1 ∧ x_at.toInt - x_fr.toInt = (tn : Int)) ∧ ∀ j : Nat, j < (0 : Int32).toInt.toNat → w_tp (x_fr.toInt.toNat + j) = chr8 (tf j)) ∧ (v.toInt = 0 → ¬ (x_fk.toInt = 0 ∧ WD w_tp x_to x_fr x_at tn tf))) ∧ lv_has ls 4 [(0, .ref o0), (1, .ref tq)]) (fun v ls hI => ?_) (fun hj_36_62 => ?_)
  ·
    obtain ⟨y_62, rfl⟩ : ∃ z, z = v := ⟨_, rfl⟩
    obtain ⟨b_y_62, his, hl⟩ := hI
    have b_y_62 : (0 : Int) ≤ y_62.toInt ∧ y_62.toInt ≤ 1 := b_y_62
    have his : (y_62.toInt = 1 → (x_fk.toInt = 0 ∧ x_to.toInt = 1 ∧ x_at.toInt - x_fr.toInt = (tn : Int)) ∧ ∀ j : Nat, j < (0 : Int32).toInt.toNat → w_tp (x_fr.toInt.toNat + j) = chr8 (tf j)) ∧ (y_62.toInt = 0 → ¬ (x_fk.toInt = 0 ∧ WD w_tp x_to x_fr x_at tn tf)) := his
    have hl : lv_has ls 4 [(0, .ref o0), (1, .ref tq)] := hl
    refine lv_istore_n (lv' := [(2, .int y_62), (0, .ref o0), (1, .ref tq)]) hx hb dX10_is_36 rfl hl (by decide) rfl (fun ls hl => ?_)
    refine lv_iconst (v := 0) hx hb dX10_is_37 (by decide) ?_
    refine lv_istore_n (lv' := [(3, .int 0), (2, .int y_62), (0, .ref o0), (1, .ref tq)]) hx hb dX10_is_38 rfl hl (by decide) rfl (fun ls hl => ?_)
    refine loopP (σ := Int32 × Int32) (fun v => (6 - v.1.toInt).toNat) (fun v ls => ((0 : Int) ≤ v.1.toInt ∧ v.1.toInt ≤ 6) ∧ ((0 : Int) ≤ v.2.toInt ∧ v.2.toInt ≤ 1) ∧ ((v.2.toInt = 1 → (x_fk.toInt = 0 ∧ x_to.toInt = 1 ∧ x_at.toInt - x_fr.toInt = (tn : Int)) ∧ ∀ j : Nat, j < v.1.toInt.toNat → w_tp (x_fr.toInt.toNat + j) = chr8 (tf j)) ∧ (v.2.toInt = 0 → ¬ (x_fk.toInt = 0 ∧ WD w_tp x_to x_fr x_at tn tf))) ∧ (v.1.toInt ≤ (tn : Int)) ∧ lv_has ls 4 [(3, .int v.1), (2, .int v.2), (0, .ref o0), (1, .ref tq)]) (fun v ls hI ih_39_91 => ?_) ((0 : Int32), y_62) ⟨(show (0 : Int) ≤ (0 : Int32).toInt ∧ (0 : Int32).toInt ≤ 6 from (rg_w (by decide : (0 : Int) ≤ (0 : Int32).toInt ∧ (0 : Int32).toInt ≤ 0) (by decide) (by decide))), (show (0 : Int) ≤ y_62.toInt ∧ y_62.toInt ≤ 1 from b_y_62), (show (y_62.toInt = 1 → (x_fk.toInt = 0 ∧ x_to.toInt = 1 ∧ x_at.toInt - x_fr.toInt = (tn : Int)) ∧ ∀ j : Nat, j < (0 : Int32).toInt.toNat → w_tp (x_fr.toInt.toNat + j) = chr8 (tf j)) ∧ (y_62.toInt = 0 → ¬ (x_fk.toInt = 0 ∧ WD w_tp x_to x_fr x_at tn tf)) from (his)), (show (0 : Int32).toInt ≤ (tn : Int) from (by have zl : (0 : Int32).toInt = 0 := (by decide); omega)), lv_sub hl [0, 1, 2, 3] rfl⟩
    obtain ⟨y_72, y_73⟩ := v
    obtain ⟨b_y_72, b_y_73, his, hl6, hl⟩ := hI
    have b_y_72 : (0 : Int) ≤ y_72.toInt ∧ y_72.toInt ≤ 6 := b_y_72
    have b_y_73 : (0 : Int) ≤ y_73.toInt ∧ y_73.toInt ≤ 1 := b_y_73
    have his : (y_73.toInt = 1 → (x_fk.toInt = 0 ∧ x_to.toInt = 1 ∧ x_at.toInt - x_fr.toInt = (tn : Int)) ∧ ∀ j : Nat, j < y_72.toInt.toNat → w_tp (x_fr.toInt.toNat + j) = chr8 (tf j)) ∧ (y_73.toInt = 0 → ¬ (x_fk.toInt = 0 ∧ WD w_tp x_to x_fr x_at tn tf)) := his
    have hl6 : y_72.toInt ≤ (tn : Int) := hl6
    have hl : lv_has ls 4 [(3, .int y_72), (2, .int y_73), (0, .ref o0), (1, .ref tq)] := hl
    refine lv_iload_n hx hb dX10_is_39 rfl (lv_at hl 0 rfl) ?_
    refine lv_aload_n hx hb dX10_is_40 rfl (lv_at hl 3 rfl) ?_
    refine vp_callSi (W.runV (As := []) (rest := [.int y_72]) ⟨hx, hb, hml, hown, hts⟩ (kJ0_length_8abf5 l dC dI tq tn tf n0 (by omega)) (cwV 0 hts gX10_is__J0_length_8abf5_V141 rfl rfl rfl hd_yJ0_length_8abf5 ⟨lel 2 4 rfl, lel 40 85 rfl⟩) ⟨px_fb, txt.recv ht_tq hS0, (px_use hP hK hN hX hS0 [] rfl [] rfl (tts_1 ht_tq) tbs_0)⟩ rfl rfl hl.1 rfl (lv_room (Nat.le_of_ble_eq_true rfl)) dX10_is_41 ⟨lel 0 0 rfl, lel 0 0 rfl⟩) (fun r_92 h_r_92 => ?_)
    obtain ⟨b_r_92, pr_r_92⟩ := h_r_92
    have b_r_92 : (0 : Int) ≤ r_92.toInt ∧ r_92.toInt ≤ 6 := b_r_92
    refine lv_icmp_ge (tgt := 82) hx hb dX10_is_44 (by decide) (fun c_93 => ?_) (fun c_93 => ?_)
    ·
      have n_c_93 : (r_92.toInt : Int) ≤ y_72.toInt := c_ge rfl rfl c_93
      refine lv_iload_n hx hb dX10_is_82 rfl (lv_at hl 1 rfl) ?_
      exact W.zret (v := y_73) hx hb hr (zn_b b_y_73) (fun t ht hW => ⟨y_73, rfl, ⟨b_y_73, (fun h9 => by have h8 := c_ne rfl (by decide : (0 : Int32).toInt = 0) h9; have hi1 := (his.1 (by omega)); exact ⟨by omega, by omega, by omega, fun j hj => hi1.2 j (by omega)⟩), (fun h9 => his.2 (c_eq rfl (by decide : (0 : Int32).toInt = 0) h9))⟩, ht⟩) t_nil dX10_is_83
    ·
      have n_c_93 : (y_72.toInt : Int) < r_92.toInt := c_nge rfl rfl c_93
      have b_y_72 : (0 : Int) ≤ y_72.toInt ∧ y_72.toInt ≤ 5 := r_lt1 b_y_72 b_r_92 n_c_93 (by decide)
      have b_r_92 : (1 : Int) ≤ r_92.toInt ∧ r_92.toInt ≤ 6 := r_lt2 b_y_72 b_r_92 n_c_93 (by decide)
      refine lv_iload_n hx hb dX10_is_47 rfl (lv_at hl 1 rfl) ?_
      refine lv_if_eq (tgt := 82) hx hb dX10_is_48 (by decide) (fun c_94 => ?_) (fun c_94 => ?_)
      ·
        have n_c_94 : (y_73.toInt : Int) = 0 := c_eq rfl (by decide) c_94
        have b_y_73 : (0 : Int) ≤ y_73.toInt ∧ y_73.toInt ≤ 0 := r_eq1 b_y_73 (by decide : (0 : Int) ≤ (0 : Int32).toInt ∧ (0 : Int32).toInt ≤ 0) n_c_94 (by decide)
        refine lv_iload_n hx hb dX10_is_82 rfl (lv_at hl 1 rfl) ?_
        exact W.zret (v := y_73) hx hb hr (zn_b (rg_w b_y_73 (by decide) (by decide))) (fun t ht hW => ⟨y_73, rfl, ⟨(rg_w b_y_73 (by decide) (by decide)), (fun h9 => by have h8 := c_ne rfl (by decide : (0 : Int32).toInt = 0) h9; have hi1 := (his.1 (by omega)); exact ⟨by omega, by omega, by omega, fun j hj => hi1.2 j (by omega)⟩), (fun h9 => his.2 (c_eq rfl (by decide : (0 : Int32).toInt = 0) h9))⟩, ht⟩) t_nil dX10_is_83
      ·
        have n_c_94 : (y_73.toInt : Int) ≠ 0 := c_ne rfl (by decide) c_94
        have b_y_73 : (1 : Int) ≤ y_73.toInt ∧ y_73.toInt ≤ 1 := r_ne1 b_y_73 (by decide : (0 : Int) ≤ (0 : Int32).toInt ∧ (0 : Int32).toInt ≤ 0) n_c_94 (by decide)
        have hi1 := (his.1 (by omega)).1
        refine lv_aload_n hx hb dX10_is_51 rfl (lv_at hl 2 rfl) ?_
        refine va_get (D := (dC, dI)) (ci := 8) (v := .ref mtp) (C := RX10) (T := TX10) (N := 33) hx hb hts iX10_is_X10 hown hK hP 0 rfl rfl 5 (by decide) (hts (.fieldLink RX10 23 "LuckyTicketModel" "tape" "[B") (List.mem_of_getElem? (i := 12) rfl)) (fun _ h9 => h9) rfl dX10_is_52 ?_
        refine lv_aload_n hx hb dX10_is_55 rfl (lv_at hl 2 rfl) ?_
        refine va_get (D := (dC, dI)) (ci := 8) (v := .int x_fr) (C := RX10) (T := TX10) (N := 33) hx hb hts iX10_is_X10 hown hK hP 0 rfl rfl 10 (by decide) (hts (.fieldLink RX10 110 "LuckyTicketModel" "from" "I") (List.mem_of_getElem? (i := 7) rfl)) (fun _ h9 => h9) rfl dX10_is_56 ?_
        refine lv_iload_n hx hb dX10_is_59 rfl (lv_at hl 0 rfl) ?_
        refine lv_iadd hx hb dX10_is_60 ?_
        refine lv_topi (fun z_95 e_z_95 => ?_)
        obtain ⟨q_z_95, b_z_95⟩ := ti_add (lo := 0) (hi := 1205) e_z_95 rfl rfl b_x_fr b_y_72 (by decide)
        refine va_bald hx hb hK hP 1 0 rfl rfl (vp_in_iff.mpr ⟨by omega, by omega⟩) dX10_is_61 ?_
        refine lv_topi (fun z_96 e_z_96 => ?_)
        refine lv_aload_n hx hb dX10_is_62 rfl (lv_at hl 3 rfl) ?_
        refine lv_iload_n hx hb dX10_is_63 rfl (lv_at hl 0 rfl) ?_
        refine vp_callSi (W.runV (As := [.int y_72]) (rest := [.int z_96]) ⟨hx, hb, hml, hown, hts⟩ (kJ0_charAt_5068e l dC dI tq tn tf y_72 n0 (by omega)) (cwV 1 hts gX10_is__J0_charAt_5068e_V147 rfl rfl rfl hd_yJ0_charAt_5068e ⟨lel 4 4 rfl, lel 85 85 rfl⟩) ⟨px_fb, txt.recv ht_tq hS0, (px_use hP hK hN hX hS0 [] rfl [] rfl (tts_1 ht_tq) tbs_0)⟩ rfl rfl hl.1 rfl (lv_room (Nat.le_of_ble_eq_true rfl)) dX10_is_64 ⟨lel 0 0 rfl, lel 0 0 rfl⟩) (fun r_97 h_r_97 => ?_)
        have pr_r_97 := h_r_97
        refine lv_icmp_ne (tgt := 74) hx hb dX10_is_67 (by decide) (fun c_98 => ?_) (fun c_98 => ?_)
        ·
          have n_c_98 : (z_96.toInt : Int) ≠ r_97.toInt := c_ne rfl rfl c_98
          refine lv_iconst (v := 0) hx hb dX10_is_74 (by decide) ?_
          refine lv_istore_n (lv' := [(2, .int 0), (3, .int y_72), (0, .ref o0), (1, .ref tq)]) hx hb dX10_is_75 rfl hl (by decide) rfl (fun ls hl => ?_)
          obtain ⟨z_99, e_z_99⟩ : ∃ y : Int32, y = y_72 + 1 := ⟨_, rfl⟩
          refine lv_iinc (v := z_99) (lv' := [(3, .int z_99), (2, .int 0), (0, .ref o0), (1, .ref tq)]) hx hb dX10_is_76 hl (k := 1) rfl (by rw [e_z_99]; rfl) (by decide) rfl (fun ls hl => ?_)
          obtain ⟨q_z_99, b_z_99⟩ := ti_add (lo := 1) (hi := 6) e_z_99 rfl (by decide : (1 : Int32).toInt = 1) b_y_72 (by decide : (1 : Int) ≤ (1 : Int32).toInt ∧ (1 : Int32).toInt ≤ 1) (by decide)
          refine lv_goto (tgt := 39) hx hb dX10_is_79 (by decide) ?_
          exact ih_39_91 (z_99, (0 : Int32)) _ ⟨(show (0 : Int) ≤ z_99.toInt ∧ z_99.toInt ≤ 6 from (rg_w b_z_99 (by decide) (by decide))), (show (0 : Int) ≤ (0 : Int32).toInt ∧ (0 : Int32).toInt ≤ 1 from (rg_w (by decide : (0 : Int) ≤ (0 : Int32).toInt ∧ (0 : Int32).toInt ≤ 0) (by decide) (by decide))), (show ((0 : Int32).toInt = 1 → (x_fk.toInt = 0 ∧ x_to.toInt = 1 ∧ x_at.toInt - x_fr.toInt = (tn : Int)) ∧ ∀ j : Nat, j < z_99.toInt.toNat → w_tp (x_fr.toInt.toNat + j) = chr8 (tf j)) ∧ ((0 : Int32).toInt = 0 → ¬ (x_fk.toInt = 0 ∧ WD w_tp x_to x_fr x_at tn tf)) from (⟨fun h9 => absurd h9 (by decide), fun _ hq => absurd (hq.2.2.2 y_72.toInt.toNat (by omega)) (wd_ne (by omega) (by omega) (by omega) e_z_96 pr_r_97 c_98)⟩)), (show z_99.toInt ≤ (tn : Int) from (by have zl : (0 : Int32).toInt = 0 := (by decide); omega)), lv_sub hl [0, 1, 2, 3] rfl⟩ (show (6 - z_99.toInt).toNat < (6 - y_72.toInt).toNat by omega)
        ·
          have n_c_98 : (z_96.toInt : Int) = r_97.toInt := c_eq rfl rfl c_98
          refine lv_iconst (v := 1) hx hb dX10_is_70 (by decide) ?_
          refine lv_goto (tgt := 75) hx hb dX10_is_71 (by decide) ?_
          refine lv_istore_n (lv' := [(2, .int 1), (3, .int y_72), (0, .ref o0), (1, .ref tq)]) hx hb dX10_is_75 rfl hl (by decide) rfl (fun ls hl => ?_)
          obtain ⟨z_100, e_z_100⟩ : ∃ y : Int32, y = y_72 + 1 := ⟨_, rfl⟩
          refine lv_iinc (v := z_100) (lv' := [(3, .int z_100), (2, .int 1), (0, .ref o0), (1, .ref tq)]) hx hb dX10_is_76 hl (k := 1) rfl (by rw [e_z_100]; rfl) (by decide) rfl (fun ls hl => ?_)
          obtain ⟨q_z_100, b_z_100⟩ := ti_add (lo := 1) (hi := 6) e_z_100 rfl (by decide : (1 : Int32).toInt = 1) b_y_72 (by decide : (1 : Int) ≤ (1 : Int32).toInt ∧ (1 : Int32).toInt ≤ 1) (by decide)
          refine lv_goto (tgt := 39) hx hb dX10_is_79 (by decide) ?_
          exact ih_39_91 (z_100, (1 : Int32)) _ ⟨(show (0 : Int) ≤ z_100.toInt ∧ z_100.toInt ≤ 6 from (rg_w b_z_100 (by decide) (by decide))), (show (0 : Int) ≤ (1 : Int32).toInt ∧ (1 : Int32).toInt ≤ 1 from (rg_w (by decide : (1 : Int) ≤ (1 : Int32).toInt ∧ (1 : Int32).toInt ≤ 1) (by decide) (by decide))), (show ((1 : Int32).toInt = 1 → (x_fk.toInt = 0 ∧ x_to.toInt = 1 ∧ x_at.toInt - x_fr.toInt = (tn : Int)) ∧ ∀ j : Nat, j < z_100.toInt.toNat → w_tp (x_fr.toInt.toNat + j) = chr8 (tf j)) ∧ ((1 : Int32).toInt = 0 → ¬ (x_fk.toInt = 0 ∧ WD w_tp x_to x_fr x_at tn tf)) from (⟨fun _ => ⟨(his.1 (by omega)).1, wd_next (his.1 (by omega)).2 (by omega) q_z_100 (by omega) (by omega) e_z_96 pr_r_97 c_98⟩, fun h9 => absurd h9 (by decide)⟩)), (show z_100.toInt ≤ (tn : Int) from (by have zl : (1 : Int32).toInt = 1 := (by decide); omega)), lv_sub hl [0, 1, 2, 3] rfl⟩ (show (6 - z_100.toInt).toNat < (6 - y_72.toInt).toNat by omega)
  ·
    refine lv_if_eq (tgt := 35) hx hb dX10_is_4 (by decide) (fun c_55 => ?_) (fun c_55 => ?_)
    ·
      have n_c_55 : (r_54.toInt : Int) = 0 := c_eq rfl (by decide) c_55
      have b_r_54 : (0 : Int) ≤ r_54.toInt ∧ r_54.toInt ≤ 0 := r_eq1 b_r_54 (by decide : (0 : Int) ≤ (0 : Int32).toInt ∧ (0 : Int32).toInt ≤ 0) n_c_55 (by decide)
      have g_101 := zz_r_54 c_55
      refine lv_iconst (v := 0) hx hb dX10_is_35 (by decide) ?_
      exact hj_36_62 (0 : Int32) _ ⟨(show (0 : Int) ≤ (0 : Int32).toInt ∧ (0 : Int32).toInt ≤ 1 from (rg_w (by decide : (0 : Int) ≤ (0 : Int32).toInt ∧ (0 : Int32).toInt ≤ 0) (by decide) (by decide))), (show ((0 : Int32).toInt = 1 → (x_fk.toInt = 0 ∧ x_to.toInt = 1 ∧ x_at.toInt - x_fr.toInt = (tn : Int)) ∧ ∀ j : Nat, j < (0 : Int32).toInt.toNat → w_tp (x_fr.toInt.toNat + j) = chr8 (tf j)) ∧ ((0 : Int32).toInt = 0 → ¬ (x_fk.toInt = 0 ∧ WD w_tp x_to x_fr x_at tn tf)) from (⟨fun h9 => absurd h9 (by decide), fun _ hq => by have h1 := hq.1; have h2 := hq.2.1; have h3 := hq.2.2.1; omega⟩)), lv_sub hl [0, 1] rfl⟩
    ·
      have n_c_55 : (r_54.toInt : Int) ≠ 0 := c_ne rfl (by decide) c_55
      have b_r_54 : (1 : Int) ≤ r_54.toInt ∧ r_54.toInt ≤ 1 := r_ne1 b_r_54 (by decide : (0 : Int) ≤ (0 : Int32).toInt ∧ (0 : Int32).toInt ≤ 0) n_c_55 (by decide)
      have g_102 := nz_r_54 c_55
      refine lv_aload_n hx hb dX10_is_7 rfl (lv_at hl 0 rfl) ?_
      refine va_get (D := (dC, dI)) (ci := 8) (v := .int x_to) (C := RX10) (T := TX10) (N := 33) hx hb hts iX10_is_X10 hown hK hP 0 rfl rfl 11 (by decide) (hts (.fieldLink RX10 113 "LuckyTicketModel" "token" "I") (List.mem_of_getElem? (i := 5) rfl)) (fun _ h9 => h9) rfl dX10_is_8 ?_
      refine lv_iconst (v := 1) hx hb dX10_is_11 (by decide) ?_
      refine lv_icmp_ne (tgt := 35) hx hb dX10_is_12 (by decide) (fun c_103 => ?_) (fun c_103 => ?_)
      ·
        have n_c_103 : (x_to.toInt : Int) ≠ 1 := c_ne rfl (by decide) c_103
        refine lv_iconst (v := 0) hx hb dX10_is_35 (by decide) ?_
        exact hj_36_62 (0 : Int32) _ ⟨(show (0 : Int) ≤ (0 : Int32).toInt ∧ (0 : Int32).toInt ≤ 1 from (rg_w (by decide : (0 : Int) ≤ (0 : Int32).toInt ∧ (0 : Int32).toInt ≤ 0) (by decide) (by decide))), (show ((0 : Int32).toInt = 1 → (x_fk.toInt = 0 ∧ x_to.toInt = 1 ∧ x_at.toInt - x_fr.toInt = (tn : Int)) ∧ ∀ j : Nat, j < (0 : Int32).toInt.toNat → w_tp (x_fr.toInt.toNat + j) = chr8 (tf j)) ∧ ((0 : Int32).toInt = 0 → ¬ (x_fk.toInt = 0 ∧ WD w_tp x_to x_fr x_at tn tf)) from (⟨fun h9 => absurd h9 (by decide), fun _ hq => by have h1 := hq.1; have h2 := hq.2.1; have h3 := hq.2.2.1; omega⟩)), lv_sub hl [0, 1] rfl⟩
      ·
        have n_c_103 : (x_to.toInt : Int) = 1 := c_eq rfl (by decide) c_103
        have b_x_to : (1 : Int) ≤ x_to.toInt ∧ x_to.toInt ≤ 1 := r_eq1 b_x_to (by decide : (1 : Int) ≤ (1 : Int32).toInt ∧ (1 : Int32).toInt ≤ 1) n_c_103 (by decide)
        refine lv_aload_n hx hb dX10_is_15 rfl (lv_at hl 0 rfl) ?_
        refine va_get (D := (dC, dI)) (ci := 8) (v := .int x_at) (C := RX10) (T := TX10) (N := 33) hx hb hts iX10_is_X10 hown hK hP 0 rfl rfl 9 (by decide) (hts (.fieldLink RX10 103 "LuckyTicketModel" "at" "I") (List.mem_of_getElem? (i := 6) rfl)) (fun _ h9 => h9) rfl dX10_is_16 ?_
        refine lv_aload_n hx hb dX10_is_19 rfl (lv_at hl 0 rfl) ?_
        refine va_get (D := (dC, dI)) (ci := 8) (v := .int x_fr) (C := RX10) (T := TX10) (N := 33) hx hb hts iX10_is_X10 hown hK hP 0 rfl rfl 10 (by decide) (hts (.fieldLink RX10 110 "LuckyTicketModel" "from" "I") (List.mem_of_getElem? (i := 7) rfl)) (fun _ h9 => h9) rfl dX10_is_20 ?_
        refine lv_isub hx hb dX10_is_23 ?_
        refine lv_topi (fun z_104 e_z_104 => ?_)
        obtain ⟨q_z_104, b_z_104⟩ := ti_sub (lo := -1200) (hi := 1200) e_z_104 rfl rfl b_x_at b_x_fr (by decide)
        refine lv_aload_n hx hb dX10_is_24 rfl (lv_at hl 1 rfl) ?_
        refine vp_callSi (W.runV (As := []) (rest := [.int z_104]) ⟨hx, hb, hml, hown, hts⟩ (kJ0_length_8abf5 l dC dI tq tn tf n0 (by omega)) (cwV 0 hts gX10_is__J0_length_8abf5_V141 rfl rfl rfl hd_yJ0_length_8abf5 ⟨lel 2 4 rfl, lel 40 85 rfl⟩) ⟨px_fb, txt.recv ht_tq hS0, (px_use hP hK hN hX hS0 [] rfl [] rfl (tts_1 ht_tq) tbs_0)⟩ rfl rfl hl.1 rfl (lv_room (Nat.le_of_ble_eq_true rfl)) dX10_is_25 ⟨lel 0 0 rfl, lel 0 0 rfl⟩) (fun r_105 h_r_105 => ?_)
        obtain ⟨b_r_105, pr_r_105⟩ := h_r_105
        have b_r_105 : (0 : Int) ≤ r_105.toInt ∧ r_105.toInt ≤ 6 := b_r_105
        refine lv_icmp_ne (tgt := 35) hx hb dX10_is_28 (by decide) (fun c_106 => ?_) (fun c_106 => ?_)
        ·
          have n_c_106 : (z_104.toInt : Int) ≠ r_105.toInt := c_ne rfl rfl c_106
          refine lv_iconst (v := 0) hx hb dX10_is_35 (by decide) ?_
          exact hj_36_62 (0 : Int32) _ ⟨(show (0 : Int) ≤ (0 : Int32).toInt ∧ (0 : Int32).toInt ≤ 1 from (rg_w (by decide : (0 : Int) ≤ (0 : Int32).toInt ∧ (0 : Int32).toInt ≤ 0) (by decide) (by decide))), (show ((0 : Int32).toInt = 1 → (x_fk.toInt = 0 ∧ x_to.toInt = 1 ∧ x_at.toInt - x_fr.toInt = (tn : Int)) ∧ ∀ j : Nat, j < (0 : Int32).toInt.toNat → w_tp (x_fr.toInt.toNat + j) = chr8 (tf j)) ∧ ((0 : Int32).toInt = 0 → ¬ (x_fk.toInt = 0 ∧ WD w_tp x_to x_fr x_at tn tf)) from (⟨fun h9 => absurd h9 (by decide), fun _ hq => by have h1 := hq.1; have h2 := hq.2.1; have h3 := hq.2.2.1; omega⟩)), lv_sub hl [0, 1] rfl⟩
        ·
          have n_c_106 : (z_104.toInt : Int) = r_105.toInt := c_eq rfl rfl c_106
          have b_z_104 : (0 : Int) ≤ z_104.toInt ∧ z_104.toInt ≤ 6 := r_eq1 b_z_104 b_r_105 n_c_106 (by decide)
          refine lv_iconst (v := 1) hx hb dX10_is_31 (by decide) ?_
          refine lv_goto (tgt := 36) hx hb dX10_is_32 (by decide) ?_
          exact hj_36_62 (1 : Int32) _ ⟨(show (0 : Int) ≤ (1 : Int32).toInt ∧ (1 : Int32).toInt ≤ 1 from (rg_w (by decide : (1 : Int) ≤ (1 : Int32).toInt ∧ (1 : Int32).toInt ≤ 1) (by decide) (by decide))), (show ((1 : Int32).toInt = 1 → (x_fk.toInt = 0 ∧ x_to.toInt = 1 ∧ x_at.toInt - x_fr.toInt = (tn : Int)) ∧ ∀ j : Nat, j < (0 : Int32).toInt.toNat → w_tp (x_fr.toInt.toNat + j) = chr8 (tf j)) ∧ ((1 : Int32).toInt = 0 → ¬ (x_fk.toInt = 0 ∧ WD w_tp x_to x_fr x_at tn tf)) from (⟨fun _ => ⟨by omega, nil_lt⟩, fun h9 => absurd h9 (by decide)⟩)), lv_sub hl [0, 1] rfl⟩
theorem dX10_takes_0 : decode cX10_takes 0 = .ok (.aload_n 0, 1) := by decide +kernel
theorem dX10_takes_1 : decode cX10_takes 1 = .ok (.aload_n 1, 1) := by decide +kernel
theorem dX10_takes_2 : decode cX10_takes 2 = .ok (.invokevirtual 151, 3) := by decide +kernel
theorem dX10_takes_5 : decode cX10_takes 5 = .ok (.istore_n 2, 1) := by decide +kernel
theorem dX10_takes_6 : decode cX10_takes 6 = .ok (.iload_n 2, 1) := by decide +kernel
theorem dX10_takes_7 : decode cX10_takes 7 = .ok (.ifCond .eq 7, 3) := by decide +kernel
theorem dX10_takes_10 : decode cX10_takes 10 = .ok (.aload_n 0, 1) := by decide +kernel
theorem dX10_takes_11 : decode cX10_takes 11 = .ok (.invokevirtual 155, 3) := by decide +kernel
theorem dX10_takes_14 : decode cX10_takes 14 = .ok (.iload_n 2, 1) := by decide +kernel
theorem dX10_takes_15 : decode cX10_takes 15 = .ok (.ireturn, 1) := by decide +kernel
theorem hd_yX10_takes : yX10_takes.cls = RX10 ∧ yX10_takes.cls ≠ "java/lang/invoke/MethodHandle" ∧ yX10_takes.cls ≠ "java/lang/invoke/VarHandle" ∧ (parseMethodDescriptor yX10_takes.desc).map (fun d => d.parameters.length) = some 1 := by decide +kernel
def uX10_takes : List Cond := List.cons (.code yX10_takes cX10_takes 3 (some .boolean)) (HAppend.hAppend ([.methodLink RX10 151 yX10_is, .instanceMethod yX10_is, .selects RX10 yX10_is yX10_is, .initialized RX10, .methodLink RX10 155 yX10_advance, .instanceMethod yX10_advance, .selects RX10 yX10_advance yX10_advance] : List Cond) (HAppend.hAppend uX10_is uX10_advance))
theorem guX10_takes : GU uX10_takes := gu_cons (gu_app (by decide +kernel) (gu_ap guX10_is guX10_advance))
theorem gX10_takes__X10_is_V151 : GoodIn uX10_takes (wsV RX10 151 RX10 yX10_is uX10_is) := gin_V (List.mem_of_getElem? (i := 1) rfl) (List.mem_of_getElem? (i := 2) rfl) (List.mem_of_getElem? (i := 3) rfl) (List.mem_of_getElem? (i := 4) rfl) (fun _ h => (List.mem_cons_of_mem _ (List.mem_append_right _ (List.mem_append_left _ h)))) guX10_is
theorem gX10_takes__X10_advance_V155 : GoodIn uX10_takes (wsV RX10 155 RX10 yX10_advance uX10_advance) := gin_V (List.mem_of_getElem? (i := 5) rfl) (List.mem_of_getElem? (i := 6) rfl) (List.mem_of_getElem? (i := 7) rfl) (List.mem_of_getElem? (i := 4) rfl) (fun _ h => (List.mem_cons_of_mem _ (List.mem_append_right _ (List.mem_append_right _ h)))) guX10_advance
set_option maxHeartbeats 4000000 in
set_option maxRecDepth 100000 in
theorem kX10_takes (l : Launch) (dC : Nat → ClassId) (dI : Nat → Nat → Nat) (o0 : Nat) (x_th : Int32) (mwo : Nat) (mim : Nat) (mhi : Nat) (mlu : Nat) (mtp : Nat) (x_td : Int32) (mfv : Nat) (x_sz : Int32) (x_at : Int32) (x_fr : Int32) (x_to : Int32) (x_va : Int32) (x_fk : Int32) (x_fp : Int32) (mfr : Nat) (mwt : Nat) (x_wt : Int32) (x_op : Int32) (x_jo : Int32) (mfg : Nat) (mpl : Nat) (x_dr : Int64) (mtm : Nat) (mfa : Nat) (mqu : Nat) (mmo : Nat) (mwy : Nat) (mwn : Nat) (mma : Nat) (mwi : Nat) (mnu : Nat) (mmv : Nat) (c_tp : ClassId) (w_tp : Nat → Int32) (tq : Nat) (tn : Nat) (tf : Nat → Int32) (n0 : Nat) (sz : Nat) (b_x_sz : (0 : Int) ≤ x_sz.toInt ∧ x_sz.toInt ≤ 1200) (b_x_at : (0 : Int) ≤ x_at.toInt ∧ x_at.toInt ≤ 1200) (b_x_fr : (0 : Int) ≤ x_fr.toInt ∧ x_fr.toInt ≤ 1200) (b_x_to : (0 : Int) ≤ x_to.toInt ∧ x_to.toInt ≤ 6) (b_x_fk : (0 : Int) ≤ x_fk.toInt ∧ x_fk.toInt ≤ 3) (hpf : x_fr.toInt ≤ x_at.toInt ∧ x_at.toInt ≤ x_sz.toInt) (htk0 : x_to.toInt ≠ 0 → x_fr.toInt < x_at.toInt) (htn : 2 ≤ tn ∧ tn ≤ 6) : Met l yX10_takes uX10_takes ({ frames := 5, cells := 0, slots := 0, locals := 108 }) (va_Pc [.ref o0, .ref tq] (hx_ (dC, dI) vwCl [(o0, .inr (8, [.int x_th, .ref mwo, .ref mim, .ref mhi, .ref mlu, .ref mtp, .int x_td, .ref mfv, .int x_sz, .int x_at, .int x_fr, .int x_to, .int x_va, .int x_fk, .int x_fp, .ref mfr, .ref mwt, .int x_wt, .int x_op, .int x_jo, .ref mfg, .ref mpl, .long x_dr, .ref mtm, .ref mfa, .ref mqu, .ref mmo, .ref mwy, .ref mwn, .ref mma, .ref mwi, .ref mnu, .ref mmv])), (mtp, .inl (c_tp, 1200, .inl w_tp))] [(c_tp, .byte)] sz n0 [(tq, tn, tf)])) (va_Qi (fun (r : Int32) (u_ : Int32) => r = u_ ∧ ((0 : Int) ≤ r.toInt ∧ r.toInt ≤ 1)) (fun (r : Int32) t => ∃ (o0_ : Int32) (o1_ : Int32) (o2_ : Int32) (o3_ : Int32), ((0 : Int) ≤ o0_.toInt ∧ o0_.toInt ≤ 1200) ∧ ((0 : Int) ≤ o1_.toInt ∧ o1_.toInt ≤ 1200) ∧ ((0 : Int) ≤ o2_.toInt ∧ o2_.toInt ≤ 6) ∧ (o1_.toInt ≤ o0_.toInt ∧ o0_.toInt ≤ x_sz.toInt) ∧ (o2_.toInt ≠ 0 → o1_.toInt < o0_.toInt) ∧ (x_fr.toInt ≤ o1_.toInt) ∧ (r.toInt ≠ 0 → x_fr.toInt + 2 ≤ o1_.toInt ∧ x_fk.toInt = 0) ∧ (r.toInt ≠ 0 → (x_fk.toInt = 0 ∧ WD w_tp x_to x_fr x_at tn tf) ∧ x_at.toInt ≤ o1_.toInt) ∧ va_P (dC, dI) vwCl [(o0, .inr (8, [.int x_th, .ref mwo, .ref mim, .ref mhi, .ref mlu, .ref mtp, .int x_td, .ref mfv, .int x_sz, .int o0_, .int o1_, .int o2_, .int o3_, .int x_fk, .int x_fp, .ref mfr, .ref mwt, .int x_wt, .int x_op, .int x_jo, .ref mfg, .ref mpl, .long x_dr, .ref mtm, .ref mfa, .ref mqu, .ref mmo, .ref mwy, .ref mwn, .ref mma, .ref mwi, .ref mnu, .ref mmv])), (mtp, .inl (c_tp, 1200, .inl w_tp))] t.heap ∧ va_K (dC, dI) vwCl [(c_tp, .byte)] t ∧ va_D (va_A [(o0, .inr (8, [.int x_th, .ref mwo, .ref mim, .ref mhi, .ref mlu, .ref mtp, .int x_td, .ref mfv, .int x_sz, .int x_at, .int x_fr, .int x_to, .int x_va, .int x_fk, .int x_fp, .ref mfr, .ref mwt, .int x_wt, .int x_op, .int x_jo, .ref mfg, .ref mpl, .long x_dr, .ref mtm, .ref mfa, .ref mqu, .ref mmo, .ref mwy, .ref mwn, .ref mma, .ref mwi, .ref mnu, .ref mmv])), (mtp, .inl (c_tp, 1200, .inl w_tp))] sz) [(o0, .inr (8, [.int x_th, .ref mwo, .ref mim, .ref mhi, .ref mlu, .ref mtp, .int x_td, .ref mfv, .int x_sz, .int o0_, .int o1_, .int o2_, .int o3_, .int x_fk, .int x_fp, .ref mfr, .ref mwt, .int x_wt, .int x_op, .int x_jo, .ref mfg, .ref mpl, .long x_dr, .ref mtm, .ref mfa, .ref mqu, .ref mmo, .ref mwy, .ref mwn, .ref mma, .ref mwi, .ref mnu, .ref mmv])), (mtp, .inl (c_tp, 1200, .inl w_tp))]) (va_A [(o0, .inr (8, [.int x_th, .ref mwo, .ref mim, .ref mhi, .ref mlu, .ref mtp, .int x_td, .ref mfv, .int x_sz, .int x_at, .int x_fr, .int x_to, .int x_va, .int x_fk, .int x_fp, .ref mfr, .ref mwt, .int x_wt, .int x_op, .int x_jo, .ref mfg, .ref mpl, .long x_dr, .ref mtm, .ref mfa, .ref mqu, .ref mmo, .ref mwy, .ref mwn, .ref mma, .ref mwi, .ref mnu, .ref mmv])), (mtp, .inl (c_tp, 1200, .inl w_tp))] sz)) 0 0 (va_A [(o0, .inr (8, [.int x_th, .ref mwo, .ref mim, .ref mhi, .ref mlu, .ref mtp, .int x_td, .ref mfv, .int x_sz, .int x_at, .int x_fr, .int x_to, .int x_va, .int x_fk, .int x_fp, .ref mfr, .ref mwt, .int x_wt, .int x_op, .int x_jo, .ref mfg, .ref mpl, .long x_dr, .ref mtm, .ref mfa, .ref mqu, .ref mmo, .ref mwy, .ref mwn, .ref mma, .ref mwi, .ref mnu, .ref mmv])), (mtp, .inl (c_tp, 1200, .inl w_tp))] sz) := by
  refine Met.ofW (cc := cX10_takes) (maxL := 3) (ret := (some .boolean)) pn_X10 rfl ?_
  intro p e s m args below meth c s₁ B hml hv
  obtain ⟨rfl, ⟨hsz, hP, hK, hD0, hN⟩, hn0, hDn, hX, hTx⟩ := hv
  have hx := B.exec
  have hb := B.bytes
  have hr := B.returns
  have hts := atoms_spec (ws := uX10_takes) B.pre
  have hown : s.vm.findClass RX10 = some m.cls := hown_of B.named rfl
  have hlocks := B.notSynchronized
  subst hsz
  have hD := hD0.self (sz := s.heap.size)
  have hAn : ∀ q, va_A [(o0, .inr (8, [.int x_th, .ref mwo, .ref mim, .ref mhi, .ref mlu, .ref mtp, .int x_td, .ref mfv, .int x_sz, .int x_at, .int x_fr, .int x_to, .int x_va, .int x_fk, .int x_fp, .ref mfr, .ref mwt, .int x_wt, .int x_op, .int x_jo, .ref mfg, .ref mpl, .long x_dr, .ref mtm, .ref mfa, .ref mqu, .ref mmo, .ref mwy, .ref mwn, .ref mma, .ref mwi, .ref mnu, .ref mmv])), (mtp, .inl (c_tp, 1200, .inl w_tp))] s.heap.size q → n0 ≤ q := fun q h => h.elim (fun ⟨k, e, hk⟩ => hDn.2 k (q, e) hk) (fun h => Nat.le_trans hn0 h)
  generalize hAe : va_A [(o0, .inr (8, [.int x_th, .ref mwo, .ref mim, .ref mhi, .ref mlu, .ref mtp, .int x_td, .ref mfv, .int x_sz, .int x_at, .int x_fr, .int x_to, .int x_va, .int x_fk, .int x_fp, .ref mfr, .ref mwt, .int x_wt, .int x_op, .int x_jo, .ref mfg, .ref mpl, .long x_dr, .ref mtm, .ref mfa, .ref mqu, .ref mmo, .ref mwy, .ref mwn, .ref mma, .ref mwi, .ref mnu, .ref mmv])), (mtp, .inl (c_tp, 1200, .inl w_tp))] s.heap.size = A at hD hAn ⊢
  have hA : ∀ q : Nat, s.heap.size ≤ q → A q := fun q h => by rw [← hAe]; exact Or.inr h
  have hS : va_S A s.heap s.heap [] := va_S.rf
  have hP : va_P (dC, dI) vwCl [(o0, .inr (8, [.int x_th, .ref mwo, .ref mim, .ref mhi, .ref mlu, .ref mtp, .int x_td, .ref mfv, .int x_sz, .int x_at, .int x_fr, .int x_to, .int x_va, .int x_fk, .int x_fp, .ref mfr, .ref mwt, .int x_wt, .int x_op, .int x_jo, .ref mfg, .ref mpl, .long x_dr, .ref mtm, .ref mfa, .ref mqu, .ref mmo, .ref mwy, .ref mwn, .ref mma, .ref mwi, .ref mnu, .ref mmv])), (mtp, .inl (c_tp, 1200, .inl w_tp))] s.heap := hP
  have ht_tq : txt n0 tq tn tf s := hTx _ (List.mem_of_getElem? (i := 0) rfl)
  have hl := lv_entry ([.ref o0, .ref tq]) (n := 3) (Nat.le_of_ble_eq_true rfl)
  rw [lg_entry_eq]
  generalize (lg_sl ([.ref o0, .ref tq]) ++ List.replicate (3 - (lg_sl ([.ref o0, .ref tq])).length) Slot.unset).toArray = ls at hl ⊢
  have hl : lv_has ls 3 [(0, .ref o0), (1, .ref tq)] := hl
  refine lv_aload_n hx hb dX10_takes_0 rfl (lv_at hl 0 rfl) ?_
  refine lv_aload_n hx hb dX10_takes_1 rfl (lv_at hl 1 rfl) ?_
  refine vp_callSi (W.runV (As := [.ref tq]) (rest := []) ⟨hx, hb, hml, hown, hts⟩ (kX10_is l dC dI o0 x_th mwo mim mhi mlu mtp x_td mfv x_sz x_at x_fr x_to x_va x_fk x_fp mfr mwt x_wt x_op x_jo mfg mpl x_dr mtm mfa mqu mmo mwy mwn mma mwi mnu mmv c_tp w_tp tq tn tf n0 b_x_sz b_x_at b_x_fr b_x_to b_x_fk (by omega) (by omega) (by omega)) (cwV 1 hts gX10_takes__X10_is_V151 rfl rfl rfl hd_yX10_is ⟨lel 5 5 rfl, lel 108 108 rfl⟩) ⟨px_fb, rcv_X10 hK hP (q0 := 0) rfl, (px_use hP hK hN hX (vs_up hS hAn) [0, 1] rfl [0] rfl (tts_1 ht_tq) tbs_0)⟩ rfl rfl hl.1 rfl (lv_room (Nat.le_of_ble_eq_true rfl)) dX10_takes_2 ⟨lel 0 0 rfl, lel 0 0 rfl⟩) (fun r_14 h_r_14 => ?_)
  obtain ⟨b_r_14, nz_r_14, zz_r_14⟩ := h_r_14
  have b_r_14 : (0 : Int) ≤ r_14.toInt ∧ r_14.toInt ≤ 1 := b_r_14
  refine lv_istore_n (lv' := [(2, .int r_14), (0, .ref o0), (1, .ref tq)]) hx hb dX10_takes_5 rfl hl (by decide) rfl (fun ls hl => ?_)
  refine lv_iload_n hx hb dX10_takes_6 rfl (lv_at hl 0 rfl) ?_
  refine lv_if_eq (tgt := 14) hx hb dX10_takes_7 (by decide) (fun c_15 => ?_) (fun c_15 => ?_)
  ·
    have n_c_15 : (r_14.toInt : Int) = 0 := c_eq rfl (by decide) c_15
    have b_r_14 : (0 : Int) ≤ r_14.toInt ∧ r_14.toInt ≤ 0 := r_eq1 b_r_14 (by decide : (0 : Int) ≤ (0 : Int32).toInt ∧ (0 : Int32).toInt ≤ 0) n_c_15 (by decide)
    have g_16 := zz_r_14 c_15
    refine lv_iload_n hx hb dX10_takes_14 rfl (lv_at hl 0 rfl) ?_
    have hP9 := hP.sub (ws' := [(o0, .inr (8, [.int x_th, .ref mwo, .ref mim, .ref mhi, .ref mlu, .ref mtp, .int x_td, .ref mfv, .int x_sz, .int x_at, .int x_fr, .int x_to, .int x_va, .int x_fk, .int x_fp, .ref mfr, .ref mwt, .int x_wt, .int x_op, .int x_jo, .ref mfg, .ref mpl, .long x_dr, .ref mtm, .ref mfa, .ref mqu, .ref mmo, .ref mwy, .ref mwn, .ref mma, .ref mwi, .ref mnu, .ref mmv])), (mtp, .inl (c_tp, 1200, .inl w_tp))]) [0, 1] rfl
    have hD9 := hD.sub (ws' := [(o0, .inr (8, [.int x_th, .ref mwo, .ref mim, .ref mhi, .ref mlu, .ref mtp, .int x_td, .ref mfv, .int x_sz, .int x_at, .int x_fr, .int x_to, .int x_va, .int x_fk, .int x_fp, .ref mfr, .ref mwt, .int x_wt, .int x_op, .int x_jo, .ref mfg, .ref mpl, .long x_dr, .ref mtm, .ref mfa, .ref mqu, .ref mmo, .ref mwy, .ref mwn, .ref mma, .ref mwi, .ref mnu, .ref mmv])), (mtp, .inl (c_tp, 1200, .inl w_tp))]) [0, 1] (by decide) rfl
    have hK9 := hK.sub (tys' := [(c_tp, .byte)]) [0] rfl
    exact W.zret (v := r_14) hx hb hr (zn_b (rg_w b_r_14 (by decide) (by decide))) (fun t ht hW => ⟨⟨r_14, r_14, rfl, ⟨rfl, (rg_w b_r_14 (by decide) (by decide))⟩, x_at, x_fr, x_to, x_va, b_x_at, b_x_fr, b_x_to, (by omega), (by omega), (by omega), (fun h9 => by first | exact absurd (show (_ : Int) = 0 from by omega) h9 | (have q9 := g_16; exact ⟨by have q8 := q9.2.2.1; omega, q9.1⟩)), (fun h9 => by first | exact absurd (show (_ : Int) = 0 from by omega) h9 | exact ⟨by assumption, by omega⟩), by rw [ht]; exact hP9, va_K.moved hW.alike hK9, hD9⟩, hS.F ht⟩) hS.2.2 dX10_takes_15
  ·
    have n_c_15 : (r_14.toInt : Int) ≠ 0 := c_ne rfl (by decide) c_15
    have b_r_14 : (1 : Int) ≤ r_14.toInt ∧ r_14.toInt ≤ 1 := r_ne1 b_r_14 (by decide : (0 : Int) ≤ (0 : Int32).toInt ∧ (0 : Int32).toInt ≤ 0) n_c_15 (by decide)
    have g_17 := nz_r_14 c_15
    refine lv_aload_n hx hb dX10_takes_10 rfl (lv_at hl 1 rfl) ?_
    have hFc := va_free (wc := [(o0, .inr (8, [.int x_th, .ref mwo, .ref mim, .ref mhi, .ref mlu, .ref mtp, .int x_td, .ref mfv, .int x_sz, .int x_at, .int x_fr, .int x_to, .int x_va, .int x_fk, .int x_fp, .ref mfr, .ref mwt, .int x_wt, .int x_op, .int x_jo, .ref mfg, .ref mpl, .long x_dr, .ref mtm, .ref mfa, .ref mqu, .ref mmo, .ref mwy, .ref mwn, .ref mma, .ref mwi, .ref mnu, .ref mmv])), (mtp, .inl (c_tp, 1200, .inl w_tp))]) hD hS hA [0, 1] rfl
    refine va_callv (va_runV (As := []) (rest := []) ⟨hx, hb, hml, hown, hts⟩ (kX10_advance l dC dI o0 x_th mwo mim mhi mlu mtp x_td mfv x_sz x_at x_fr x_to x_va x_fk x_fp mfr mwt x_wt x_op x_jo mfg mpl x_dr mtm mfa mqu mmo mwy mwn mma mwi mnu mmv c_tp w_tp (s.heap.size) b_x_sz b_x_at b_x_fr b_x_to b_x_fk (by omega)) (cwV 0 hts gX10_takes__X10_advance_V155 rfl rfl rfl hd_yX10_advance ⟨lel 2 5 rfl, lel 46 108 rfl⟩) ⟨hw_fb, rcv_X10 hK hP (q0 := 0) rfl, (hw_use hP hD hK hN [0, 1] rfl (by decide) rfl [0] rfl)⟩ rfl rfl hl.1 rfl (lv_room (Nat.le_of_ble_eq_true rfl)) dX10_takes_11 ⟨lel 0 0 rfl, lel 0 0 rfl⟩) hS (fun q _ h => hFc q h) hFc (fun u_19 t H1 locs ht hvm hw_r_18 hB hz1 hk1 hS => ?_)
    obtain ⟨o0_20, o1_21, o2_22, o3_23, b_o0_20, b_o1_21, b_o2_22, hf_24, hf_25, hf_26, hP1, hK1, hD1⟩ := hB
    rw [ht] at hP1
    have hK1 := va_K.moved hvm.symm hK1
    obtain ⟨hP, hD⟩ := va_join (wr := []) (w1 := [(o0, .inr (8, [.int x_th, .ref mwo, .ref mim, .ref mhi, .ref mlu, .ref mtp, .int x_td, .ref mfv, .int x_sz, .int o0_20, .int o1_21, .int o2_22, .int o3_23, .int x_fk, .int x_fp, .ref mfr, .ref mwt, .int x_wt, .int x_op, .int x_jo, .ref mfg, .ref mpl, .long x_dr, .ref mtm, .ref mfa, .ref mqu, .ref mmo, .ref mwy, .ref mwn, .ref mma, .ref mwi, .ref mnu, .ref mmv])), (mtp, .inl (c_tp, 1200, .inl w_tp))]) hP hD [0, 1] [] rfl rfl (by decide) (by decide) hk1 hFc hP1 hD1
    have hK := (hK.sub (tys' := []) [] rfl).app hK1
    generalize H1 = H at hP hS ⊢
    have hP : va_P (dC, dI) vwCl [(o0, .inr (8, [.int x_th, .ref mwo, .ref mim, .ref mhi, .ref mlu, .ref mtp, .int x_td, .ref mfv, .int x_sz, .int o0_20, .int o1_21, .int o2_22, .int o3_23, .int x_fk, .int x_fp, .ref mfr, .ref mwt, .int x_wt, .int x_op, .int x_jo, .ref mfg, .ref mpl, .long x_dr, .ref mtm, .ref mfa, .ref mqu, .ref mmo, .ref mwy, .ref mwn, .ref mma, .ref mwi, .ref mnu, .ref mmv])), (mtp, .inl (c_tp, 1200, .inl w_tp))] H := hP
    have hD : va_D A [(o0, .inr (8, [.int x_th, .ref mwo, .ref mim, .ref mhi, .ref mlu, .ref mtp, .int x_td, .ref mfv, .int x_sz, .int o0_20, .int o1_21, .int o2_22, .int o3_23, .int x_fk, .int x_fp, .ref mfr, .ref mwt, .int x_wt, .int x_op, .int x_jo, .ref mfg, .ref mpl, .long x_dr, .ref mtm, .ref mfa, .ref mqu, .ref mmo, .ref mwy, .ref mwn, .ref mma, .ref mwi, .ref mnu, .ref mmv])), (mtp, .inl (c_tp, 1200, .inl w_tp))] := hD
    have hK : va_K (dC, dI) vwCl [(c_tp, .byte)] s := hK
    refine lv_iload_n hx hb dX10_takes_14 rfl (lv_at hl 0 rfl) ?_
    have hP9 := hP.sub (ws' := [(o0, .inr (8, [.int x_th, .ref mwo, .ref mim, .ref mhi, .ref mlu, .ref mtp, .int x_td, .ref mfv, .int x_sz, .int o0_20, .int o1_21, .int o2_22, .int o3_23, .int x_fk, .int x_fp, .ref mfr, .ref mwt, .int x_wt, .int x_op, .int x_jo, .ref mfg, .ref mpl, .long x_dr, .ref mtm, .ref mfa, .ref mqu, .ref mmo, .ref mwy, .ref mwn, .ref mma, .ref mwi, .ref mnu, .ref mmv])), (mtp, .inl (c_tp, 1200, .inl w_tp))]) [0, 1] rfl
    have hD9 := hD.sub (ws' := [(o0, .inr (8, [.int x_th, .ref mwo, .ref mim, .ref mhi, .ref mlu, .ref mtp, .int x_td, .ref mfv, .int x_sz, .int o0_20, .int o1_21, .int o2_22, .int o3_23, .int x_fk, .int x_fp, .ref mfr, .ref mwt, .int x_wt, .int x_op, .int x_jo, .ref mfg, .ref mpl, .long x_dr, .ref mtm, .ref mfa, .ref mqu, .ref mmo, .ref mwy, .ref mwn, .ref mma, .ref mwi, .ref mnu, .ref mmv])), (mtp, .inl (c_tp, 1200, .inl w_tp))]) [0, 1] (by decide) rfl
    have hK9 := hK.sub (tys' := [(c_tp, .byte)]) [0] rfl
    exact W.zret (v := r_14) hx hb hr (zn_b (rg_w b_r_14 (by decide) (by decide))) (fun t ht hW => ⟨⟨r_14, r_14, rfl, ⟨rfl, (rg_w b_r_14 (by decide) (by decide))⟩, o0_20, o1_21, o2_22, o3_23, b_o0_20, b_o1_21, b_o2_22, (by omega), (by omega), (by omega), (fun h9 => by first | exact absurd (show (_ : Int) = 0 from by omega) h9 | (have q9 := g_17; exact ⟨by have q8 := q9.2.2.1; omega, q9.1⟩)), (fun h9 => by first | exact absurd (show (_ : Int) = 0 from by omega) h9 | exact ⟨by assumption, by omega⟩), by rw [ht]; exact hP9, va_K.moved hW.alike hK9, hD9⟩, hS.F ht⟩) hS.2.2 dX10_takes_15
theorem dX10_needs_0 : decode cX10_needs 0 = .ok (.aload_n 0, 1) := by decide +kernel
theorem dX10_needs_1 : decode cX10_needs 1 = .ok (.aload_n 1, 1) := by decide +kernel
theorem dX10_needs_2 : decode cX10_needs 2 = .ok (.invokevirtual 158, 3) := by decide +kernel
theorem dX10_needs_5 : decode cX10_needs 5 = .ok (.ifCond .ne 8, 3) := by decide +kernel
theorem dX10_needs_8 : decode cX10_needs 8 = .ok (.aload_n 0, 1) := by decide +kernel
theorem dX10_needs_9 : decode cX10_needs 9 = .ok (.iconst 1, 1) := by decide +kernel
theorem dX10_needs_10 : decode cX10_needs 10 = .ok (.invokevirtual 161, 3) := by decide +kernel
theorem dX10_needs_13 : decode cX10_needs 13 = .ok (.return_, 1) := by decide +kernel
theorem hd_yX10_needs : yX10_needs.cls = RX10 ∧ yX10_needs.cls ≠ "java/lang/invoke/MethodHandle" ∧ yX10_needs.cls ≠ "java/lang/invoke/VarHandle" ∧ (parseMethodDescriptor yX10_needs.desc).map (fun d => d.parameters.length) = some 1 := by decide +kernel
def uX10_needs : List Cond := List.cons (.code yX10_needs cX10_needs 2 none) (HAppend.hAppend ([.methodLink RX10 158 yX10_takes, .instanceMethod yX10_takes, .selects RX10 yX10_takes yX10_takes, .initialized RX10, .methodLink RX10 161 yX10_errs, .instanceMethod yX10_errs, .selects RX10 yX10_errs yX10_errs] : List Cond) (HAppend.hAppend uX10_takes uX10_errs))
theorem guX10_needs : GU uX10_needs := gu_cons (gu_app (by decide +kernel) (gu_ap guX10_takes guX10_errs))
theorem gX10_needs__X10_takes_V158 : GoodIn uX10_needs (wsV RX10 158 RX10 yX10_takes uX10_takes) := gin_V (List.mem_of_getElem? (i := 1) rfl) (List.mem_of_getElem? (i := 2) rfl) (List.mem_of_getElem? (i := 3) rfl) (List.mem_of_getElem? (i := 4) rfl) (fun _ h => (List.mem_cons_of_mem _ (List.mem_append_right _ (List.mem_append_left _ h)))) guX10_takes
theorem gX10_needs__X10_errs_V161 : GoodIn uX10_needs (wsV RX10 161 RX10 yX10_errs uX10_errs) := gin_V (List.mem_of_getElem? (i := 5) rfl) (List.mem_of_getElem? (i := 6) rfl) (List.mem_of_getElem? (i := 7) rfl) (List.mem_of_getElem? (i := 4) rfl) (fun _ h => (List.mem_cons_of_mem _ (List.mem_append_right _ (List.mem_append_right _ h)))) guX10_errs
set_option maxHeartbeats 4000000 in
set_option maxRecDepth 100000 in
theorem kX10_needs (l : Launch) (dC : Nat → ClassId) (dI : Nat → Nat → Nat) (o0 : Nat) (x_th : Int32) (mwo : Nat) (mim : Nat) (mhi : Nat) (mlu : Nat) (mtp : Nat) (x_td : Int32) (mfv : Nat) (x_sz : Int32) (x_at : Int32) (x_fr : Int32) (x_to : Int32) (x_va : Int32) (x_fk : Int32) (x_fp : Int32) (mfr : Nat) (mwt : Nat) (x_wt : Int32) (x_op : Int32) (x_jo : Int32) (mfg : Nat) (mpl : Nat) (x_dr : Int64) (mtm : Nat) (mfa : Nat) (mqu : Nat) (mmo : Nat) (mwy : Nat) (mwn : Nat) (mma : Nat) (mwi : Nat) (mnu : Nat) (mmv : Nat) (c_tp : ClassId) (w_tp : Nat → Int32) (tq : Nat) (tn : Nat) (tf : Nat → Int32) (n0 : Nat) (sz : Nat) (b_x_sz : (0 : Int) ≤ x_sz.toInt ∧ x_sz.toInt ≤ 1200) (b_x_at : (0 : Int) ≤ x_at.toInt ∧ x_at.toInt ≤ 1200) (b_x_fr : (0 : Int) ≤ x_fr.toInt ∧ x_fr.toInt ≤ 1200) (b_x_to : (0 : Int) ≤ x_to.toInt ∧ x_to.toInt ≤ 6) (b_x_fk : (0 : Int) ≤ x_fk.toInt ∧ x_fk.toInt ≤ 3) (hpf : x_fr.toInt ≤ x_at.toInt ∧ x_at.toInt ≤ x_sz.toInt) (htk0 : x_to.toInt ≠ 0 → x_fr.toInt < x_at.toInt) (htn : 2 ≤ tn ∧ tn ≤ 6) : Met l yX10_needs uX10_needs ({ frames := 6, cells := 0, slots := 0, locals := 130 }) (va_Pc [.ref o0, .ref tq] (hx_ (dC, dI) vwCl [(o0, .inr (8, [.int x_th, .ref mwo, .ref mim, .ref mhi, .ref mlu, .ref mtp, .int x_td, .ref mfv, .int x_sz, .int x_at, .int x_fr, .int x_to, .int x_va, .int x_fk, .int x_fp, .ref mfr, .ref mwt, .int x_wt, .int x_op, .int x_jo, .ref mfg, .ref mpl, .long x_dr, .ref mtm, .ref mfa, .ref mqu, .ref mmo, .ref mwy, .ref mwn, .ref mma, .ref mwi, .ref mnu, .ref mmv])), (mtp, .inl (c_tp, 1200, .inl w_tp))] [(c_tp, .byte)] sz n0 [(tq, tn, tf)])) (va_Qv (fun (_ : Unit) => True) (fun (_ : Unit) t => ∃ (o0_ : Int32) (o1_ : Int32) (o2_ : Int32) (o3_ : Int32) (o4_ : Int32) (o5_ : Int32), ((0 : Int) ≤ o0_.toInt ∧ o0_.toInt ≤ 1200) ∧ ((0 : Int) ≤ o1_.toInt ∧ o1_.toInt ≤ 1200) ∧ ((0 : Int) ≤ o2_.toInt ∧ o2_.toInt ≤ 6) ∧ ((0 : Int) ≤ o4_.toInt ∧ o4_.toInt ≤ 3) ∧ (o1_.toInt ≤ o0_.toInt ∧ o0_.toInt ≤ x_sz.toInt) ∧ (o2_.toInt ≠ 0 → o1_.toInt < o0_.toInt) ∧ (x_fr.toInt ≤ o1_.toInt) ∧ (o4_.toInt = 0 → x_fr.toInt + 2 ≤ o1_.toInt ∧ x_fk.toInt = 0) ∧ (o4_.toInt = 0 → (x_fk.toInt = 0 ∧ WD w_tp x_to x_fr x_at tn tf) ∧ x_at.toInt ≤ o1_.toInt) ∧ va_P (dC, dI) vwCl [(o0, .inr (8, [.int x_th, .ref mwo, .ref mim, .ref mhi, .ref mlu, .ref mtp, .int x_td, .ref mfv, .int x_sz, .int o0_, .int o1_, .int o2_, .int o3_, .int o4_, .int o5_, .ref mfr, .ref mwt, .int x_wt, .int x_op, .int x_jo, .ref mfg, .ref mpl, .long x_dr, .ref mtm, .ref mfa, .ref mqu, .ref mmo, .ref mwy, .ref mwn, .ref mma, .ref mwi, .ref mnu, .ref mmv])), (mtp, .inl (c_tp, 1200, .inl w_tp))] t.heap ∧ va_K (dC, dI) vwCl [(c_tp, .byte)] t ∧ va_D (va_A [(o0, .inr (8, [.int x_th, .ref mwo, .ref mim, .ref mhi, .ref mlu, .ref mtp, .int x_td, .ref mfv, .int x_sz, .int x_at, .int x_fr, .int x_to, .int x_va, .int x_fk, .int x_fp, .ref mfr, .ref mwt, .int x_wt, .int x_op, .int x_jo, .ref mfg, .ref mpl, .long x_dr, .ref mtm, .ref mfa, .ref mqu, .ref mmo, .ref mwy, .ref mwn, .ref mma, .ref mwi, .ref mnu, .ref mmv])), (mtp, .inl (c_tp, 1200, .inl w_tp))] sz) [(o0, .inr (8, [.int x_th, .ref mwo, .ref mim, .ref mhi, .ref mlu, .ref mtp, .int x_td, .ref mfv, .int x_sz, .int o0_, .int o1_, .int o2_, .int o3_, .int o4_, .int o5_, .ref mfr, .ref mwt, .int x_wt, .int x_op, .int x_jo, .ref mfg, .ref mpl, .long x_dr, .ref mtm, .ref mfa, .ref mqu, .ref mmo, .ref mwy, .ref mwn, .ref mma, .ref mwi, .ref mnu, .ref mmv])), (mtp, .inl (c_tp, 1200, .inl w_tp))]) (va_A [(o0, .inr (8, [.int x_th, .ref mwo, .ref mim, .ref mhi, .ref mlu, .ref mtp, .int x_td, .ref mfv, .int x_sz, .int x_at, .int x_fr, .int x_to, .int x_va, .int x_fk, .int x_fp, .ref mfr, .ref mwt, .int x_wt, .int x_op, .int x_jo, .ref mfg, .ref mpl, .long x_dr, .ref mtm, .ref mfa, .ref mqu, .ref mmo, .ref mwy, .ref mwn, .ref mma, .ref mwi, .ref mnu, .ref mmv])), (mtp, .inl (c_tp, 1200, .inl w_tp))] sz)) 0 0 (va_A [(o0, .inr (8, [.int x_th, .ref mwo, .ref mim, .ref mhi, .ref mlu, .ref mtp, .int x_td, .ref mfv, .int x_sz, .int x_at, .int x_fr, .int x_to, .int x_va, .int x_fk, .int x_fp, .ref mfr, .ref mwt, .int x_wt, .int x_op, .int x_jo, .ref mfg, .ref mpl, .long x_dr, .ref mtm, .ref mfa, .ref mqu, .ref mmo, .ref mwy, .ref mwn, .ref mma, .ref mwi, .ref mnu, .ref mmv])), (mtp, .inl (c_tp, 1200, .inl w_tp))] sz) := by
  refine Met.ofW (cc := cX10_needs) (maxL := 2) (ret := none) pn_X10 rfl ?_
  intro p e s m args below meth c s₁ B hml hv
  obtain ⟨rfl, ⟨hsz, hP, hK, hD0, hN⟩, hn0, hDn, hX, hTx⟩ := hv
  have hx := B.exec
  have hb := B.bytes
  have hr := B.returns
  have hts := atoms_spec (ws := uX10_needs) B.pre
  have hown : s.vm.findClass RX10 = some m.cls := hown_of B.named rfl
  have hlocks := B.notSynchronized
  subst hsz
  have hD := hD0.self (sz := s.heap.size)
  have hAn : ∀ q, va_A [(o0, .inr (8, [.int x_th, .ref mwo, .ref mim, .ref mhi, .ref mlu, .ref mtp, .int x_td, .ref mfv, .int x_sz, .int x_at, .int x_fr, .int x_to, .int x_va, .int x_fk, .int x_fp, .ref mfr, .ref mwt, .int x_wt, .int x_op, .int x_jo, .ref mfg, .ref mpl, .long x_dr, .ref mtm, .ref mfa, .ref mqu, .ref mmo, .ref mwy, .ref mwn, .ref mma, .ref mwi, .ref mnu, .ref mmv])), (mtp, .inl (c_tp, 1200, .inl w_tp))] s.heap.size q → n0 ≤ q := fun q h => h.elim (fun ⟨k, e, hk⟩ => hDn.2 k (q, e) hk) (fun h => Nat.le_trans hn0 h)
  generalize hAe : va_A [(o0, .inr (8, [.int x_th, .ref mwo, .ref mim, .ref mhi, .ref mlu, .ref mtp, .int x_td, .ref mfv, .int x_sz, .int x_at, .int x_fr, .int x_to, .int x_va, .int x_fk, .int x_fp, .ref mfr, .ref mwt, .int x_wt, .int x_op, .int x_jo, .ref mfg, .ref mpl, .long x_dr, .ref mtm, .ref mfa, .ref mqu, .ref mmo, .ref mwy, .ref mwn, .ref mma, .ref mwi, .ref mnu, .ref mmv])), (mtp, .inl (c_tp, 1200, .inl w_tp))] s.heap.size = A at hD hAn ⊢
  have hA : ∀ q : Nat, s.heap.size ≤ q → A q := fun q h => by rw [← hAe]; exact Or.inr h
  have hS : va_S A s.heap s.heap [] := va_S.rf
  have hP : va_P (dC, dI) vwCl [(o0, .inr (8, [.int x_th, .ref mwo, .ref mim, .ref mhi, .ref mlu, .ref mtp, .int x_td, .ref mfv, .int x_sz, .int x_at, .int x_fr, .int x_to, .int x_va, .int x_fk, .int x_fp, .ref mfr, .ref mwt, .int x_wt, .int x_op, .int x_jo, .ref mfg, .ref mpl, .long x_dr, .ref mtm, .ref mfa, .ref mqu, .ref mmo, .ref mwy, .ref mwn, .ref mma, .ref mwi, .ref mnu, .ref mmv])), (mtp, .inl (c_tp, 1200, .inl w_tp))] s.heap := hP
  have ht_tq : txt n0 tq tn tf s := hTx _ (List.mem_of_getElem? (i := 0) rfl)
  have hl := lv_entry ([.ref o0, .ref tq]) (n := 2) (Nat.le_of_ble_eq_true rfl)
  rw [lg_entry_eq]
  generalize (lg_sl ([.ref o0, .ref tq]) ++ List.replicate (2 - (lg_sl ([.ref o0, .ref tq])).length) Slot.unset).toArray = ls at hl ⊢
  have hl : lv_has ls 2 [(0, .ref o0), (1, .ref tq)] := hl
  refine lv_aload_n hx hb dX10_needs_0 rfl (lv_at hl 0 rfl) ?_
  refine lv_aload_n hx hb dX10_needs_1 rfl (lv_at hl 1 rfl) ?_
  have hFc := va_free (wc := [(o0, .inr (8, [.int x_th, .ref mwo, .ref mim, .ref mhi, .ref mlu, .ref mtp, .int x_td, .ref mfv, .int x_sz, .int x_at, .int x_fr, .int x_to, .int x_va, .int x_fk, .int x_fp, .ref mfr, .ref mwt, .int x_wt, .int x_op, .int x_jo, .ref mfg, .ref mpl, .long x_dr, .ref mtm, .ref mfa, .ref mqu, .ref mmo, .ref mwy, .ref mwn, .ref mma, .ref mwi, .ref mnu, .ref mmv])), (mtp, .inl (c_tp, 1200, .inl w_tp))]) hD hS hA [0, 1] rfl
  refine va_calli (va_runV (As := [.ref tq]) (rest := []) ⟨hx, hb, hml, hown, hts⟩ (kX10_takes l dC dI o0 x_th mwo mim mhi mlu mtp x_td mfv x_sz x_at x_fr x_to x_va x_fk x_fp mfr mwt x_wt x_op x_jo mfg mpl x_dr mtm mfa mqu mmo mwy mwn mma mwi mnu mmv c_tp w_tp tq tn tf n0 (s.heap.size) b_x_sz b_x_at b_x_fr b_x_to b_x_fk (by omega) (by omega) (by omega)) (cwV 1 hts gX10_needs__X10_takes_V158 rfl rfl rfl hd_yX10_takes ⟨lel 6 6 rfl, lel 130 130 rfl⟩) ⟨hx_fb, rcv_X10 hK hP (q0 := 0) rfl, (hx_use hP hD hK hN hX hS hAn hn0 [0, 1] rfl (by decide) rfl [0] rfl (tts_1 ht_tq))⟩ rfl rfl hl.1 rfl (lv_room (Nat.le_of_ble_eq_true rfl)) dX10_needs_2 ⟨lel 0 0 rfl, lel 0 0 rfl⟩) hS (fun q _ h => hFc q h) hFc (fun r_18 u_19 t H1 locs ht hvm hw_r_18 hB hz1 hk1 hS => ?_)
  obtain ⟨hu_r_18, hw_r_18⟩ := hw_r_18
  subst hu_r_18
  obtain ⟨o0_20, o1_21, o2_22, o3_23, b_o0_20, b_o1_21, b_o2_22, hf_24, hf_25, hf_26, hf_27, hf_28, hP1, hK1, hD1⟩ := hB
  rw [ht] at hP1
  have hK1 := va_K.moved hvm.symm hK1
  obtain ⟨hP, hD⟩ := va_join (wr := []) (w1 := [(o0, .inr (8, [.int x_th, .ref mwo, .ref mim, .ref mhi, .ref mlu, .ref mtp, .int x_td, .ref mfv, .int x_sz, .int o0_20, .int o1_21, .int o2_22, .int o3_23, .int x_fk, .int x_fp, .ref mfr, .ref mwt, .int x_wt, .int x_op, .int x_jo, .ref mfg, .ref mpl, .long x_dr, .ref mtm, .ref mfa, .ref mqu, .ref mmo, .ref mwy, .ref mwn, .ref mma, .ref mwi, .ref mnu, .ref mmv])), (mtp, .inl (c_tp, 1200, .inl w_tp))]) hP hD [0, 1] [] rfl rfl (by decide) (by decide) hk1 hFc hP1 hD1
  have hK := (hK.sub (tys' := []) [] rfl).app hK1
  generalize H1 = H at hP hS ⊢
  have hP : va_P (dC, dI) vwCl [(o0, .inr (8, [.int x_th, .ref mwo, .ref mim, .ref mhi, .ref mlu, .ref mtp, .int x_td, .ref mfv, .int x_sz, .int o0_20, .int o1_21, .int o2_22, .int o3_23, .int x_fk, .int x_fp, .ref mfr, .ref mwt, .int x_wt, .int x_op, .int x_jo, .ref mfg, .ref mpl, .long x_dr, .ref mtm, .ref mfa, .ref mqu, .ref mmo, .ref mwy, .ref mwn, .ref mma, .ref mwi, .ref mnu, .ref mmv])), (mtp, .inl (c_tp, 1200, .inl w_tp))] H := hP
  have hD : va_D A [(o0, .inr (8, [.int x_th, .ref mwo, .ref mim, .ref mhi, .ref mlu, .ref mtp, .int x_td, .ref mfv, .int x_sz, .int o0_20, .int o1_21, .int o2_22, .int o3_23, .int x_fk, .int x_fp, .ref mfr, .ref mwt, .int x_wt, .int x_op, .int x_jo, .ref mfg, .ref mpl, .long x_dr, .ref mtm, .ref mfa, .ref mqu, .ref mmo, .ref mwy, .ref mwn, .ref mma, .ref mwi, .ref mnu, .ref mmv])), (mtp, .inl (c_tp, 1200, .inl w_tp))] := hD
  have hK : va_K (dC, dI) vwCl [(c_tp, .byte)] s := hK
  have b_r_18 := hw_r_18
  have b_r_18 : (0 : Int) ≤ r_18.toInt ∧ r_18.toInt ≤ 1 := b_r_18
  refine lv_if_ne (tgt := 13) hx hb dX10_needs_5 (by decide) (fun c_29 => ?_) (fun c_29 => ?_)
  ·
    have n_c_29 : (r_18.toInt : Int) ≠ 0 := c_ne rfl (by decide) c_29
    have b_r_18 : (1 : Int) ≤ r_18.toInt ∧ r_18.toInt ≤ 1 := r_ne1 b_r_18 (by decide : (0 : Int) ≤ (0 : Int32).toInt ∧ (0 : Int32).toInt ≤ 0) n_c_29 (by decide)
    have hP9 := hP.sub (ws' := [(o0, .inr (8, [.int x_th, .ref mwo, .ref mim, .ref mhi, .ref mlu, .ref mtp, .int x_td, .ref mfv, .int x_sz, .int o0_20, .int o1_21, .int o2_22, .int o3_23, .int x_fk, .int x_fp, .ref mfr, .ref mwt, .int x_wt, .int x_op, .int x_jo, .ref mfg, .ref mpl, .long x_dr, .ref mtm, .ref mfa, .ref mqu, .ref mmo, .ref mwy, .ref mwn, .ref mma, .ref mwi, .ref mnu, .ref mmv])), (mtp, .inl (c_tp, 1200, .inl w_tp))]) [0, 1] rfl
    have hD9 := hD.sub (ws' := [(o0, .inr (8, [.int x_th, .ref mwo, .ref mim, .ref mhi, .ref mlu, .ref mtp, .int x_td, .ref mfv, .int x_sz, .int o0_20, .int o1_21, .int o2_22, .int o3_23, .int x_fk, .int x_fp, .ref mfr, .ref mwt, .int x_wt, .int x_op, .int x_jo, .ref mfg, .ref mpl, .long x_dr, .ref mtm, .ref mfa, .ref mqu, .ref mmo, .ref mwy, .ref mwn, .ref mma, .ref mwi, .ref mnu, .ref mmv])), (mtp, .inl (c_tp, 1200, .inl w_tp))]) [0, 1] (by decide) rfl
    have hK9 := hK.sub (tys' := [(c_tp, .byte)]) [0] rfl
    exact W.vret hx hb hr (fun t ht hW => ⟨⟨(), rfl, trivial, o0_20, o1_21, o2_22, o3_23, x_fk, x_fp, b_o0_20, b_o1_21, b_o2_22, b_x_fk, (by omega), (by omega), (by omega), (by omega), (fun h9 => by first | omega | exact hf_28 (by omega)), by rw [ht]; exact hP9, va_K.moved hW.alike hK9, hD9⟩, hS.F ht⟩) hS.2.2 dX10_needs_13
  ·
    have n_c_29 : (r_18.toInt : Int) = 0 := c_eq rfl (by decide) c_29
    have b_r_18 : (0 : Int) ≤ r_18.toInt ∧ r_18.toInt ≤ 0 := r_eq1 b_r_18 (by decide : (0 : Int) ≤ (0 : Int32).toInt ∧ (0 : Int32).toInt ≤ 0) n_c_29 (by decide)
    refine lv_aload_n hx hb dX10_needs_8 rfl (lv_at hl 0 rfl) ?_
    refine lv_iconst (v := 1) hx hb dX10_needs_9 (by decide) ?_
    have hFc := va_free (wc := [(o0, .inr (8, [.int x_th, .ref mwo, .ref mim, .ref mhi, .ref mlu, .ref mtp, .int x_td, .ref mfv, .int x_sz, .int o0_20, .int o1_21, .int o2_22, .int o3_23, .int x_fk, .int x_fp, .ref mfr, .ref mwt, .int x_wt, .int x_op, .int x_jo, .ref mfg, .ref mpl, .long x_dr, .ref mtm, .ref mfa, .ref mqu, .ref mmo, .ref mwy, .ref mwn, .ref mma, .ref mwi, .ref mnu, .ref mmv]))]) hD hS hA [0] rfl
    refine va_callv (va_runV (As := [.int 1]) (rest := []) ⟨hx, hb, hml, hown, hts⟩ (kX10_errs l dC dI o0 x_th mwo mim mhi mlu mtp x_td mfv x_sz o0_20 o1_21 o2_22 o3_23 x_fk x_fp mfr mwt x_wt x_op x_jo mfg mpl x_dr mtm mfa mqu mmo mwy mwn mma mwi mnu mmv 1 (H.size) b_x_sz b_o0_20 b_o1_21 b_o2_22 b_x_fk (rg_w (by decide : (1 : Int) ≤ (1 : Int32).toInt ∧ (1 : Int32).toInt ≤ 1) (by decide) (by decide))) (cwV 1 hts gX10_needs__X10_errs_V161 rfl rfl rfl hd_yX10_errs ⟨lel 2 6 rfl, lel 41 130 rfl⟩) ⟨hw_fb, rcv_X10 hK hP (q0 := 0) rfl, (hw_use hP hD hK hN [0] rfl (by decide) rfl [] rfl)⟩ rfl rfl hl.1 rfl (lv_room (Nat.le_of_ble_eq_true rfl)) dX10_needs_10 ⟨lel 0 0 rfl, lel 0 0 rfl⟩) hS (fun q _ h => hFc q h) hFc (fun u_31 t H1 locs ht hvm hw_r_30 hB hz1 hk1 hS => ?_)
    obtain ⟨o0_32, o1_33, b_o0_32, hf_34, hP1, hK1, hD1⟩ := hB
    rw [ht] at hP1
    have hK1 := va_K.moved hvm.symm hK1
    obtain ⟨hP, hD⟩ := va_join (wr := [(mtp, .inl (c_tp, 1200, .inl w_tp))]) (w1 := [(o0, .inr (8, [.int x_th, .ref mwo, .ref mim, .ref mhi, .ref mlu, .ref mtp, .int x_td, .ref mfv, .int x_sz, .int o0_20, .int o1_21, .int o2_22, .int o3_23, .int o0_32, .int o1_33, .ref mfr, .ref mwt, .int x_wt, .int x_op, .int x_jo, .ref mfg, .ref mpl, .long x_dr, .ref mtm, .ref mfa, .ref mqu, .ref mmo, .ref mwy, .ref mwn, .ref mma, .ref mwi, .ref mnu, .ref mmv]))]) hP hD [0] [1] rfl rfl (by decide) (by decide) hk1 hFc hP1 hD1
    have hK := (hK.sub (tys' := [(c_tp, .byte)]) [0] rfl).app hK1
    generalize H1 = H at hP hS ⊢
    have hP := hP.sub (ws' := [(o0, .inr (8, [.int x_th, .ref mwo, .ref mim, .ref mhi, .ref mlu, .ref mtp, .int x_td, .ref mfv, .int x_sz, .int o0_20, .int o1_21, .int o2_22, .int o3_23, .int o0_32, .int o1_33, .ref mfr, .ref mwt, .int x_wt, .int x_op, .int x_jo, .ref mfg, .ref mpl, .long x_dr, .ref mtm, .ref mfa, .ref mqu, .ref mmo, .ref mwy, .ref mwn, .ref mma, .ref mwi, .ref mnu, .ref mmv])), (mtp, .inl (c_tp, 1200, .inl w_tp))]) [1, 0] rfl
    have hD := hD.sub (ws' := [(o0, .inr (8, [.int x_th, .ref mwo, .ref mim, .ref mhi, .ref mlu, .ref mtp, .int x_td, .ref mfv, .int x_sz, .int o0_20, .int o1_21, .int o2_22, .int o3_23, .int o0_32, .int o1_33, .ref mfr, .ref mwt, .int x_wt, .int x_op, .int x_jo, .ref mfg, .ref mpl, .long x_dr, .ref mtm, .ref mfa, .ref mqu, .ref mmo, .ref mwy, .ref mwn, .ref mma, .ref mwi, .ref mnu, .ref mmv])), (mtp, .inl (c_tp, 1200, .inl w_tp))]) [1, 0] (by decide) rfl
    have hP : va_P (dC, dI) vwCl [(o0, .inr (8, [.int x_th, .ref mwo, .ref mim, .ref mhi, .ref mlu, .ref mtp, .int x_td, .ref mfv, .int x_sz, .int o0_20, .int o1_21, .int o2_22, .int o3_23, .int o0_32, .int o1_33, .ref mfr, .ref mwt, .int x_wt, .int x_op, .int x_jo, .ref mfg, .ref mpl, .long x_dr, .ref mtm, .ref mfa, .ref mqu, .ref mmo, .ref mwy, .ref mwn, .ref mma, .ref mwi, .ref mnu, .ref mmv])), (mtp, .inl (c_tp, 1200, .inl w_tp))] H := hP
    have hD : va_D A [(o0, .inr (8, [.int x_th, .ref mwo, .ref mim, .ref mhi, .ref mlu, .ref mtp, .int x_td, .ref mfv, .int x_sz, .int o0_20, .int o1_21, .int o2_22, .int o3_23, .int o0_32, .int o1_33, .ref mfr, .ref mwt, .int x_wt, .int x_op, .int x_jo, .ref mfg, .ref mpl, .long x_dr, .ref mtm, .ref mfa, .ref mqu, .ref mmo, .ref mwy, .ref mwn, .ref mma, .ref mwi, .ref mnu, .ref mmv])), (mtp, .inl (c_tp, 1200, .inl w_tp))] := hD
    have hK : va_K (dC, dI) vwCl [(c_tp, .byte)] s := hK
    have hP9 := hP.sub (ws' := [(o0, .inr (8, [.int x_th, .ref mwo, .ref mim, .ref mhi, .ref mlu, .ref mtp, .int x_td, .ref mfv, .int x_sz, .int o0_20, .int o1_21, .int o2_22, .int o3_23, .int o0_32, .int o1_33, .ref mfr, .ref mwt, .int x_wt, .int x_op, .int x_jo, .ref mfg, .ref mpl, .long x_dr, .ref mtm, .ref mfa, .ref mqu, .ref mmo, .ref mwy, .ref mwn, .ref mma, .ref mwi, .ref mnu, .ref mmv])), (mtp, .inl (c_tp, 1200, .inl w_tp))]) [0, 1] rfl
    have hD9 := hD.sub (ws' := [(o0, .inr (8, [.int x_th, .ref mwo, .ref mim, .ref mhi, .ref mlu, .ref mtp, .int x_td, .ref mfv, .int x_sz, .int o0_20, .int o1_21, .int o2_22, .int o3_23, .int o0_32, .int o1_33, .ref mfr, .ref mwt, .int x_wt, .int x_op, .int x_jo, .ref mfg, .ref mpl, .long x_dr, .ref mtm, .ref mfa, .ref mqu, .ref mmo, .ref mwy, .ref mwn, .ref mma, .ref mwi, .ref mnu, .ref mmv])), (mtp, .inl (c_tp, 1200, .inl w_tp))]) [0, 1] (by decide) rfl
    have hK9 := hK.sub (tys' := [(c_tp, .byte)]) [0] rfl
    exact W.vret hx hb hr (fun t ht hW => ⟨⟨(), rfl, trivial, o0_20, o1_21, o2_22, o3_23, o0_32, o1_33, b_o0_20, b_o1_21, b_o2_22, b_o0_32, (by omega), (by omega), (by omega), (by omega), (fun h9 => by first | omega | exact hf_28 (by omega)), by rw [ht]; exact hP9, va_K.moved hW.alike hK9, hD9⟩, hS.F ht⟩) hS.2.2 dX10_needs_13
theorem dX10_number_0 : decode cX10_number 0 = .ok (.aload_n 0, 1) := by decide +kernel
theorem dX10_number_1 : decode cX10_number 1 = .ok (.invokevirtual 137, 3) := by decide +kernel
theorem dX10_number_4 : decode cX10_number 4 = .ok (.ifCond .eq 16, 3) := by decide +kernel
theorem dX10_number_7 : decode cX10_number 7 = .ok (.aload_n 0, 1) := by decide +kernel
theorem dX10_number_8 : decode cX10_number 8 = .ok (.getfield 113, 3) := by decide +kernel
theorem dX10_number_11 : decode cX10_number 11 = .ok (.iconst 2, 1) := by decide +kernel
theorem dX10_number_12 : decode cX10_number 12 = .ok (.if_icmp .eq 8, 3) := by decide +kernel
theorem dX10_number_15 : decode cX10_number 15 = .ok (.aload_n 0, 1) := by decide +kernel
theorem dX10_number_16 : decode cX10_number 16 = .ok (.iconst 1, 1) := by decide +kernel
theorem dX10_number_17 : decode cX10_number 17 = .ok (.invokevirtual 161, 3) := by decide +kernel
theorem dX10_number_20 : decode cX10_number 20 = .ok (.aload_n 0, 1) := by decide +kernel
theorem dX10_number_21 : decode cX10_number 21 = .ok (.invokevirtual 137, 3) := by decide +kernel
theorem dX10_number_24 : decode cX10_number 24 = .ok (.ifCond .eq 23, 3) := by decide +kernel
theorem dX10_number_27 : decode cX10_number 27 = .ok (.aload_n 0, 1) := by decide +kernel
theorem dX10_number_28 : decode cX10_number 28 = .ok (.getfield 124, 3) := by decide +kernel
theorem dX10_number_31 : decode cX10_number 31 = .ok (.i2l, 1) := by decide +kernel
theorem dX10_number_32 : decode cX10_number 32 = .ok (.iload_n 1, 1) := by decide +kernel
theorem dX10_number_33 : decode cX10_number 33 = .ok (.i2l, 1) := by decide +kernel
theorem dX10_number_34 : decode cX10_number 34 = .ok (.iload_n 2, 1) := by decide +kernel
theorem dX10_number_35 : decode cX10_number 35 = .ok (.i2l, 1) := by decide +kernel
theorem dX10_number_36 : decode cX10_number 36 = .ok (.invokestatic 82, 3) := by decide +kernel
theorem dX10_number_39 : decode cX10_number 39 = .ok (.ifCond .ne 8, 3) := by decide +kernel
theorem dX10_number_42 : decode cX10_number 42 = .ok (.aload_n 0, 1) := by decide +kernel
theorem dX10_number_43 : decode cX10_number 43 = .ok (.iconst 2, 1) := by decide +kernel
theorem dX10_number_44 : decode cX10_number 44 = .ok (.invokevirtual 161, 3) := by decide +kernel
theorem dX10_number_47 : decode cX10_number 47 = .ok (.aload_n 0, 1) := by decide +kernel
theorem dX10_number_48 : decode cX10_number 48 = .ok (.invokevirtual 137, 3) := by decide +kernel
theorem dX10_number_51 : decode cX10_number 51 = .ok (.ifCond .ne 5, 3) := by decide +kernel
theorem dX10_number_54 : decode cX10_number 54 = .ok (.iconst 0, 1) := by decide +kernel
theorem dX10_number_55 : decode cX10_number 55 = .ok (.ireturn, 1) := by decide +kernel
theorem dX10_number_56 : decode cX10_number 56 = .ok (.aload_n 0, 1) := by decide +kernel
theorem dX10_number_57 : decode cX10_number 57 = .ok (.getfield 124, 3) := by decide +kernel
theorem dX10_number_60 : decode cX10_number 60 = .ok (.istore_n 3, 1) := by decide +kernel
theorem dX10_number_61 : decode cX10_number 61 = .ok (.aload_n 0, 1) := by decide +kernel
theorem dX10_number_62 : decode cX10_number 62 = .ok (.invokevirtual 155, 3) := by decide +kernel
theorem dX10_number_65 : decode cX10_number 65 = .ok (.iload_n 3, 1) := by decide +kernel
theorem dX10_number_66 : decode cX10_number 66 = .ok (.ireturn, 1) := by decide +kernel
theorem hd_yX10_number : yX10_number.cls = RX10 ∧ yX10_number.cls ≠ "java/lang/invoke/MethodHandle" ∧ yX10_number.cls ≠ "java/lang/invoke/VarHandle" ∧ (parseMethodDescriptor yX10_number.desc).map (fun d => d.parameters.length) = some 2 := by decide +kernel
def uX10_number : List Cond := List.cons (.code yX10_number cX10_number 4 (some .int)) (HAppend.hAppend ([.methodLink RX10 137 yX10_good, .instanceMethod yX10_good, .selects RX10 yX10_good yX10_good, .initialized RX10, .fieldLink RX10 113 "LuckyTicketModel" "token" "I", .methodLink RX10 161 yX10_errs, .instanceMethod yX10_errs, .selects RX10 yX10_errs yX10_errs, .fieldLink RX10 124 "LuckyTicketModel" "value" "I", .methodLink RX10 82 yX10_in, .static yX10_in, .methodLink RX10 155 yX10_advance, .instanceMethod yX10_advance, .selects RX10 yX10_advance yX10_advance] : List Cond) (HAppend.hAppend uX10_good (HAppend.hAppend uX10_errs (HAppend.hAppend uX10_in2 (HAppend.hAppend uX10_advance wsX100)))))
theorem iX10_number_X10 : ∀ w ∈ wsX100, w ∈ uX10_number := fun _ h => (List.mem_cons_of_mem _ (List.mem_append_right _ (List.mem_append_right _ (List.mem_append_right _ (List.mem_append_right _ (List.mem_append_right _ h))))))
theorem guX10_number : GU uX10_number := gu_cons (gu_app (by decide +kernel) (gu_ap guX10_good (gu_ap guX10_errs (gu_ap guX10_in2 (gu_ap guX10_advance gws_X10)))))
theorem gX10_number__X10_good_V137 : GoodIn uX10_number (wsV RX10 137 RX10 yX10_good uX10_good) := gin_V (List.mem_of_getElem? (i := 1) rfl) (List.mem_of_getElem? (i := 2) rfl) (List.mem_of_getElem? (i := 3) rfl) (List.mem_of_getElem? (i := 4) rfl) (fun _ h => (List.mem_cons_of_mem _ (List.mem_append_right _ (List.mem_append_left _ h)))) guX10_good
theorem gX10_number__X10_errs_V161 : GoodIn uX10_number (wsV RX10 161 RX10 yX10_errs uX10_errs) := gin_V (List.mem_of_getElem? (i := 6) rfl) (List.mem_of_getElem? (i := 7) rfl) (List.mem_of_getElem? (i := 8) rfl) (List.mem_of_getElem? (i := 4) rfl) (fun _ h => (List.mem_cons_of_mem _ (List.mem_append_right _ (List.mem_append_right _ (List.mem_append_left _ h))))) guX10_errs
theorem gX10_number__X10_in2_S82 : GoodIn uX10_number (va_wsS RX10 82 yX10_in uX10_in2) := gin_S (List.mem_of_getElem? (i := 10) rfl) (List.mem_of_getElem? (i := 11) rfl) (List.mem_of_getElem? (i := 4) rfl) (fun _ h => (List.mem_cons_of_mem _ (List.mem_append_right _ (List.mem_append_right _ (List.mem_append_right _ (List.mem_append_left _ h)))))) guX10_in2
theorem gX10_number__X10_advance_V155 : GoodIn uX10_number (wsV RX10 155 RX10 yX10_advance uX10_advance) := gin_V (List.mem_of_getElem? (i := 12) rfl) (List.mem_of_getElem? (i := 13) rfl) (List.mem_of_getElem? (i := 14) rfl) (List.mem_of_getElem? (i := 4) rfl) (fun _ h => (List.mem_cons_of_mem _ (List.mem_append_right _ (List.mem_append_right _ (List.mem_append_right _ (List.mem_append_right _ (List.mem_append_left _ h))))))) guX10_advance
set_option maxHeartbeats 4000000 in
set_option maxRecDepth 100000 in
theorem kX10_number (l : Launch) (dC : Nat → ClassId) (dI : Nat → Nat → Nat) (o0 : Nat) (x_th : Int32) (mwo : Nat) (mim : Nat) (mhi : Nat) (mlu : Nat) (mtp : Nat) (x_td : Int32) (mfv : Nat) (x_sz : Int32) (x_at : Int32) (x_fr : Int32) (x_to : Int32) (x_va : Int32) (x_fk : Int32) (x_fp : Int32) (mfr : Nat) (mwt : Nat) (x_wt : Int32) (x_op : Int32) (x_jo : Int32) (mfg : Nat) (mpl : Nat) (x_dr : Int64) (mtm : Nat) (mfa : Nat) (mqu : Nat) (mmo : Nat) (mwy : Nat) (mwn : Nat) (mma : Nat) (mwi : Nat) (mnu : Nat) (mmv : Nat) (c_tp : ClassId) (w_tp : Nat → Int32) (a1 : Int32) (a2 : Int32) (sz : Nat) (b_x_sz : (0 : Int) ≤ x_sz.toInt ∧ x_sz.toInt ≤ 1200) (b_x_at : (0 : Int) ≤ x_at.toInt ∧ x_at.toInt ≤ 1200) (b_x_fr : (0 : Int) ≤ x_fr.toInt ∧ x_fr.toInt ≤ 1200) (b_x_to : (0 : Int) ≤ x_to.toInt ∧ x_to.toInt ≤ 6) (b_x_fk : (0 : Int) ≤ x_fk.toInt ∧ x_fk.toInt ≤ 3) (hpf : x_fr.toInt ≤ x_at.toInt ∧ x_at.toInt ≤ x_sz.toInt) (htk0 : x_to.toInt ≠ 0 → x_fr.toInt < x_at.toInt) : Met l yX10_number uX10_number ({ frames := 2, cells := 0, slots := 0, locals := 46 }) (va_Pc [.ref o0, .int a1, .int a2] (hw (dC, dI) vwCl [(o0, .inr (8, [.int x_th, .ref mwo, .ref mim, .ref mhi, .ref mlu, .ref mtp, .int x_td, .ref mfv, .int x_sz, .int x_at, .int x_fr, .int x_to, .int x_va, .int x_fk, .int x_fp, .ref mfr, .ref mwt, .int x_wt, .int x_op, .int x_jo, .ref mfg, .ref mpl, .long x_dr, .ref mtm, .ref mfa, .ref mqu, .ref mmo, .ref mwy, .ref mwn, .ref mma, .ref mwi, .ref mnu, .ref mmv])), (mtp, .inl (c_tp, 1200, .inl w_tp))] [(c_tp, .byte)] sz)) (va_Qi (fun (r : Int32) (u_ : Int32) => r = u_ ∧ (r.toInt = 0 ∨ (a1.toInt ≤ r.toInt ∧ r.toInt ≤ a2.toInt))) (fun (r : Int32) t => ∃ (o0_ : Int32) (o1_ : Int32) (o2_ : Int32) (o3_ : Int32) (o4_ : Int32) (o5_ : Int32), ((0 : Int) ≤ o0_.toInt ∧ o0_.toInt ≤ 1200) ∧ ((0 : Int) ≤ o1_.toInt ∧ o1_.toInt ≤ 1200) ∧ ((0 : Int) ≤ o2_.toInt ∧ o2_.toInt ≤ 6) ∧ ((0 : Int) ≤ o4_.toInt ∧ o4_.toInt ≤ 3) ∧ (o1_.toInt ≤ o0_.toInt ∧ o0_.toInt ≤ x_sz.toInt) ∧ (o2_.toInt ≠ 0 → o1_.toInt < o0_.toInt) ∧ (x_fr.toInt ≤ o1_.toInt) ∧ (o4_.toInt = 0 → x_fk.toInt = 0 ∧ a1.toInt ≤ r.toInt ∧ r.toInt ≤ a2.toInt ∧ x_at.toInt ≤ o1_.toInt ∧ x_to.toInt = 2) ∧ va_P (dC, dI) vwCl [(o0, .inr (8, [.int x_th, .ref mwo, .ref mim, .ref mhi, .ref mlu, .ref mtp, .int x_td, .ref mfv, .int x_sz, .int o0_, .int o1_, .int o2_, .int o3_, .int o4_, .int o5_, .ref mfr, .ref mwt, .int x_wt, .int x_op, .int x_jo, .ref mfg, .ref mpl, .long x_dr, .ref mtm, .ref mfa, .ref mqu, .ref mmo, .ref mwy, .ref mwn, .ref mma, .ref mwi, .ref mnu, .ref mmv])), (mtp, .inl (c_tp, 1200, .inl w_tp))] t.heap ∧ va_K (dC, dI) vwCl [(c_tp, .byte)] t ∧ va_D (va_A [(o0, .inr (8, [.int x_th, .ref mwo, .ref mim, .ref mhi, .ref mlu, .ref mtp, .int x_td, .ref mfv, .int x_sz, .int x_at, .int x_fr, .int x_to, .int x_va, .int x_fk, .int x_fp, .ref mfr, .ref mwt, .int x_wt, .int x_op, .int x_jo, .ref mfg, .ref mpl, .long x_dr, .ref mtm, .ref mfa, .ref mqu, .ref mmo, .ref mwy, .ref mwn, .ref mma, .ref mwi, .ref mnu, .ref mmv])), (mtp, .inl (c_tp, 1200, .inl w_tp))] sz) [(o0, .inr (8, [.int x_th, .ref mwo, .ref mim, .ref mhi, .ref mlu, .ref mtp, .int x_td, .ref mfv, .int x_sz, .int o0_, .int o1_, .int o2_, .int o3_, .int o4_, .int o5_, .ref mfr, .ref mwt, .int x_wt, .int x_op, .int x_jo, .ref mfg, .ref mpl, .long x_dr, .ref mtm, .ref mfa, .ref mqu, .ref mmo, .ref mwy, .ref mwn, .ref mma, .ref mwi, .ref mnu, .ref mmv])), (mtp, .inl (c_tp, 1200, .inl w_tp))]) (va_A [(o0, .inr (8, [.int x_th, .ref mwo, .ref mim, .ref mhi, .ref mlu, .ref mtp, .int x_td, .ref mfv, .int x_sz, .int x_at, .int x_fr, .int x_to, .int x_va, .int x_fk, .int x_fp, .ref mfr, .ref mwt, .int x_wt, .int x_op, .int x_jo, .ref mfg, .ref mpl, .long x_dr, .ref mtm, .ref mfa, .ref mqu, .ref mmo, .ref mwy, .ref mwn, .ref mma, .ref mwi, .ref mnu, .ref mmv])), (mtp, .inl (c_tp, 1200, .inl w_tp))] sz)) 0 0 (va_A [(o0, .inr (8, [.int x_th, .ref mwo, .ref mim, .ref mhi, .ref mlu, .ref mtp, .int x_td, .ref mfv, .int x_sz, .int x_at, .int x_fr, .int x_to, .int x_va, .int x_fk, .int x_fp, .ref mfr, .ref mwt, .int x_wt, .int x_op, .int x_jo, .ref mfg, .ref mpl, .long x_dr, .ref mtm, .ref mfa, .ref mqu, .ref mmo, .ref mwy, .ref mwn, .ref mma, .ref mwi, .ref mnu, .ref mmv])), (mtp, .inl (c_tp, 1200, .inl w_tp))] sz) := by
  refine Met.ofW (cc := cX10_number) (maxL := 4) (ret := (some .int)) pn_X10 rfl ?_
  intro p e s m args below meth c s₁ B hml hv
  obtain ⟨rfl, hsz, hP, hK, hD0, hN⟩ := hv
  have hx := B.exec
  have hb := B.bytes
  have hr := B.returns
  have hts := atoms_spec (ws := uX10_number) B.pre
  have hown : s.vm.findClass RX10 = some m.cls := hown_of B.named rfl
  have hlocks := B.notSynchronized
  subst hsz
  have hD := hD0.self (sz := s.heap.size)
  generalize hAe : va_A [(o0, .inr (8, [.int x_th, .ref mwo, .ref mim, .ref mhi, .ref mlu, .ref mtp, .int x_td, .ref mfv, .int x_sz, .int x_at, .int x_fr, .int x_to, .int x_va, .int x_fk, .int x_fp, .ref mfr, .ref mwt, .int x_wt, .int x_op, .int x_jo, .ref mfg, .ref mpl, .long x_dr, .ref mtm, .ref mfa, .ref mqu, .ref mmo, .ref mwy, .ref mwn, .ref mma, .ref mwi, .ref mnu, .ref mmv])), (mtp, .inl (c_tp, 1200, .inl w_tp))] s.heap.size = A at hD ⊢
  have hA : ∀ q : Nat, s.heap.size ≤ q → A q := fun q h => by rw [← hAe]; exact Or.inr h
  have hS : va_S A s.heap s.heap [] := va_S.rf
  have hP : va_P (dC, dI) vwCl [(o0, .inr (8, [.int x_th, .ref mwo, .ref mim, .ref mhi, .ref mlu, .ref mtp, .int x_td, .ref mfv, .int x_sz, .int x_at, .int x_fr, .int x_to, .int x_va, .int x_fk, .int x_fp, .ref mfr, .ref mwt, .int x_wt, .int x_op, .int x_jo, .ref mfg, .ref mpl, .long x_dr, .ref mtm, .ref mfa, .ref mqu, .ref mmo, .ref mwy, .ref mwn, .ref mma, .ref mwi, .ref mnu, .ref mmv])), (mtp, .inl (c_tp, 1200, .inl w_tp))] s.heap := hP
  have hl := lv_entry ([.ref o0, .int a1, .int a2]) (n := 4) (Nat.le_of_ble_eq_true rfl)
  rw [lg_entry_eq]
  generalize (lg_sl ([.ref o0, .int a1, .int a2]) ++ List.replicate (4 - (lg_sl ([.ref o0, .int a1, .int a2])).length) Slot.unset).toArray = ls at hl ⊢
  have hl : lv_has ls 4 [(0, .ref o0), (1, .int a1), (2, .int a2)] := hl
  refine lv_aload_n hx hb dX10_number_0 rfl (lv_at hl 0 rfl) ?_
  refine vp_callSi (W.runV (As := []) (rest := []) ⟨hx, hb, hml, hown, hts⟩ (kX10_good l dC dI o0 x_th mwo mim mhi mlu mtp x_td mfv x_sz x_at x_fr x_to x_va x_fk x_fp mfr mwt x_wt x_op x_jo mfg mpl x_dr mtm mfa mqu mmo mwy mwn mma mwi mnu mmv b_x_sz b_x_at b_x_fr b_x_to b_x_fk) (cwV 0 hts gX10_number__X10_good_V137 rfl rfl rfl hd_yX10_good ⟨lel 1 2 rfl, lel 20 46 rfl⟩) ⟨pw_fb, rcv_X10 hK hP (q0 := 0) rfl, (pw_use hP hK hN [0] rfl [] rfl)⟩ rfl rfl hl.1 rfl (lv_room (Nat.le_of_ble_eq_true rfl)) dX10_number_1 ⟨lel 0 0 rfl, lel 0 0 rfl⟩) (fun r_66 h_r_66 => ?_)
  obtain ⟨b_r_66, nz_r_66, zz_r_66⟩ := h_r_66
  have b_r_66 : (0 : Int) ≤ r_66.toInt ∧ r_66.toInt ≤ 1 := b_r_66
  refine cutW (σ := Int32 × Int32) (pc2 := 20) (st2 := fun v => []) (cells2 := 0) (slots2 := 0) (fun v H locs ls => ((0 : Int) ≤ v.1.toInt ∧ v.1.toInt ≤ 3) ∧ (v.1.toInt = 0 → x_fk.toInt = 0 ∧ x_to.toInt = 2) ∧ va_P (dC, dI) vwCl [(o0, .inr (8, [.int x_th, .ref mwo, .ref mim, .ref mhi, .ref mlu, .ref mtp, .int x_td, .ref mfv, .int x_sz, .int x_at, .int x_fr, .int x_to, .int x_va, .int v.1, .int v.2, .ref mfr, .ref mwt, .int x_wt, .int x_op, .int x_jo, .ref mfg, .ref mpl, .long x_dr, .ref mtm, .ref mfa, .ref mqu, .ref mmo, .ref mwy, .ref mwn, .ref mma, .ref mwi, .ref mnu, .ref mmv])), (mtp, .inl (c_tp, 1200, .inl w_tp))] H ∧ va_D A [(o0, .inr (8, [.int x_th, .ref mwo, .ref mim, .ref mhi, .ref mlu, .ref mtp, .int x_td, .ref mfv, .int x_sz, .int x_at, .int x_fr, .int x_to, .int x_va, .int v.1, .int v.2, .ref mfr, .ref mwt, .int x_wt, .int x_op, .int x_jo, .ref mfg, .ref mpl, .long x_dr, .ref mtm, .ref mfa, .ref mqu, .ref mmo, .ref mwy, .ref mwn, .ref mma, .ref mwi, .ref mnu, .ref mmv])), (mtp, .inl (c_tp, 1200, .inl w_tp))] ∧ va_S A s.heap H locs ∧ lv_has ls 4 [(0, .ref o0), (1, .int a1), (2, .int a2)]) (fun v H locs ls hI => ?_) (fun hj_20_77 => ?_)
  ·
    obtain ⟨y_76, y_77⟩ := v
    obtain ⟨b_y_76, hj20, hP, hD, hS, hl⟩ := hI
    have b_y_76 : (0 : Int) ≤ y_76.toInt ∧ y_76.toInt ≤ 3 := b_y_76
    have hj20 : y_76.toInt = 0 → x_fk.toInt = 0 ∧ x_to.toInt = 2 := hj20
    have hP : va_P (dC, dI) vwCl [(o0, .inr (8, [.int x_th, .ref mwo, .ref mim, .ref mhi, .ref mlu, .ref mtp, .int x_td, .ref mfv, .int x_sz, .int x_at, .int x_fr, .int x_to, .int x_va, .int y_76, .int y_77, .ref mfr, .ref mwt, .int x_wt, .int x_op, .int x_jo, .ref mfg, .ref mpl, .long x_dr, .ref mtm, .ref mfa, .ref mqu, .ref mmo, .ref mwy, .ref mwn, .ref mma, .ref mwi, .ref mnu, .ref mmv])), (mtp, .inl (c_tp, 1200, .inl w_tp))] H := hP
    have hD : va_D A [(o0, .inr (8, [.int x_th, .ref mwo, .ref mim, .ref mhi, .ref mlu, .ref mtp, .int x_td, .ref mfv, .int x_sz, .int x_at, .int x_fr, .int x_to, .int x_va, .int y_76, .int y_77, .ref mfr, .ref mwt, .int x_wt, .int x_op, .int x_jo, .ref mfg, .ref mpl, .long x_dr, .ref mtm, .ref mfa, .ref mqu, .ref mmo, .ref mwy, .ref mwn, .ref mma, .ref mwi, .ref mnu, .ref mmv])), (mtp, .inl (c_tp, 1200, .inl w_tp))] := hD
    have hl : lv_has ls 4 [(0, .ref o0), (1, .int a1), (2, .int a2)] := hl
    refine lv_aload_n hx hb dX10_number_20 rfl (lv_at hl 0 rfl) ?_
    refine vp_callSi (W.runV (As := []) (rest := []) ⟨hx, hb, hml, hown, hts⟩ (kX10_good l dC dI o0 x_th mwo mim mhi mlu mtp x_td mfv x_sz x_at x_fr x_to x_va y_76 y_77 mfr mwt x_wt x_op x_jo mfg mpl x_dr mtm mfa mqu mmo mwy mwn mma mwi mnu mmv b_x_sz b_x_at b_x_fr b_x_to b_y_76) (cwV 0 hts gX10_number__X10_good_V137 rfl rfl rfl hd_yX10_good ⟨lel 1 2 rfl, lel 20 46 rfl⟩) ⟨pw_fb, rcv_X10 hK hP (q0 := 0) rfl, (pw_use hP hK hN [0] rfl [] rfl)⟩ rfl rfl hl.1 rfl (lv_room (Nat.le_of_ble_eq_true rfl)) dX10_number_21 ⟨lel 0 0 rfl, lel 0 0 rfl⟩) (fun r_78 h_r_78 => ?_)
    obtain ⟨b_r_78, nz_r_78, zz_r_78⟩ := h_r_78
    have b_r_78 : (0 : Int) ≤ r_78.toInt ∧ r_78.toInt ≤ 1 := b_r_78
    refine cutW (σ := Int32 × Int32) (pc2 := 47) (st2 := fun v => []) (cells2 := 0) (slots2 := 0) (fun v H locs ls => ((0 : Int) ≤ v.1.toInt ∧ v.1.toInt ≤ 3) ∧ (v.1.toInt = 0 → x_fk.toInt = 0 ∧ x_to.toInt = 2 ∧ a1.toInt ≤ x_va.toInt ∧ x_va.toInt ≤ a2.toInt) ∧ va_P (dC, dI) vwCl [(o0, .inr (8, [.int x_th, .ref mwo, .ref mim, .ref mhi, .ref mlu, .ref mtp, .int x_td, .ref mfv, .int x_sz, .int x_at, .int x_fr, .int x_to, .int x_va, .int v.1, .int v.2, .ref mfr, .ref mwt, .int x_wt, .int x_op, .int x_jo, .ref mfg, .ref mpl, .long x_dr, .ref mtm, .ref mfa, .ref mqu, .ref mmo, .ref mwy, .ref mwn, .ref mma, .ref mwi, .ref mnu, .ref mmv])), (mtp, .inl (c_tp, 1200, .inl w_tp))] H ∧ va_D A [(o0, .inr (8, [.int x_th, .ref mwo, .ref mim, .ref mhi, .ref mlu, .ref mtp, .int x_td, .ref mfv, .int x_sz, .int x_at, .int x_fr, .int x_to, .int x_va, .int v.1, .int v.2, .ref mfr, .ref mwt, .int x_wt, .int x_op, .int x_jo, .ref mfg, .ref mpl, .long x_dr, .ref mtm, .ref mfa, .ref mqu, .ref mmo, .ref mwy, .ref mwn, .ref mma, .ref mwi, .ref mnu, .ref mmv])), (mtp, .inl (c_tp, 1200, .inl w_tp))] ∧ va_S A s.heap H locs ∧ lv_has ls 4 [(0, .ref o0), (1, .int a1), (2, .int a2)]) (fun v H locs ls hI => ?_) (fun hj_47_95 => ?_)
    ·
      obtain ⟨y_94, y_95⟩ := v
      obtain ⟨b_y_94, hj47, hP, hD, hS, hl⟩ := hI
      have b_y_94 : (0 : Int) ≤ y_94.toInt ∧ y_94.toInt ≤ 3 := b_y_94
      have hj47 : y_94.toInt = 0 → x_fk.toInt = 0 ∧ x_to.toInt = 2 ∧ a1.toInt ≤ x_va.toInt ∧ x_va.toInt ≤ a2.toInt := hj47
      have hP : va_P (dC, dI) vwCl [(o0, .inr (8, [.int x_th, .ref mwo, .ref mim, .ref mhi, .ref mlu, .ref mtp, .int x_td, .ref mfv, .int x_sz, .int x_at, .int x_fr, .int x_to, .int x_va, .int y_94, .int y_95, .ref mfr, .ref mwt, .int x_wt, .int x_op, .int x_jo, .ref mfg, .ref mpl, .long x_dr, .ref mtm, .ref mfa, .ref mqu, .ref mmo, .ref mwy, .ref mwn, .ref mma, .ref mwi, .ref mnu, .ref mmv])), (mtp, .inl (c_tp, 1200, .inl w_tp))] H := hP
      have hD : va_D A [(o0, .inr (8, [.int x_th, .ref mwo, .ref mim, .ref mhi, .ref mlu, .ref mtp, .int x_td, .ref mfv, .int x_sz, .int x_at, .int x_fr, .int x_to, .int x_va, .int y_94, .int y_95, .ref mfr, .ref mwt, .int x_wt, .int x_op, .int x_jo, .ref mfg, .ref mpl, .long x_dr, .ref mtm, .ref mfa, .ref mqu, .ref mmo, .ref mwy, .ref mwn, .ref mma, .ref mwi, .ref mnu, .ref mmv])), (mtp, .inl (c_tp, 1200, .inl w_tp))] := hD
      have hl : lv_has ls 4 [(0, .ref o0), (1, .int a1), (2, .int a2)] := hl
      refine lv_aload_n hx hb dX10_number_47 rfl (lv_at hl 0 rfl) ?_
      refine vp_callSi (W.runV (As := []) (rest := []) ⟨hx, hb, hml, hown, hts⟩ (kX10_good l dC dI o0 x_th mwo mim mhi mlu mtp x_td mfv x_sz x_at x_fr x_to x_va y_94 y_95 mfr mwt x_wt x_op x_jo mfg mpl x_dr mtm mfa mqu mmo mwy mwn mma mwi mnu mmv b_x_sz b_x_at b_x_fr b_x_to b_y_94) (cwV 0 hts gX10_number__X10_good_V137 rfl rfl rfl hd_yX10_good ⟨lel 1 2 rfl, lel 20 46 rfl⟩) ⟨pw_fb, rcv_X10 hK hP (q0 := 0) rfl, (pw_use hP hK hN [0] rfl [] rfl)⟩ rfl rfl hl.1 rfl (lv_room (Nat.le_of_ble_eq_true rfl)) dX10_number_48 ⟨lel 0 0 rfl, lel 0 0 rfl⟩) (fun r_96 h_r_96 => ?_)
      obtain ⟨b_r_96, nz_r_96, zz_r_96⟩ := h_r_96
      have b_r_96 : (0 : Int) ≤ r_96.toInt ∧ r_96.toInt ≤ 1 := b_r_96
      refine lv_if_ne (tgt := 56) hx hb dX10_number_51 (by decide) (fun c_97 => ?_) (fun c_97 => ?_)
      ·
        have n_c_97 : (r_96.toInt : Int) ≠ 0 := c_ne rfl (by decide) c_97
        have b_r_96 : (1 : Int) ≤ r_96.toInt ∧ r_96.toInt ≤ 1 := r_ne1 b_r_96 (by decide : (0 : Int) ≤ (0 : Int32).toInt ∧ (0 : Int32).toInt ≤ 0) n_c_97 (by decide)
        have g_98 := nz_r_96 c_97
        refine lv_aload_n hx hb dX10_number_56 rfl (lv_at hl 0 rfl) ?_
        refine va_get (D := (dC, dI)) (ci := 8) (v := .int x_va) (C := RX10) (T := TX10) (N := 33) hx hb hts iX10_number_X10 hown hK hP 0 rfl rfl 12 (by decide) (hts (.fieldLink RX10 124 "LuckyTicketModel" "value" "I") (List.mem_of_getElem? (i := 9) rfl)) (fun _ h9 => h9) rfl dX10_number_57 ?_
        refine lv_istore_n (lv' := [(3, .int x_va), (0, .ref o0), (1, .int a1), (2, .int a2)]) hx hb dX10_number_60 rfl hl (by decide) rfl (fun ls hl => ?_)
        refine lv_aload_n hx hb dX10_number_61 rfl (lv_at hl 1 rfl) ?_
        have hFc := va_free (wc := [(o0, .inr (8, [.int x_th, .ref mwo, .ref mim, .ref mhi, .ref mlu, .ref mtp, .int x_td, .ref mfv, .int x_sz, .int x_at, .int x_fr, .int x_to, .int x_va, .int y_94, .int y_95, .ref mfr, .ref mwt, .int x_wt, .int x_op, .int x_jo, .ref mfg, .ref mpl, .long x_dr, .ref mtm, .ref mfa, .ref mqu, .ref mmo, .ref mwy, .ref mwn, .ref mma, .ref mwi, .ref mnu, .ref mmv])), (mtp, .inl (c_tp, 1200, .inl w_tp))]) hD hS hA [0, 1] rfl
        refine va_callv (va_runV (As := []) (rest := []) ⟨hx, hb, hml, hown, hts⟩ (kX10_advance l dC dI o0 x_th mwo mim mhi mlu mtp x_td mfv x_sz x_at x_fr x_to x_va y_94 y_95 mfr mwt x_wt x_op x_jo mfg mpl x_dr mtm mfa mqu mmo mwy mwn mma mwi mnu mmv c_tp w_tp (H.size) b_x_sz b_x_at b_x_fr b_x_to b_y_94 (by omega)) (cwV 0 hts gX10_number__X10_advance_V155 rfl rfl rfl hd_yX10_advance ⟨lel 2 2 rfl, lel 46 46 rfl⟩) ⟨hw_fb, rcv_X10 hK hP (q0 := 0) rfl, (hw_use hP hD hK hN [0, 1] rfl (by decide) rfl [0] rfl)⟩ rfl rfl hl.1 rfl (lv_room (Nat.le_of_ble_eq_true rfl)) dX10_number_62 ⟨lel 0 0 rfl, lel 0 0 rfl⟩) hS (fun q _ h => hFc q h) hFc (fun u_100 t H1 locs ht hvm hw_r_99 hB hz1 hk1 hS => ?_)
        obtain ⟨o0_101, o1_102, o2_103, o3_104, b_o0_101, b_o1_102, b_o2_103, hf_105, hf_106, hf_107, hP1, hK1, hD1⟩ := hB
        rw [ht] at hP1
        have hK1 := va_K.moved hvm.symm hK1
        obtain ⟨hP, hD⟩ := va_join (wr := []) (w1 := [(o0, .inr (8, [.int x_th, .ref mwo, .ref mim, .ref mhi, .ref mlu, .ref mtp, .int x_td, .ref mfv, .int x_sz, .int o0_101, .int o1_102, .int o2_103, .int o3_104, .int y_94, .int y_95, .ref mfr, .ref mwt, .int x_wt, .int x_op, .int x_jo, .ref mfg, .ref mpl, .long x_dr, .ref mtm, .ref mfa, .ref mqu, .ref mmo, .ref mwy, .ref mwn, .ref mma, .ref mwi, .ref mnu, .ref mmv])), (mtp, .inl (c_tp, 1200, .inl w_tp))]) hP hD [0, 1] [] rfl rfl (by decide) (by decide) hk1 hFc hP1 hD1
        have hK := (hK.sub (tys' := []) [] rfl).app hK1
        generalize H1 = H at hP hS ⊢
        have hP : va_P (dC, dI) vwCl [(o0, .inr (8, [.int x_th, .ref mwo, .ref mim, .ref mhi, .ref mlu, .ref mtp, .int x_td, .ref mfv, .int x_sz, .int o0_101, .int o1_102, .int o2_103, .int o3_104, .int y_94, .int y_95, .ref mfr, .ref mwt, .int x_wt, .int x_op, .int x_jo, .ref mfg, .ref mpl, .long x_dr, .ref mtm, .ref mfa, .ref mqu, .ref mmo, .ref mwy, .ref mwn, .ref mma, .ref mwi, .ref mnu, .ref mmv])), (mtp, .inl (c_tp, 1200, .inl w_tp))] H := hP
        have hD : va_D A [(o0, .inr (8, [.int x_th, .ref mwo, .ref mim, .ref mhi, .ref mlu, .ref mtp, .int x_td, .ref mfv, .int x_sz, .int o0_101, .int o1_102, .int o2_103, .int o3_104, .int y_94, .int y_95, .ref mfr, .ref mwt, .int x_wt, .int x_op, .int x_jo, .ref mfg, .ref mpl, .long x_dr, .ref mtm, .ref mfa, .ref mqu, .ref mmo, .ref mwy, .ref mwn, .ref mma, .ref mwi, .ref mnu, .ref mmv])), (mtp, .inl (c_tp, 1200, .inl w_tp))] := hD
        have hK : va_K (dC, dI) vwCl [(c_tp, .byte)] s := hK
        refine lv_iload_n hx hb dX10_number_65 rfl (lv_at hl 0 rfl) ?_
        have hP9 := hP.sub (ws' := [(o0, .inr (8, [.int x_th, .ref mwo, .ref mim, .ref mhi, .ref mlu, .ref mtp, .int x_td, .ref mfv, .int x_sz, .int o0_101, .int o1_102, .int o2_103, .int o3_104, .int y_94, .int y_95, .ref mfr, .ref mwt, .int x_wt, .int x_op, .int x_jo, .ref mfg, .ref mpl, .long x_dr, .ref mtm, .ref mfa, .ref mqu, .ref mmo, .ref mwy, .ref mwn, .ref mma, .ref mwi, .ref mnu, .ref mmv])), (mtp, .inl (c_tp, 1200, .inl w_tp))]) [0, 1] rfl
        have hD9 := hD.sub (ws' := [(o0, .inr (8, [.int x_th, .ref mwo, .ref mim, .ref mhi, .ref mlu, .ref mtp, .int x_td, .ref mfv, .int x_sz, .int o0_101, .int o1_102, .int o2_103, .int o3_104, .int y_94, .int y_95, .ref mfr, .ref mwt, .int x_wt, .int x_op, .int x_jo, .ref mfg, .ref mpl, .long x_dr, .ref mtm, .ref mfa, .ref mqu, .ref mmo, .ref mwy, .ref mwn, .ref mma, .ref mwi, .ref mnu, .ref mmv])), (mtp, .inl (c_tp, 1200, .inl w_tp))]) [0, 1] (by decide) rfl
        have hK9 := hK.sub (tys' := [(c_tp, .byte)]) [0] rfl
        exact W.iret (v := x_va) hx hb hr (fun t ht hW => ⟨⟨x_va, x_va, rfl, ⟨rfl, (by first | omega | exact Or.inl (by decide))⟩, o0_101, o1_102, o2_103, o3_104, y_94, y_95, b_o0_101, b_o1_102, b_o2_103, b_y_94, (by omega), (by omega), (by omega), (by omega), by rw [ht]; exact hP9, va_K.moved hW.alike hK9, hD9⟩, hS.F ht⟩) hS.2.2 dX10_number_66
      ·
        have n_c_97 : (r_96.toInt : Int) = 0 := c_eq rfl (by decide) c_97
        have b_r_96 : (0 : Int) ≤ r_96.toInt ∧ r_96.toInt ≤ 0 := r_eq1 b_r_96 (by decide : (0 : Int) ≤ (0 : Int32).toInt ∧ (0 : Int32).toInt ≤ 0) n_c_97 (by decide)
        have g_108 := zz_r_96 c_97
        refine lv_iconst (v := 0) hx hb dX10_number_54 (by decide) ?_
        have hP9 := hP.sub (ws' := [(o0, .inr (8, [.int x_th, .ref mwo, .ref mim, .ref mhi, .ref mlu, .ref mtp, .int x_td, .ref mfv, .int x_sz, .int x_at, .int x_fr, .int x_to, .int x_va, .int y_94, .int y_95, .ref mfr, .ref mwt, .int x_wt, .int x_op, .int x_jo, .ref mfg, .ref mpl, .long x_dr, .ref mtm, .ref mfa, .ref mqu, .ref mmo, .ref mwy, .ref mwn, .ref mma, .ref mwi, .ref mnu, .ref mmv])), (mtp, .inl (c_tp, 1200, .inl w_tp))]) [0, 1] rfl
        have hD9 := hD.sub (ws' := [(o0, .inr (8, [.int x_th, .ref mwo, .ref mim, .ref mhi, .ref mlu, .ref mtp, .int x_td, .ref mfv, .int x_sz, .int x_at, .int x_fr, .int x_to, .int x_va, .int y_94, .int y_95, .ref mfr, .ref mwt, .int x_wt, .int x_op, .int x_jo, .ref mfg, .ref mpl, .long x_dr, .ref mtm, .ref mfa, .ref mqu, .ref mmo, .ref mwy, .ref mwn, .ref mma, .ref mwi, .ref mnu, .ref mmv])), (mtp, .inl (c_tp, 1200, .inl w_tp))]) [0, 1] (by decide) rfl
        have hK9 := hK.sub (tys' := [(c_tp, .byte)]) [0] rfl
        exact W.iret (v := 0) hx hb hr (fun t ht hW => ⟨⟨0, 0, rfl, ⟨rfl, (by first | omega | exact Or.inl (by decide))⟩, x_at, x_fr, x_to, x_va, y_94, y_95, b_x_at, b_x_fr, b_x_to, b_y_94, (by have zl : (0 : Int32).toInt = 0 := (by decide); omega), (by have zl : (0 : Int32).toInt = 0 := (by decide); omega), (by have zl : (0 : Int32).toInt = 0 := (by decide); omega), (by have zl : (0 : Int32).toInt = 0 := (by decide); omega), by rw [ht]; exact hP9, va_K.moved hW.alike hK9, hD9⟩, hS.F ht⟩) hS.2.2 dX10_number_55
    ·
      refine lv_if_eq (tgt := 47) hx hb dX10_number_24 (by decide) (fun c_79 => ?_) (fun c_79 => ?_)
      ·
        have n_c_79 : (r_78.toInt : Int) = 0 := c_eq rfl (by decide) c_79
        have b_r_78 : (0 : Int) ≤ r_78.toInt ∧ r_78.toInt ≤ 0 := r_eq1 b_r_78 (by decide : (0 : Int) ≤ (0 : Int32).toInt ∧ (0 : Int32).toInt ≤ 0) n_c_79 (by decide)
        have g_109 := zz_r_78 c_79
        exact hj_47_95 (y_76, y_77) _ _ _ ⟨(show (0 : Int) ≤ y_76.toInt ∧ y_76.toInt ≤ 3 from b_y_76), (show y_76.toInt = 0 → x_fk.toInt = 0 ∧ x_to.toInt = 2 ∧ a1.toInt ≤ x_va.toInt ∧ x_va.toInt ≤ a2.toInt from (by omega)), hP, hD, hS, lv_sub hl [0, 1, 2] rfl⟩
      ·
        have n_c_79 : (r_78.toInt : Int) ≠ 0 := c_ne rfl (by decide) c_79
        have b_r_78 : (1 : Int) ≤ r_78.toInt ∧ r_78.toInt ≤ 1 := r_ne1 b_r_78 (by decide : (0 : Int) ≤ (0 : Int32).toInt ∧ (0 : Int32).toInt ≤ 0) n_c_79 (by decide)
        have g_110 := nz_r_78 c_79
        refine lv_aload_n hx hb dX10_number_27 rfl (lv_at hl 0 rfl) ?_
        refine va_get (D := (dC, dI)) (ci := 8) (v := .int x_va) (C := RX10) (T := TX10) (N := 33) hx hb hts iX10_number_X10 hown hK hP 0 rfl rfl 12 (by decide) (hts (.fieldLink RX10 124 "LuckyTicketModel" "value" "I") (List.mem_of_getElem? (i := 9) rfl)) (fun _ h9 => h9) rfl dX10_number_28 ?_
        obtain ⟨z_111, e_z_111⟩ : ∃ y : Int64, y = x_va.toInt64 := ⟨_, rfl⟩
        refine lv_i2l (v := z_111) hx hb dX10_number_31 e_z_111.symm ?_
        obtain ⟨q_z_111, b_z_111⟩ := ti_i2l e_z_111 (ti_rng x_va)
        refine lv_iload_n hx hb dX10_number_32 rfl (lv_at hl 1 rfl) ?_
        obtain ⟨z_112, e_z_112⟩ : ∃ y : Int64, y = a1.toInt64 := ⟨_, rfl⟩
        refine lv_i2l (v := z_112) hx hb dX10_number_33 e_z_112.symm ?_
        obtain ⟨q_z_112, b_z_112⟩ := ti_i2l e_z_112 (ti_rng a1)
        refine lv_iload_n hx hb dX10_number_34 rfl (lv_at hl 2 rfl) ?_
        obtain ⟨z_113, e_z_113⟩ : ∃ y : Int64, y = a2.toInt64 := ⟨_, rfl⟩
        refine lv_i2l (v := z_113) hx hb dX10_number_35 e_z_113.symm ?_
        obtain ⟨q_z_113, b_z_113⟩ := ti_i2l e_z_113 (ti_rng a2)
        refine vp_callSi (W.runS (As := [.long z_111, .long z_112, .long z_113]) (rest := []) ⟨hx, hb, hml, hown, hts⟩ (kX10_in2 l dC dI z_111 z_112 z_113 ) (va_cwS 3 hts gX10_number__X10_in2_S82 rfl rfl rfl hd_yX10_in.2 ⟨lel 1 2 rfl, lel 25 46 rfl⟩) ⟨pn_fb, pn_use⟩ rfl rfl hl.1 rfl (lv_room (Nat.le_of_ble_eq_true rfl)) dX10_number_36 ⟨lel 0 0 rfl, lel 0 0 rfl⟩) (fun r_114 h_r_114 => ?_)
        obtain ⟨b_r_114, nz_r_114, zz_r_114⟩ := h_r_114
        have b_r_114 : (0 : Int) ≤ r_114.toInt ∧ r_114.toInt ≤ 1 := b_r_114
        refine lv_if_ne (tgt := 47) hx hb dX10_number_39 (by decide) (fun c_115 => ?_) (fun c_115 => ?_)
        ·
          have n_c_115 : (r_114.toInt : Int) ≠ 0 := c_ne rfl (by decide) c_115
          have b_r_114 : (1 : Int) ≤ r_114.toInt ∧ r_114.toInt ≤ 1 := r_ne1 b_r_114 (by decide : (0 : Int) ≤ (0 : Int32).toInt ∧ (0 : Int32).toInt ≤ 0) n_c_115 (by decide)
          have g_116 := nz_r_114 c_115
          exact hj_47_95 (y_76, y_77) _ _ _ ⟨(show (0 : Int) ≤ y_76.toInt ∧ y_76.toInt ≤ 3 from b_y_76), (show y_76.toInt = 0 → x_fk.toInt = 0 ∧ x_to.toInt = 2 ∧ a1.toInt ≤ x_va.toInt ∧ x_va.toInt ≤ a2.toInt from (by omega)), hP, hD, hS, lv_sub hl [0, 1, 2] rfl⟩
        ·
          have n_c_115 : (r_114.toInt : Int) = 0 := c_eq rfl (by decide) c_115
          have b_r_114 : (0 : Int) ≤ r_114.toInt ∧ r_114.toInt ≤ 0 := r_eq1 b_r_114 (by decide : (0 : Int) ≤ (0 : Int32).toInt ∧ (0 : Int32).toInt ≤ 0) n_c_115 (by decide)
          have g_117 := zz_r_114 c_115
          refine lv_aload_n hx hb dX10_number_42 rfl (lv_at hl 0 rfl) ?_
          refine lv_iconst (v := 2) hx hb dX10_number_43 (by decide) ?_
          have hFc := va_free (wc := [(o0, .inr (8, [.int x_th, .ref mwo, .ref mim, .ref mhi, .ref mlu, .ref mtp, .int x_td, .ref mfv, .int x_sz, .int x_at, .int x_fr, .int x_to, .int x_va, .int y_76, .int y_77, .ref mfr, .ref mwt, .int x_wt, .int x_op, .int x_jo, .ref mfg, .ref mpl, .long x_dr, .ref mtm, .ref mfa, .ref mqu, .ref mmo, .ref mwy, .ref mwn, .ref mma, .ref mwi, .ref mnu, .ref mmv]))]) hD hS hA [0] rfl
          refine va_callv (va_runV (As := [.int 2]) (rest := []) ⟨hx, hb, hml, hown, hts⟩ (kX10_errs l dC dI o0 x_th mwo mim mhi mlu mtp x_td mfv x_sz x_at x_fr x_to x_va y_76 y_77 mfr mwt x_wt x_op x_jo mfg mpl x_dr mtm mfa mqu mmo mwy mwn mma mwi mnu mmv 2 (H.size) b_x_sz b_x_at b_x_fr b_x_to b_y_76 (rg_w (by decide : (2 : Int) ≤ (2 : Int32).toInt ∧ (2 : Int32).toInt ≤ 2) (by decide) (by decide))) (cwV 1 hts gX10_number__X10_errs_V161 rfl rfl rfl hd_yX10_errs ⟨lel 2 2 rfl, lel 41 46 rfl⟩) ⟨hw_fb, rcv_X10 hK hP (q0 := 0) rfl, (hw_use hP hD hK hN [0] rfl (by decide) rfl [] rfl)⟩ rfl rfl hl.1 rfl (lv_room (Nat.le_of_ble_eq_true rfl)) dX10_number_44 ⟨lel 0 0 rfl, lel 0 0 rfl⟩) hS (fun q _ h => hFc q h) hFc (fun u_119 t H1 locs ht hvm hw_r_118 hB hz1 hk1 hS => ?_)
          obtain ⟨o0_120, o1_121, b_o0_120, hf_122, hP1, hK1, hD1⟩ := hB
          rw [ht] at hP1
          have hK1 := va_K.moved hvm.symm hK1
          obtain ⟨hP, hD⟩ := va_join (wr := [(mtp, .inl (c_tp, 1200, .inl w_tp))]) (w1 := [(o0, .inr (8, [.int x_th, .ref mwo, .ref mim, .ref mhi, .ref mlu, .ref mtp, .int x_td, .ref mfv, .int x_sz, .int x_at, .int x_fr, .int x_to, .int x_va, .int o0_120, .int o1_121, .ref mfr, .ref mwt, .int x_wt, .int x_op, .int x_jo, .ref mfg, .ref mpl, .long x_dr, .ref mtm, .ref mfa, .ref mqu, .ref mmo, .ref mwy, .ref mwn, .ref mma, .ref mwi, .ref mnu, .ref mmv]))]) hP hD [0] [1] rfl rfl (by decide) (by decide) hk1 hFc hP1 hD1
          have hK := (hK.sub (tys' := [(c_tp, .byte)]) [0] rfl).app hK1
          generalize H1 = H at hP hS ⊢
          have hP := hP.sub (ws' := [(o0, .inr (8, [.int x_th, .ref mwo, .ref mim, .ref mhi, .ref mlu, .ref mtp, .int x_td, .ref mfv, .int x_sz, .int x_at, .int x_fr, .int x_to, .int x_va, .int o0_120, .int o1_121, .ref mfr, .ref mwt, .int x_wt, .int x_op, .int x_jo, .ref mfg, .ref mpl, .long x_dr, .ref mtm, .ref mfa, .ref mqu, .ref mmo, .ref mwy, .ref mwn, .ref mma, .ref mwi, .ref mnu, .ref mmv])), (mtp, .inl (c_tp, 1200, .inl w_tp))]) [1, 0] rfl
          have hD := hD.sub (ws' := [(o0, .inr (8, [.int x_th, .ref mwo, .ref mim, .ref mhi, .ref mlu, .ref mtp, .int x_td, .ref mfv, .int x_sz, .int x_at, .int x_fr, .int x_to, .int x_va, .int o0_120, .int o1_121, .ref mfr, .ref mwt, .int x_wt, .int x_op, .int x_jo, .ref mfg, .ref mpl, .long x_dr, .ref mtm, .ref mfa, .ref mqu, .ref mmo, .ref mwy, .ref mwn, .ref mma, .ref mwi, .ref mnu, .ref mmv])), (mtp, .inl (c_tp, 1200, .inl w_tp))]) [1, 0] (by decide) rfl
          have hP : va_P (dC, dI) vwCl [(o0, .inr (8, [.int x_th, .ref mwo, .ref mim, .ref mhi, .ref mlu, .ref mtp, .int x_td, .ref mfv, .int x_sz, .int x_at, .int x_fr, .int x_to, .int x_va, .int o0_120, .int o1_121, .ref mfr, .ref mwt, .int x_wt, .int x_op, .int x_jo, .ref mfg, .ref mpl, .long x_dr, .ref mtm, .ref mfa, .ref mqu, .ref mmo, .ref mwy, .ref mwn, .ref mma, .ref mwi, .ref mnu, .ref mmv])), (mtp, .inl (c_tp, 1200, .inl w_tp))] H := hP
          have hD : va_D A [(o0, .inr (8, [.int x_th, .ref mwo, .ref mim, .ref mhi, .ref mlu, .ref mtp, .int x_td, .ref mfv, .int x_sz, .int x_at, .int x_fr, .int x_to, .int x_va, .int o0_120, .int o1_121, .ref mfr, .ref mwt, .int x_wt, .int x_op, .int x_jo, .ref mfg, .ref mpl, .long x_dr, .ref mtm, .ref mfa, .ref mqu, .ref mmo, .ref mwy, .ref mwn, .ref mma, .ref mwi, .ref mnu, .ref mmv])), (mtp, .inl (c_tp, 1200, .inl w_tp))] := hD
          have hK : va_K (dC, dI) vwCl [(c_tp, .byte)] s := hK
          exact hj_47_95 (o0_120, o1_121) _ _ _ ⟨(show (0 : Int) ≤ o0_120.toInt ∧ o0_120.toInt ≤ 3 from b_o0_120), (show o0_120.toInt = 0 → x_fk.toInt = 0 ∧ x_to.toInt = 2 ∧ a1.toInt ≤ x_va.toInt ∧ x_va.toInt ≤ a2.toInt from (by omega)), hP, hD, hS, lv_sub hl [0, 1, 2] rfl⟩
  ·
    refine lv_if_eq (tgt := 20) hx hb dX10_number_4 (by decide) (fun c_67 => ?_) (fun c_67 => ?_)
    ·
      have n_c_67 : (r_66.toInt : Int) = 0 := c_eq rfl (by decide) c_67
      have b_r_66 : (0 : Int) ≤ r_66.toInt ∧ r_66.toInt ≤ 0 := r_eq1 b_r_66 (by decide : (0 : Int) ≤ (0 : Int32).toInt ∧ (0 : Int32).toInt ≤ 0) n_c_67 (by decide)
      have g_123 := zz_r_66 c_67
      exact hj_20_77 (x_fk, x_fp) _ _ _ ⟨(show (0 : Int) ≤ x_fk.toInt ∧ x_fk.toInt ≤ 3 from b_x_fk), (show x_fk.toInt = 0 → x_fk.toInt = 0 ∧ x_to.toInt = 2 from (by omega)), hP, hD, hS, lv_sub hl [0, 1, 2] rfl⟩
    ·
      have n_c_67 : (r_66.toInt : Int) ≠ 0 := c_ne rfl (by decide) c_67
      have b_r_66 : (1 : Int) ≤ r_66.toInt ∧ r_66.toInt ≤ 1 := r_ne1 b_r_66 (by decide : (0 : Int) ≤ (0 : Int32).toInt ∧ (0 : Int32).toInt ≤ 0) n_c_67 (by decide)
      have g_124 := nz_r_66 c_67
      refine lv_aload_n hx hb dX10_number_7 rfl (lv_at hl 0 rfl) ?_
      refine va_get (D := (dC, dI)) (ci := 8) (v := .int x_to) (C := RX10) (T := TX10) (N := 33) hx hb hts iX10_number_X10 hown hK hP 0 rfl rfl 11 (by decide) (hts (.fieldLink RX10 113 "LuckyTicketModel" "token" "I") (List.mem_of_getElem? (i := 5) rfl)) (fun _ h9 => h9) rfl dX10_number_8 ?_
      refine lv_iconst (v := 2) hx hb dX10_number_11 (by decide) ?_
      refine lv_icmp_eq (tgt := 20) hx hb dX10_number_12 (by decide) (fun c_125 => ?_) (fun c_125 => ?_)
      ·
        have n_c_125 : (x_to.toInt : Int) = 2 := c_eq rfl (by decide) c_125
        have b_x_to : (2 : Int) ≤ x_to.toInt ∧ x_to.toInt ≤ 2 := r_eq1 b_x_to (by decide : (2 : Int) ≤ (2 : Int32).toInt ∧ (2 : Int32).toInt ≤ 2) n_c_125 (by decide)
        exact hj_20_77 (x_fk, x_fp) _ _ _ ⟨(show (0 : Int) ≤ x_fk.toInt ∧ x_fk.toInt ≤ 3 from b_x_fk), (show x_fk.toInt = 0 → x_fk.toInt = 0 ∧ x_to.toInt = 2 from (by omega)), hP, hD, hS, lv_sub hl [0, 1, 2] rfl⟩
      ·
        have n_c_125 : (x_to.toInt : Int) ≠ 2 := c_ne rfl (by decide) c_125
        refine lv_aload_n hx hb dX10_number_15 rfl (lv_at hl 0 rfl) ?_
        refine lv_iconst (v := 1) hx hb dX10_number_16 (by decide) ?_
        have hFc := va_free (wc := [(o0, .inr (8, [.int x_th, .ref mwo, .ref mim, .ref mhi, .ref mlu, .ref mtp, .int x_td, .ref mfv, .int x_sz, .int x_at, .int x_fr, .int x_to, .int x_va, .int x_fk, .int x_fp, .ref mfr, .ref mwt, .int x_wt, .int x_op, .int x_jo, .ref mfg, .ref mpl, .long x_dr, .ref mtm, .ref mfa, .ref mqu, .ref mmo, .ref mwy, .ref mwn, .ref mma, .ref mwi, .ref mnu, .ref mmv]))]) hD hS hA [0] rfl
        refine va_callv (va_runV (As := [.int 1]) (rest := []) ⟨hx, hb, hml, hown, hts⟩ (kX10_errs l dC dI o0 x_th mwo mim mhi mlu mtp x_td mfv x_sz x_at x_fr x_to x_va x_fk x_fp mfr mwt x_wt x_op x_jo mfg mpl x_dr mtm mfa mqu mmo mwy mwn mma mwi mnu mmv 1 (s.heap.size) b_x_sz b_x_at b_x_fr b_x_to b_x_fk (rg_w (by decide : (1 : Int) ≤ (1 : Int32).toInt ∧ (1 : Int32).toInt ≤ 1) (by decide) (by decide))) (cwV 1 hts gX10_number__X10_errs_V161 rfl rfl rfl hd_yX10_errs ⟨lel 2 2 rfl, lel 41 46 rfl⟩) ⟨hw_fb, rcv_X10 hK hP (q0 := 0) rfl, (hw_use hP hD hK hN [0] rfl (by decide) rfl [] rfl)⟩ rfl rfl hl.1 rfl (lv_room (Nat.le_of_ble_eq_true rfl)) dX10_number_17 ⟨lel 0 0 rfl, lel 0 0 rfl⟩) hS (fun q _ h => hFc q h) hFc (fun u_127 t H1 locs ht hvm hw_r_126 hB hz1 hk1 hS => ?_)
        obtain ⟨o0_128, o1_129, b_o0_128, hf_130, hP1, hK1, hD1⟩ := hB
        rw [ht] at hP1
        have hK1 := va_K.moved hvm.symm hK1
        obtain ⟨hP, hD⟩ := va_join (wr := [(mtp, .inl (c_tp, 1200, .inl w_tp))]) (w1 := [(o0, .inr (8, [.int x_th, .ref mwo, .ref mim, .ref mhi, .ref mlu, .ref mtp, .int x_td, .ref mfv, .int x_sz, .int x_at, .int x_fr, .int x_to, .int x_va, .int o0_128, .int o1_129, .ref mfr, .ref mwt, .int x_wt, .int x_op, .int x_jo, .ref mfg, .ref mpl, .long x_dr, .ref mtm, .ref mfa, .ref mqu, .ref mmo, .ref mwy, .ref mwn, .ref mma, .ref mwi, .ref mnu, .ref mmv]))]) hP hD [0] [1] rfl rfl (by decide) (by decide) hk1 hFc hP1 hD1
        have hK := (hK.sub (tys' := [(c_tp, .byte)]) [0] rfl).app hK1
        generalize H1 = H at hP hS ⊢
        have hP := hP.sub (ws' := [(o0, .inr (8, [.int x_th, .ref mwo, .ref mim, .ref mhi, .ref mlu, .ref mtp, .int x_td, .ref mfv, .int x_sz, .int x_at, .int x_fr, .int x_to, .int x_va, .int o0_128, .int o1_129, .ref mfr, .ref mwt, .int x_wt, .int x_op, .int x_jo, .ref mfg, .ref mpl, .long x_dr, .ref mtm, .ref mfa, .ref mqu, .ref mmo, .ref mwy, .ref mwn, .ref mma, .ref mwi, .ref mnu, .ref mmv])), (mtp, .inl (c_tp, 1200, .inl w_tp))]) [1, 0] rfl
        have hD := hD.sub (ws' := [(o0, .inr (8, [.int x_th, .ref mwo, .ref mim, .ref mhi, .ref mlu, .ref mtp, .int x_td, .ref mfv, .int x_sz, .int x_at, .int x_fr, .int x_to, .int x_va, .int o0_128, .int o1_129, .ref mfr, .ref mwt, .int x_wt, .int x_op, .int x_jo, .ref mfg, .ref mpl, .long x_dr, .ref mtm, .ref mfa, .ref mqu, .ref mmo, .ref mwy, .ref mwn, .ref mma, .ref mwi, .ref mnu, .ref mmv])), (mtp, .inl (c_tp, 1200, .inl w_tp))]) [1, 0] (by decide) rfl
        have hP : va_P (dC, dI) vwCl [(o0, .inr (8, [.int x_th, .ref mwo, .ref mim, .ref mhi, .ref mlu, .ref mtp, .int x_td, .ref mfv, .int x_sz, .int x_at, .int x_fr, .int x_to, .int x_va, .int o0_128, .int o1_129, .ref mfr, .ref mwt, .int x_wt, .int x_op, .int x_jo, .ref mfg, .ref mpl, .long x_dr, .ref mtm, .ref mfa, .ref mqu, .ref mmo, .ref mwy, .ref mwn, .ref mma, .ref mwi, .ref mnu, .ref mmv])), (mtp, .inl (c_tp, 1200, .inl w_tp))] H := hP
        have hD : va_D A [(o0, .inr (8, [.int x_th, .ref mwo, .ref mim, .ref mhi, .ref mlu, .ref mtp, .int x_td, .ref mfv, .int x_sz, .int x_at, .int x_fr, .int x_to, .int x_va, .int o0_128, .int o1_129, .ref mfr, .ref mwt, .int x_wt, .int x_op, .int x_jo, .ref mfg, .ref mpl, .long x_dr, .ref mtm, .ref mfa, .ref mqu, .ref mmo, .ref mwy, .ref mwn, .ref mma, .ref mwi, .ref mnu, .ref mmv])), (mtp, .inl (c_tp, 1200, .inl w_tp))] := hD
        have hK : va_K (dC, dI) vwCl [(c_tp, .byte)] s := hK
        exact hj_20_77 (o0_128, o1_129) _ _ _ ⟨(show (0 : Int) ≤ o0_128.toInt ∧ o0_128.toInt ≤ 3 from b_o0_128), (show o0_128.toInt = 0 → x_fk.toInt = 0 ∧ x_to.toInt = 2 from (by omega)), hP, hD, hS, lv_sub hl [0, 1, 2] rfl⟩
theorem dX10_told_0 : decode cX10_told 0 = .ok (.aload_n 0, 1) := by decide +kernel
theorem dX10_told_1 : decode cX10_told 1 = .ok (.aload_n 1, 1) := by decide +kernel
theorem dX10_told_2 : decode cX10_told 2 = .ok (.invokevirtual 165, 3) := by decide +kernel
theorem dX10_told_5 : decode cX10_told 5 = .ok (.aload_n 0, 1) := by decide +kernel
theorem dX10_told_6 : decode cX10_told 6 = .ok (.iload_n 2, 1) := by decide +kernel
theorem dX10_told_7 : decode cX10_told 7 = .ok (.iload_n 3, 1) := by decide +kernel
theorem dX10_told_8 : decode cX10_told 8 = .ok (.invokevirtual 169, 3) := by decide +kernel
theorem dX10_told_11 : decode cX10_told 11 = .ok (.ireturn, 1) := by decide +kernel
theorem hd_yX10_told : yX10_told.cls = RX10 ∧ yX10_told.cls ≠ "java/lang/invoke/MethodHandle" ∧ yX10_told.cls ≠ "java/lang/invoke/VarHandle" ∧ (parseMethodDescriptor yX10_told.desc).map (fun d => d.parameters.length) = some 3 := by decide +kernel
def uX10_told : List Cond := List.cons (.code yX10_told cX10_told 4 (some .int)) (HAppend.hAppend ([.methodLink RX10 165 yX10_needs, .instanceMethod yX10_needs, .selects RX10 yX10_needs yX10_needs, .initialized RX10, .methodLink RX10 169 yX10_number, .instanceMethod yX10_number, .selects RX10 yX10_number yX10_number] : List Cond) (HAppend.hAppend uX10_needs uX10_number))
theorem guX10_told : GU uX10_told := gu_cons (gu_app (by decide +kernel) (gu_ap guX10_needs guX10_number))
theorem gX10_told__X10_needs_V165 : GoodIn uX10_told (wsV RX10 165 RX10 yX10_needs uX10_needs) := gin_V (List.mem_of_getElem? (i := 1) rfl) (List.mem_of_getElem? (i := 2) rfl) (List.mem_of_getElem? (i := 3) rfl) (List.mem_of_getElem? (i := 4) rfl) (fun _ h => (List.mem_cons_of_mem _ (List.mem_append_right _ (List.mem_append_left _ h)))) guX10_needs
theorem gX10_told__X10_number_V169 : GoodIn uX10_told (wsV RX10 169 RX10 yX10_number uX10_number) := gin_V (List.mem_of_getElem? (i := 5) rfl) (List.mem_of_getElem? (i := 6) rfl) (List.mem_of_getElem? (i := 7) rfl) (List.mem_of_getElem? (i := 4) rfl) (fun _ h => (List.mem_cons_of_mem _ (List.mem_append_right _ (List.mem_append_right _ h)))) guX10_number
set_option maxHeartbeats 4000000 in
set_option maxRecDepth 100000 in
theorem kX10_told (l : Launch) (dC : Nat → ClassId) (dI : Nat → Nat → Nat) (o0 : Nat) (x_th : Int32) (mwo : Nat) (mim : Nat) (mhi : Nat) (mlu : Nat) (mtp : Nat) (x_td : Int32) (mfv : Nat) (x_sz : Int32) (x_at : Int32) (x_fr : Int32) (x_to : Int32) (x_va : Int32) (x_fk : Int32) (x_fp : Int32) (mfr : Nat) (mwt : Nat) (x_wt : Int32) (x_op : Int32) (x_jo : Int32) (mfg : Nat) (mpl : Nat) (x_dr : Int64) (mtm : Nat) (mfa : Nat) (mqu : Nat) (mmo : Nat) (mwy : Nat) (mwn : Nat) (mma : Nat) (mwi : Nat) (mnu : Nat) (mmv : Nat) (c_tp : ClassId) (w_tp : Nat → Int32) (tq : Nat) (tn : Nat) (tf : Nat → Int32) (a1 : Int32) (a2 : Int32) (n0 : Nat) (sz : Nat) (b_x_sz : (0 : Int) ≤ x_sz.toInt ∧ x_sz.toInt ≤ 1200) (b_x_at : (0 : Int) ≤ x_at.toInt ∧ x_at.toInt ≤ 1200) (b_x_fr : (0 : Int) ≤ x_fr.toInt ∧ x_fr.toInt ≤ 1200) (b_x_to : (0 : Int) ≤ x_to.toInt ∧ x_to.toInt ≤ 6) (b_x_fk : (0 : Int) ≤ x_fk.toInt ∧ x_fk.toInt ≤ 3) (hpf : x_fr.toInt ≤ x_at.toInt ∧ x_at.toInt ≤ x_sz.toInt) (htk0 : x_to.toInt ≠ 0 → x_fr.toInt < x_at.toInt) (htn : 2 ≤ tn ∧ tn ≤ 6) : Met l yX10_told uX10_told ({ frames := 7, cells := 0, slots := 0, locals := 151 }) (va_Pc [.ref o0, .ref tq, .int a1, .int a2] (hx_ (dC, dI) vwCl [(o0, .inr (8, [.int x_th, .ref mwo, .ref mim, .ref mhi, .ref mlu, .ref mtp, .int x_td, .ref mfv, .int x_sz, .int x_at, .int x_fr, .int x_to, .int x_va, .int x_fk, .int x_fp, .ref mfr, .ref mwt, .int x_wt, .int x_op, .int x_jo, .ref mfg, .ref mpl, .long x_dr, .ref mtm, .ref mfa, .ref mqu, .ref mmo, .ref mwy, .ref mwn, .ref mma, .ref mwi, .ref mnu, .ref mmv])), (mtp, .inl (c_tp, 1200, .inl w_tp))] [(c_tp, .byte)] sz n0 [(tq, tn, tf)])) (va_Qi (fun (r : Int32) (u_ : Int32) => r = u_ ∧ (r.toInt = 0 ∨ (a1.toInt ≤ r.toInt ∧ r.toInt ≤ a2.toInt))) (fun (r : Int32) t => ∃ (o0_ : Int32) (o1_ : Int32) (o2_ : Int32) (o3_ : Int32) (o4_ : Int32) (o5_ : Int32), ((0 : Int) ≤ o0_.toInt ∧ o0_.toInt ≤ 1200) ∧ ((0 : Int) ≤ o1_.toInt ∧ o1_.toInt ≤ 1200) ∧ ((0 : Int) ≤ o2_.toInt ∧ o2_.toInt ≤ 6) ∧ ((0 : Int) ≤ o4_.toInt ∧ o4_.toInt ≤ 3) ∧ (o1_.toInt ≤ o0_.toInt ∧ o0_.toInt ≤ x_sz.toInt) ∧ (o2_.toInt ≠ 0 → o1_.toInt < o0_.toInt) ∧ (x_fr.toInt ≤ o1_.toInt) ∧ (o4_.toInt = 0 → x_fk.toInt = 0 ∧ a1.toInt ≤ r.toInt ∧ r.toInt ≤ a2.toInt ∧ x_at.toInt ≤ o1_.toInt) ∧ va_P (dC, dI) vwCl [(o0, .inr (8, [.int x_th, .ref mwo, .ref mim, .ref mhi, .ref mlu, .ref mtp, .int x_td, .ref mfv, .int x_sz, .int o0_, .int o1_, .int o2_, .int o3_, .int o4_, .int o5_, .ref mfr, .ref mwt, .int x_wt, .int x_op, .int x_jo, .ref mfg, .ref mpl, .long x_dr, .ref mtm, .ref mfa, .ref mqu, .ref mmo, .ref mwy, .ref mwn, .ref mma, .ref mwi, .ref mnu, .ref mmv])), (mtp, .inl (c_tp, 1200, .inl w_tp))] t.heap ∧ va_K (dC, dI) vwCl [(c_tp, .byte)] t ∧ va_D (va_A [(o0, .inr (8, [.int x_th, .ref mwo, .ref mim, .ref mhi, .ref mlu, .ref mtp, .int x_td, .ref mfv, .int x_sz, .int x_at, .int x_fr, .int x_to, .int x_va, .int x_fk, .int x_fp, .ref mfr, .ref mwt, .int x_wt, .int x_op, .int x_jo, .ref mfg, .ref mpl, .long x_dr, .ref mtm, .ref mfa, .ref mqu, .ref mmo, .ref mwy, .ref mwn, .ref mma, .ref mwi, .ref mnu, .ref mmv])), (mtp, .inl (c_tp, 1200, .inl w_tp))] sz) [(o0, .inr (8, [.int x_th, .ref mwo, .ref mim, .ref mhi, .ref mlu, .ref mtp, .int x_td, .ref mfv, .int x_sz, .int o0_, .int o1_, .int o2_, .int o3_, .int o4_, .int o5_, .ref mfr, .ref mwt, .int x_wt, .int x_op, .int x_jo, .ref mfg, .ref mpl, .long x_dr, .ref mtm, .ref mfa, .ref mqu, .ref mmo, .ref mwy, .ref mwn, .ref mma, .ref mwi, .ref mnu, .ref mmv])), (mtp, .inl (c_tp, 1200, .inl w_tp))]) (va_A [(o0, .inr (8, [.int x_th, .ref mwo, .ref mim, .ref mhi, .ref mlu, .ref mtp, .int x_td, .ref mfv, .int x_sz, .int x_at, .int x_fr, .int x_to, .int x_va, .int x_fk, .int x_fp, .ref mfr, .ref mwt, .int x_wt, .int x_op, .int x_jo, .ref mfg, .ref mpl, .long x_dr, .ref mtm, .ref mfa, .ref mqu, .ref mmo, .ref mwy, .ref mwn, .ref mma, .ref mwi, .ref mnu, .ref mmv])), (mtp, .inl (c_tp, 1200, .inl w_tp))] sz)) 0 0 (va_A [(o0, .inr (8, [.int x_th, .ref mwo, .ref mim, .ref mhi, .ref mlu, .ref mtp, .int x_td, .ref mfv, .int x_sz, .int x_at, .int x_fr, .int x_to, .int x_va, .int x_fk, .int x_fp, .ref mfr, .ref mwt, .int x_wt, .int x_op, .int x_jo, .ref mfg, .ref mpl, .long x_dr, .ref mtm, .ref mfa, .ref mqu, .ref mmo, .ref mwy, .ref mwn, .ref mma, .ref mwi, .ref mnu, .ref mmv])), (mtp, .inl (c_tp, 1200, .inl w_tp))] sz) := by
  refine Met.ofW (cc := cX10_told) (maxL := 4) (ret := (some .int)) pn_X10 rfl ?_
  intro p e s m args below meth c s₁ B hml hv
  obtain ⟨rfl, ⟨hsz, hP, hK, hD0, hN⟩, hn0, hDn, hX, hTx⟩ := hv
  have hx := B.exec
  have hb := B.bytes
  have hr := B.returns
  have hts := atoms_spec (ws := uX10_told) B.pre
  have hown : s.vm.findClass RX10 = some m.cls := hown_of B.named rfl
  have hlocks := B.notSynchronized
  subst hsz
  have hD := hD0.self (sz := s.heap.size)
  have hAn : ∀ q, va_A [(o0, .inr (8, [.int x_th, .ref mwo, .ref mim, .ref mhi, .ref mlu, .ref mtp, .int x_td, .ref mfv, .int x_sz, .int x_at, .int x_fr, .int x_to, .int x_va, .int x_fk, .int x_fp, .ref mfr, .ref mwt, .int x_wt, .int x_op, .int x_jo, .ref mfg, .ref mpl, .long x_dr, .ref mtm, .ref mfa, .ref mqu, .ref mmo, .ref mwy, .ref mwn, .ref mma, .ref mwi, .ref mnu, .ref mmv])), (mtp, .inl (c_tp, 1200, .inl w_tp))] s.heap.size q → n0 ≤ q := fun q h => h.elim (fun ⟨k, e, hk⟩ => hDn.2 k (q, e) hk) (fun h => Nat.le_trans hn0 h)
  generalize hAe : va_A [(o0, .inr (8, [.int x_th, .ref mwo, .ref mim, .ref mhi, .ref mlu, .ref mtp, .int x_td, .ref mfv, .int x_sz, .int x_at, .int x_fr, .int x_to, .int x_va, .int x_fk, .int x_fp, .ref mfr, .ref mwt, .int x_wt, .int x_op, .int x_jo, .ref mfg, .ref mpl, .long x_dr, .ref mtm, .ref mfa, .ref mqu, .ref mmo, .ref mwy, .ref mwn, .ref mma, .ref mwi, .ref mnu, .ref mmv])), (mtp, .inl (c_tp, 1200, .inl w_tp))] s.heap.size = A at hD hAn ⊢
  have hA : ∀ q : Nat, s.heap.size ≤ q → A q := fun q h => by rw [← hAe]; exact Or.inr h
  have hS : va_S A s.heap s.heap [] := va_S.rf
  have hP : va_P (dC, dI) vwCl [(o0, .inr (8, [.int x_th, .ref mwo, .ref mim, .ref mhi, .ref mlu, .ref mtp, .int x_td, .ref mfv, .int x_sz, .int x_at, .int x_fr, .int x_to, .int x_va, .int x_fk, .int x_fp, .ref mfr, .ref mwt, .int x_wt, .int x_op, .int x_jo, .ref mfg, .ref mpl, .long x_dr, .ref mtm, .ref mfa, .ref mqu, .ref mmo, .ref mwy, .ref mwn, .ref mma, .ref mwi, .ref mnu, .ref mmv])), (mtp, .inl (c_tp, 1200, .inl w_tp))] s.heap := hP
  have ht_tq : txt n0 tq tn tf s := hTx _ (List.mem_of_getElem? (i := 0) rfl)
  have hl := lv_entry ([.ref o0, .ref tq, .int a1, .int a2]) (n := 4) (Nat.le_of_ble_eq_true rfl)
  rw [lg_entry_eq]
  generalize (lg_sl ([.ref o0, .ref tq, .int a1, .int a2]) ++ List.replicate (4 - (lg_sl ([.ref o0, .ref tq, .int a1, .int a2])).length) Slot.unset).toArray = ls at hl ⊢
  have hl : lv_has ls 4 [(0, .ref o0), (1, .ref tq), (2, .int a1), (3, .int a2)] := hl
  refine lv_aload_n hx hb dX10_told_0 rfl (lv_at hl 0 rfl) ?_
  refine lv_aload_n hx hb dX10_told_1 rfl (lv_at hl 1 rfl) ?_
  have hFc := va_free (wc := [(o0, .inr (8, [.int x_th, .ref mwo, .ref mim, .ref mhi, .ref mlu, .ref mtp, .int x_td, .ref mfv, .int x_sz, .int x_at, .int x_fr, .int x_to, .int x_va, .int x_fk, .int x_fp, .ref mfr, .ref mwt, .int x_wt, .int x_op, .int x_jo, .ref mfg, .ref mpl, .long x_dr, .ref mtm, .ref mfa, .ref mqu, .ref mmo, .ref mwy, .ref mwn, .ref mma, .ref mwi, .ref mnu, .ref mmv])), (mtp, .inl (c_tp, 1200, .inl w_tp))]) hD hS hA [0, 1] rfl
  refine va_callv (va_runV (As := [.ref tq]) (rest := []) ⟨hx, hb, hml, hown, hts⟩ (kX10_needs l dC dI o0 x_th mwo mim mhi mlu mtp x_td mfv x_sz x_at x_fr x_to x_va x_fk x_fp mfr mwt x_wt x_op x_jo mfg mpl x_dr mtm mfa mqu mmo mwy mwn mma mwi mnu mmv c_tp w_tp tq tn tf n0 (s.heap.size) b_x_sz b_x_at b_x_fr b_x_to b_x_fk (by omega) (by omega) (by omega)) (cwV 1 hts gX10_told__X10_needs_V165 rfl rfl rfl hd_yX10_needs ⟨lel 7 7 rfl, lel 151 151 rfl⟩) ⟨hx_fb, rcv_X10 hK hP (q0 := 0) rfl, (hx_use hP hD hK hN hX hS hAn hn0 [0, 1] rfl (by decide) rfl [0] rfl (tts_1 ht_tq))⟩ rfl rfl hl.1 rfl (lv_room (Nat.le_of_ble_eq_true rfl)) dX10_told_2 ⟨lel 0 0 rfl, lel 0 0 rfl⟩) hS (fun q _ h => hFc q h) hFc (fun u_27 t H1 locs ht hvm hw_r_26 hB hz1 hk1 hS => ?_)
  obtain ⟨o0_28, o1_29, o2_30, o3_31, o4_32, o5_33, b_o0_28, b_o1_29, b_o2_30, b_o4_32, hf_34, hf_35, hf_36, hf_37, hf_38, hP1, hK1, hD1⟩ := hB
  rw [ht] at hP1
  have hK1 := va_K.moved hvm.symm hK1
  obtain ⟨hP, hD⟩ := va_join (wr := []) (w1 := [(o0, .inr (8, [.int x_th, .ref mwo, .ref mim, .ref mhi, .ref mlu, .ref mtp, .int x_td, .ref mfv, .int x_sz, .int o0_28, .int o1_29, .int o2_30, .int o3_31, .int o4_32, .int o5_33, .ref mfr, .ref mwt, .int x_wt, .int x_op, .int x_jo, .ref mfg, .ref mpl, .long x_dr, .ref mtm, .ref mfa, .ref mqu, .ref mmo, .ref mwy, .ref mwn, .ref mma, .ref mwi, .ref mnu, .ref mmv])), (mtp, .inl (c_tp, 1200, .inl w_tp))]) hP hD [0, 1] [] rfl rfl (by decide) (by decide) hk1 hFc hP1 hD1
  have hK := (hK.sub (tys' := []) [] rfl).app hK1
  generalize H1 = H at hP hS ⊢
  have hP : va_P (dC, dI) vwCl [(o0, .inr (8, [.int x_th, .ref mwo, .ref mim, .ref mhi, .ref mlu, .ref mtp, .int x_td, .ref mfv, .int x_sz, .int o0_28, .int o1_29, .int o2_30, .int o3_31, .int o4_32, .int o5_33, .ref mfr, .ref mwt, .int x_wt, .int x_op, .int x_jo, .ref mfg, .ref mpl, .long x_dr, .ref mtm, .ref mfa, .ref mqu, .ref mmo, .ref mwy, .ref mwn, .ref mma, .ref mwi, .ref mnu, .ref mmv])), (mtp, .inl (c_tp, 1200, .inl w_tp))] H := hP
  have hD : va_D A [(o0, .inr (8, [.int x_th, .ref mwo, .ref mim, .ref mhi, .ref mlu, .ref mtp, .int x_td, .ref mfv, .int x_sz, .int o0_28, .int o1_29, .int o2_30, .int o3_31, .int o4_32, .int o5_33, .ref mfr, .ref mwt, .int x_wt, .int x_op, .int x_jo, .ref mfg, .ref mpl, .long x_dr, .ref mtm, .ref mfa, .ref mqu, .ref mmo, .ref mwy, .ref mwn, .ref mma, .ref mwi, .ref mnu, .ref mmv])), (mtp, .inl (c_tp, 1200, .inl w_tp))] := hD
  have hK : va_K (dC, dI) vwCl [(c_tp, .byte)] s := hK
  refine lv_aload_n hx hb dX10_told_5 rfl (lv_at hl 0 rfl) ?_
  refine lv_iload_n hx hb dX10_told_6 rfl (lv_at hl 2 rfl) ?_
  refine lv_iload_n hx hb dX10_told_7 rfl (lv_at hl 3 rfl) ?_
  have hFc := va_free (wc := [(o0, .inr (8, [.int x_th, .ref mwo, .ref mim, .ref mhi, .ref mlu, .ref mtp, .int x_td, .ref mfv, .int x_sz, .int o0_28, .int o1_29, .int o2_30, .int o3_31, .int o4_32, .int o5_33, .ref mfr, .ref mwt, .int x_wt, .int x_op, .int x_jo, .ref mfg, .ref mpl, .long x_dr, .ref mtm, .ref mfa, .ref mqu, .ref mmo, .ref mwy, .ref mwn, .ref mma, .ref mwi, .ref mnu, .ref mmv])), (mtp, .inl (c_tp, 1200, .inl w_tp))]) hD hS hA [0, 1] rfl
  refine va_calli (va_runV (As := [.int a1, .int a2]) (rest := []) ⟨hx, hb, hml, hown, hts⟩ (kX10_number l dC dI o0 x_th mwo mim mhi mlu mtp x_td mfv x_sz o0_28 o1_29 o2_30 o3_31 o4_32 o5_33 mfr mwt x_wt x_op x_jo mfg mpl x_dr mtm mfa mqu mmo mwy mwn mma mwi mnu mmv c_tp w_tp a1 a2 (H.size) b_x_sz b_o0_28 b_o1_29 b_o2_30 b_o4_32 (by omega) (by omega)) (cwV 2 hts gX10_told__X10_number_V169 rfl rfl rfl hd_yX10_number ⟨lel 3 7 rfl, lel 69 151 rfl⟩) ⟨hw_fb, rcv_X10 hK hP (q0 := 0) rfl, (hw_use hP hD hK hN [0, 1] rfl (by decide) rfl [0] rfl)⟩ rfl rfl hl.1 rfl (lv_room (Nat.le_of_ble_eq_true rfl)) dX10_told_8 ⟨lel 0 0 rfl, lel 0 0 rfl⟩) hS (fun q _ h => hFc q h) hFc (fun r_39 u_40 t H1 locs ht hvm hw_r_39 hB hz1 hk1 hS => ?_)
  obtain ⟨hu_r_39, hw_r_39⟩ := hw_r_39
  subst hu_r_39
  obtain ⟨o0_41, o1_42, o2_43, o3_44, o4_45, o5_46, b_o0_41, b_o1_42, b_o2_43, b_o4_45, hf_47, hf_48, hf_49, hf_50, hP1, hK1, hD1⟩ := hB
  rw [ht] at hP1
  have hK1 := va_K.moved hvm.symm hK1
  obtain ⟨hP, hD⟩ := va_join (wr := []) (w1 := [(o0, .inr (8, [.int x_th, .ref mwo, .ref mim, .ref mhi, .ref mlu, .ref mtp, .int x_td, .ref mfv, .int x_sz, .int o0_41, .int o1_42, .int o2_43, .int o3_44, .int o4_45, .int o5_46, .ref mfr, .ref mwt, .int x_wt, .int x_op, .int x_jo, .ref mfg, .ref mpl, .long x_dr, .ref mtm, .ref mfa, .ref mqu, .ref mmo, .ref mwy, .ref mwn, .ref mma, .ref mwi, .ref mnu, .ref mmv])), (mtp, .inl (c_tp, 1200, .inl w_tp))]) hP hD [0, 1] [] rfl rfl (by decide) (by decide) hk1 hFc hP1 hD1
  have hK := (hK.sub (tys' := []) [] rfl).app hK1
  generalize H1 = H at hP hS ⊢
  have hP : va_P (dC, dI) vwCl [(o0, .inr (8, [.int x_th, .ref mwo, .ref mim, .ref mhi, .ref mlu, .ref mtp, .int x_td, .ref mfv, .int x_sz, .int o0_41, .int o1_42, .int o2_43, .int o3_44, .int o4_45, .int o5_46, .ref mfr, .ref mwt, .int x_wt, .int x_op, .int x_jo, .ref mfg, .ref mpl, .long x_dr, .ref mtm, .ref mfa, .ref mqu, .ref mmo, .ref mwy, .ref mwn, .ref mma, .ref mwi, .ref mnu, .ref mmv])), (mtp, .inl (c_tp, 1200, .inl w_tp))] H := hP
  have hD : va_D A [(o0, .inr (8, [.int x_th, .ref mwo, .ref mim, .ref mhi, .ref mlu, .ref mtp, .int x_td, .ref mfv, .int x_sz, .int o0_41, .int o1_42, .int o2_43, .int o3_44, .int o4_45, .int o5_46, .ref mfr, .ref mwt, .int x_wt, .int x_op, .int x_jo, .ref mfg, .ref mpl, .long x_dr, .ref mtm, .ref mfa, .ref mqu, .ref mmo, .ref mwy, .ref mwn, .ref mma, .ref mwi, .ref mnu, .ref mmv])), (mtp, .inl (c_tp, 1200, .inl w_tp))] := hD
  have hK : va_K (dC, dI) vwCl [(c_tp, .byte)] s := hK
  have pr_r_39 := hw_r_39
  have hP9 := hP.sub (ws' := [(o0, .inr (8, [.int x_th, .ref mwo, .ref mim, .ref mhi, .ref mlu, .ref mtp, .int x_td, .ref mfv, .int x_sz, .int o0_41, .int o1_42, .int o2_43, .int o3_44, .int o4_45, .int o5_46, .ref mfr, .ref mwt, .int x_wt, .int x_op, .int x_jo, .ref mfg, .ref mpl, .long x_dr, .ref mtm, .ref mfa, .ref mqu, .ref mmo, .ref mwy, .ref mwn, .ref mma, .ref mwi, .ref mnu, .ref mmv])), (mtp, .inl (c_tp, 1200, .inl w_tp))]) [0, 1] rfl
  have hD9 := hD.sub (ws' := [(o0, .inr (8, [.int x_th, .ref mwo, .ref mim, .ref mhi, .ref mlu, .ref mtp, .int x_td, .ref mfv, .int x_sz, .int o0_41, .int o1_42, .int o2_43, .int o3_44, .int o4_45, .int o5_46, .ref mfr, .ref mwt, .int x_wt, .int x_op, .int x_jo, .ref mfg, .ref mpl, .long x_dr, .ref mtm, .ref mfa, .ref mqu, .ref mmo, .ref mwy, .ref mwn, .ref mma, .ref mwi, .ref mnu, .ref mmv])), (mtp, .inl (c_tp, 1200, .inl w_tp))]) [0, 1] (by decide) rfl
  have hK9 := hK.sub (tys' := [(c_tp, .byte)]) [0] rfl
  exact W.iret (v := r_39) hx hb hr (fun t ht hW => ⟨⟨r_39, r_39, rfl, ⟨rfl, (by omega)⟩, o0_41, o1_42, o2_43, o3_44, o4_45, o5_46, b_o0_41, b_o1_42, b_o2_43, b_o4_45, (by omega), (by omega), (by omega), (fun h9 => by have q9 := hf_50 h9; have q8 := hf_38 q9.1; omega), by rw [ht]; exact hP9, va_K.moved hW.alike hK9, hD9⟩, hS.F ht⟩) hS.2.2 dX10_told_11
