theorem dX10_in_0 : decode cX10_in 0 = .ok (.lload_n 0, 1) := by decide +kernel
theorem dX10_in_1 : decode cX10_in 1 = .ok (.lload_n 2, 1) := by decide +kernel
theorem dX10_in_2 : decode cX10_in 2 = .ok (.lcmp, 1) := by decide +kernel
theorem dX10_in_3 : decode cX10_in 3 = .ok (.ifCond .lt 14, 3) := by decide +kernel
theorem dX10_in_6 : decode cX10_in 6 = .ok (.lload_n 0, 1) := by decide +kernel
theorem dX10_in_7 : decode cX10_in 7 = .ok (.lload 4, 2) := by decide +kernel
theorem dX10_in_9 : decode cX10_in 9 = .ok (.lcmp, 1) := by decide +kernel
theorem dX10_in_10 : decode cX10_in 10 = .ok (.ifCond .gt 7, 3) := by decide +kernel
theorem dX10_in_13 : decode cX10_in 13 = .ok (.iconst 1, 1) := by decide +kernel
theorem dX10_in_14 : decode cX10_in 14 = .ok (.goto 4, 3) := by decide +kernel
theorem dX10_in_17 : decode cX10_in 17 = .ok (.iconst 0, 1) := by decide +kernel
theorem dX10_in_18 : decode cX10_in 18 = .ok (.ireturn, 1) := by decide +kernel
theorem hd_yX10_in : yX10_in.cls = RX10 ∧ yX10_in.cls ≠ "java/lang/invoke/MethodHandle" ∧ yX10_in.cls ≠ "java/lang/invoke/VarHandle" ∧ (parseMethodDescriptor yX10_in.desc).map (fun d => d.parameters.length) = some 3 := by decide +kernel
def uX10_in : List Cond := List.cons (.code yX10_in cX10_in 6 (some .boolean)) ([] : List Cond)
theorem guX10_in : GU uX10_in := gu_cons (gu_all (by decide +kernel))
set_option maxHeartbeats 4000000 in
set_option maxRecDepth 100000 in
theorem kX10_in (l : Launch) (dC : Nat → ClassId) (dI : Nat → Nat → Nat) (a1 : Int64) (a2 : Int64) (a3 : Int64) : Met l yX10_in uX10_in ({ frames := 0, cells := 0, slots := 0, locals := 0 }) (va_Pc [.long a1, .long a2, .long a3] (fun _ => True)) (vp_Si (fun r => ((0 : Int) ≤ r.toInt ∧ r.toInt ≤ 1) ∧ (r ≠ 0 → (a2.toInt ≤ a1.toInt ∧ a1.toInt ≤ a3.toInt)))) 0 0 (fun _ => False) := by
  refine Met.ofW (cc := cX10_in) (maxL := 6) (ret := (some .boolean)) pn_X10 rfl ?_
  intro p e s m args below meth c s₁ B hml hv
  obtain ⟨rfl, _⟩ := hv
  have hx := B.exec
  have hb := B.bytes
  have hr := B.returns
  have hts := atoms_spec (ws := uX10_in) B.pre
  have hown : s.vm.findClass RX10 = some m.cls := hown_of B.named rfl
  have hlocks := B.notSynchronized
  have hl := lv_entry ([.long a1, .long a2, .long a3]) (n := 6) (Nat.le_of_ble_eq_true rfl)
  rw [lg_entry_eq]
  generalize (lg_sl ([.long a1, .long a2, .long a3]) ++ List.replicate (6 - (lg_sl ([.long a1, .long a2, .long a3])).length) Slot.unset).toArray = ls at hl ⊢
  have hl : lv_has ls 6 [(0, .long a1), (2, .long a2), (4, .long a3)] := hl
  refine lv_lload_n hx hb dX10_in_0 rfl (lv_at hl 0 rfl) ?_
  refine lv_lload_n hx hb dX10_in_1 rfl (lv_at hl 1 rfl) ?_
  refine W.lcmp hx hb dX10_in_2 ?_
  refine lv_if_lt (tgt := 17) hx hb dX10_in_3 (by decide) (fun c_3 => ?_) (fun c_3 => ?_)
  ·
    have n_c_3 : (a1.toInt : Int) < a2.toInt := g_lt rfl rfl c_3
    have b_a1 : (-9223372036854775808 : Int) ≤ a1.toInt ∧ a1.toInt ≤ 9223372036854775806 := r_lt1 (tl_rng a1) (tl_rng a2) n_c_3 (by decide)
    have b_a2 : (-9223372036854775807 : Int) ≤ a2.toInt ∧ a2.toInt ≤ 9223372036854775807 := r_lt2 (tl_rng a1) (tl_rng a2) n_c_3 (by decide)
    refine lv_iconst (v := 0) hx hb dX10_in_17 (by decide) ?_
    exact W.zret (v := 0) hx hb hr rfl (fun t ht hW => ⟨0, rfl, ⟨(rg_w (by decide : (0 : Int) ≤ (0 : Int32).toInt ∧ (0 : Int32).toInt ≤ 0) (by decide) (by decide)), (fun h9 => absurd rfl h9)⟩, ht⟩) t_nil dX10_in_18
  ·
    have n_c_3 : (a2.toInt : Int) ≤ a1.toInt := g_nlt rfl rfl c_3
    refine lv_lload_n hx hb dX10_in_6 rfl (lv_at hl 0 rfl) ?_
    refine lv_lload hx hb dX10_in_7 (lv_at hl 2 rfl) ?_
    refine W.lcmp hx hb dX10_in_9 ?_
    refine lv_if_gt (tgt := 17) hx hb dX10_in_10 (by decide) (fun c_4 => ?_) (fun c_4 => ?_)
    ·
      have n_c_4 : (a3.toInt : Int) < a1.toInt := g_gt rfl rfl c_4
      have b_a3 : (-9223372036854775808 : Int) ≤ a3.toInt ∧ a3.toInt ≤ 9223372036854775806 := r_lt1 (tl_rng a3) (tl_rng a1) n_c_4 (by decide)
      have b_a1 : (-9223372036854775807 : Int) ≤ a1.toInt ∧ a1.toInt ≤ 9223372036854775807 := r_lt2 (tl_rng a3) (tl_rng a1) n_c_4 (by decide)
      refine lv_iconst (v := 0) hx hb dX10_in_17 (by decide) ?_
      exact W.zret (v := 0) hx hb hr rfl (fun t ht hW => ⟨0, rfl, ⟨(rg_w (by decide : (0 : Int) ≤ (0 : Int32).toInt ∧ (0 : Int32).toInt ≤ 0) (by decide) (by decide)), (fun h9 => absurd rfl h9)⟩, ht⟩) t_nil dX10_in_18
    ·
      have n_c_4 : (a1.toInt : Int) ≤ a3.toInt := g_ngt rfl rfl c_4
      refine lv_iconst (v := 1) hx hb dX10_in_13 (by decide) ?_
      refine lv_goto (tgt := 18) hx hb dX10_in_14 (by decide) ?_
      exact W.zret (v := 1) hx hb hr rfl (fun t ht hW => ⟨1, rfl, ⟨(rg_w (by decide : (1 : Int) ≤ (1 : Int32).toInt ∧ (1 : Int32).toInt ≤ 1) (by decide) (by decide)), (fun _ => (by omega))⟩, ht⟩) t_nil dX10_in_18
theorem dX10_isRoll_0 : decode cX10_isRoll 0 = .ok (.aload_n 0, 1) := by decide +kernel
theorem dX10_isRoll_1 : decode cX10_isRoll 1 = .ok (.getfield 9, 3) := by decide +kernel
theorem dX10_isRoll_4 : decode cX10_isRoll 4 = .ok (.iconst 0, 1) := by decide +kernel
theorem dX10_isRoll_5 : decode cX10_isRoll 5 = .ok (.iaload, 1) := by decide +kernel
theorem dX10_isRoll_6 : decode cX10_isRoll 6 = .ok (.ifCond .le 7, 3) := by decide +kernel
theorem dX10_isRoll_9 : decode cX10_isRoll 9 = .ok (.iconst 1, 1) := by decide +kernel
theorem dX10_isRoll_10 : decode cX10_isRoll 10 = .ok (.goto 4, 3) := by decide +kernel
theorem dX10_isRoll_13 : decode cX10_isRoll 13 = .ok (.iconst 0, 1) := by decide +kernel
theorem dX10_isRoll_14 : decode cX10_isRoll 14 = .ok (.ireturn, 1) := by decide +kernel
theorem hd_yX10_isRoll : yX10_isRoll.cls = RX10 ∧ yX10_isRoll.cls ≠ "java/lang/invoke/MethodHandle" ∧ yX10_isRoll.cls ≠ "java/lang/invoke/VarHandle" ∧ (parseMethodDescriptor yX10_isRoll.desc).map (fun d => d.parameters.length) = some 0 := by decide +kernel
def uX10_isRoll : List Cond := List.cons (.code yX10_isRoll cX10_isRoll 1 (some .boolean)) (HAppend.hAppend ([.fieldLink RX10 9 "LuckyTicketModel" "world" "[I"] : List Cond) wsX100)
theorem iX10_isRoll_X10 : ∀ w ∈ wsX100, w ∈ uX10_isRoll := fun _ h => (List.mem_cons_of_mem _ (List.mem_append_right _ h))
theorem guX10_isRoll : GU uX10_isRoll := gu_cons (gu_app (by decide +kernel) gws_X10)
set_option maxHeartbeats 4000000 in
set_option maxRecDepth 100000 in
theorem kX10_isRoll (l : Launch) (dC : Nat → ClassId) (dI : Nat → Nat → Nat) (o0 : Nat) (x_th : Int32) (mwo : Nat) (mim : Nat) (mhi : Nat) (mlu : Nat) (mtp : Nat) (x_td : Int32) (mfv : Nat) (x_sz : Int32) (x_at : Int32) (x_fr : Int32) (x_to : Int32) (x_va : Int32) (x_fk : Int32) (x_fp : Int32) (mfr : Nat) (mwt : Nat) (x_wt : Int32) (x_op : Int32) (x_jo : Int32) (mfg : Nat) (mpl : Nat) (x_dr : Int64) (mtm : Nat) (mfa : Nat) (mqu : Nat) (mmo : Nat) (mwy : Nat) (mwn : Nat) (mma : Nat) (mwi : Nat) (mnu : Nat) (mmv : Nat) (c_wo : ClassId) (w_wo : Nat → Int32) (ln : Int32) (bs : Int32) (tk : Int32) (lw : Int32) (li : Int32) (b_ln : (0 : Int) ≤ ln.toInt ∧ ln.toInt ≤ 12) (b_bs : (0 : Int) ≤ bs.toInt ∧ bs.toInt ≤ 16) (b_tk : (0 : Int) ≤ tk.toInt ∧ tk.toInt ≤ 20000) (b_lw : (0 : Int) ≤ lw.toInt ∧ lw.toInt ≤ 9) (hw0 : w_wo 0 = ln) (hw1 : w_wo 1 = bs) (hw2 : w_wo 2 = tk) (hw3 : w_wo 3 = lw) (hw4 : w_wo 4 = li) (hwz : (ln.toInt = 0 ∧ bs.toInt = 0 ∧ tk.toInt = 0 ∧ lw.toInt = 0) ∨ (1 ≤ ln.toInt ∧ 2 ≤ bs.toInt ∧ 1 ≤ tk.toInt)) : Met l yX10_isRoll uX10_isRoll ({ frames := 0, cells := 0, slots := 0, locals := 0 }) (va_Pc [.ref o0] (pw (dC, dI) vwCl [(o0, .inr (8, [.int x_th, .ref mwo, .ref mim, .ref mhi, .ref mlu, .ref mtp, .int x_td, .ref mfv, .int x_sz, .int x_at, .int x_fr, .int x_to, .int x_va, .int x_fk, .int x_fp, .ref mfr, .ref mwt, .int x_wt, .int x_op, .int x_jo, .ref mfg, .ref mpl, .long x_dr, .ref mtm, .ref mfa, .ref mqu, .ref mmo, .ref mwy, .ref mwn, .ref mma, .ref mwi, .ref mnu, .ref mmv])), (mwo, .inl (c_wo, 1875, .inl w_wo))] [(c_wo, .int)])) (vp_Si (fun r => ((0 : Int) ≤ r.toInt ∧ r.toInt ≤ 1) ∧ (r ≠ 0 → ((1 : Int) ≤ ln.toInt ∧ ln.toInt ≤ 12) ∧ (1 ≤ tk.toInt)))) 0 0 (fun _ => False) := by
  refine Met.ofW (cc := cX10_isRoll) (maxL := 1) (ret := (some .boolean)) pn_X10 rfl ?_
  intro p e s m args below meth c s₁ B hml hv
  obtain ⟨rfl, hP, hK, hN⟩ := hv
  have hx := B.exec
  have hb := B.bytes
  have hr := B.returns
  have hts := atoms_spec (ws := uX10_isRoll) B.pre
  have hown : s.vm.findClass RX10 = some m.cls := hown_of B.named rfl
  have hlocks := B.notSynchronized
  have hl := lv_entry ([.ref o0]) (n := 1) (Nat.le_of_ble_eq_true rfl)
  rw [lg_entry_eq]
  generalize (lg_sl ([.ref o0]) ++ List.replicate (1 - (lg_sl ([.ref o0])).length) Slot.unset).toArray = ls at hl ⊢
  have hl : lv_has ls 1 [(0, .ref o0)] := hl
  refine lv_aload_n hx hb dX10_isRoll_0 rfl (lv_at hl 0 rfl) ?_
  refine va_get (D := (dC, dI)) (ci := 8) (v := .ref mwo) (C := RX10) (T := TX10) (N := 33) hx hb hts iX10_isRoll_X10 hown hK hP 0 rfl rfl 1 (by decide) (hts (.fieldLink RX10 9 "LuckyTicketModel" "world" "[I") (List.mem_of_getElem? (i := 1) rfl)) (fun _ h9 => h9) rfl dX10_isRoll_1 ?_
  refine lv_iconst (v := 0) hx hb dX10_isRoll_4 (by decide) ?_
  refine va_iald hx hb hK hP 1 0 rfl rfl (vp_in_b (by decide : (0 : Int) ≤ (0 : Int32).toInt ∧ (0 : Int32).toInt ≤ 0) (by decide) (by decide)) dX10_isRoll_5 ?_
  refine lv_topi (fun z_3 e_z_3 => ?_)
  obtain rfl : ln = z_3 := (e_z_3.trans hw0).symm
  refine lv_if_le (tgt := 13) hx hb dX10_isRoll_6 (by decide) (fun c_4 => ?_) (fun c_4 => ?_)
  ·
    have n_c_4 : (ln.toInt : Int) ≤ 0 := c_le rfl (by decide) c_4
    have b_ln : (0 : Int) ≤ ln.toInt ∧ ln.toInt ≤ 0 := r_le1 b_ln (by decide : (0 : Int) ≤ (0 : Int32).toInt ∧ (0 : Int32).toInt ≤ 0) n_c_4 (by decide)
    refine lv_iconst (v := 0) hx hb dX10_isRoll_13 (by decide) ?_
    exact W.zret (v := 0) hx hb hr rfl (fun t ht hW => ⟨0, rfl, ⟨(rg_w (by decide : (0 : Int) ≤ (0 : Int32).toInt ∧ (0 : Int32).toInt ≤ 0) (by decide) (by decide)), (fun h9 => absurd rfl h9)⟩, ht⟩) t_nil dX10_isRoll_14
  ·
    have n_c_4 : (0 : Int) < ln.toInt := c_nle rfl (by decide) c_4
    have b_ln : (1 : Int) ≤ ln.toInt ∧ ln.toInt ≤ 12 := r_lt2 (by decide : (0 : Int) ≤ (0 : Int32).toInt ∧ (0 : Int32).toInt ≤ 0) b_ln n_c_4 (by decide)
    refine lv_iconst (v := 1) hx hb dX10_isRoll_9 (by decide) ?_
    refine lv_goto (tgt := 14) hx hb dX10_isRoll_10 (by decide) ?_
    exact W.zret (v := 1) hx hb hr rfl (fun t ht hW => ⟨1, rfl, ⟨(rg_w (by decide : (1 : Int) ≤ (1 : Int32).toInt ∧ (1 : Int32).toInt ≤ 1) (by decide) (by decide)), (fun _ => ⟨⟨by omega, by omega⟩, (by omega)⟩)⟩, ht⟩) t_nil dX10_isRoll_14
theorem dX10_isLaw_0 : decode cX10_isLaw 0 = .ok (.iload_n 1, 1) := by decide +kernel
theorem dX10_isLaw_1 : decode cX10_isLaw 1 = .ok (.i2l, 1) := by decide +kernel
theorem dX10_isLaw_2 : decode cX10_isLaw 2 = .ok (.lconst 0, 1) := by decide +kernel
theorem dX10_isLaw_3 : decode cX10_isLaw 3 = .ok (.aload_n 0, 1) := by decide +kernel
theorem dX10_isLaw_4 : decode cX10_isLaw 4 = .ok (.getfield 9, 3) := by decide +kernel
theorem dX10_isLaw_7 : decode cX10_isLaw 7 = .ok (.iconst 3, 1) := by decide +kernel
theorem dX10_isLaw_8 : decode cX10_isLaw 8 = .ok (.iaload, 1) := by decide +kernel
theorem dX10_isLaw_9 : decode cX10_isLaw 9 = .ok (.iconst 1, 1) := by decide +kernel
theorem dX10_isLaw_10 : decode cX10_isLaw 10 = .ok (.isub, 1) := by decide +kernel
theorem dX10_isLaw_11 : decode cX10_isLaw 11 = .ok (.i2l, 1) := by decide +kernel
theorem dX10_isLaw_12 : decode cX10_isLaw 12 = .ok (.invokestatic 82, 3) := by decide +kernel
theorem dX10_isLaw_15 : decode cX10_isLaw 15 = .ok (.ireturn, 1) := by decide +kernel
theorem hd_yX10_isLaw : yX10_isLaw.cls = RX10 ∧ yX10_isLaw.cls ≠ "java/lang/invoke/MethodHandle" ∧ yX10_isLaw.cls ≠ "java/lang/invoke/VarHandle" ∧ (parseMethodDescriptor yX10_isLaw.desc).map (fun d => d.parameters.length) = some 1 := by decide +kernel
def uX10_isLaw : List Cond := List.cons (.code yX10_isLaw cX10_isLaw 2 (some .boolean)) (HAppend.hAppend ([.fieldLink RX10 9 "LuckyTicketModel" "world" "[I", .methodLink RX10 82 yX10_in, .static yX10_in, .initialized RX10] : List Cond) (HAppend.hAppend uX10_in wsX100))
theorem iX10_isLaw_X10 : ∀ w ∈ wsX100, w ∈ uX10_isLaw := fun _ h => (List.mem_cons_of_mem _ (List.mem_append_right _ (List.mem_append_right _ h)))
theorem guX10_isLaw : GU uX10_isLaw := gu_cons (gu_app (by decide +kernel) (gu_ap guX10_in gws_X10))
theorem gX10_isLaw__X10_in_S82 : GoodIn uX10_isLaw (va_wsS RX10 82 yX10_in uX10_in) := gin_S (List.mem_of_getElem? (i := 2) rfl) (List.mem_of_getElem? (i := 3) rfl) (List.mem_of_getElem? (i := 4) rfl) (fun _ h => (List.mem_cons_of_mem _ (List.mem_append_right _ (List.mem_append_left _ h)))) guX10_in
set_option maxHeartbeats 4000000 in
set_option maxRecDepth 100000 in
theorem kX10_isLaw (l : Launch) (dC : Nat → ClassId) (dI : Nat → Nat → Nat) (o0 : Nat) (x_th : Int32) (mwo : Nat) (mim : Nat) (mhi : Nat) (mlu : Nat) (mtp : Nat) (x_td : Int32) (mfv : Nat) (x_sz : Int32) (x_at : Int32) (x_fr : Int32) (x_to : Int32) (x_va : Int32) (x_fk : Int32) (x_fp : Int32) (mfr : Nat) (mwt : Nat) (x_wt : Int32) (x_op : Int32) (x_jo : Int32) (mfg : Nat) (mpl : Nat) (x_dr : Int64) (mtm : Nat) (mfa : Nat) (mqu : Nat) (mmo : Nat) (mwy : Nat) (mwn : Nat) (mma : Nat) (mwi : Nat) (mnu : Nat) (mmv : Nat) (c_wo : ClassId) (w_wo : Nat → Int32) (ln : Int32) (bs : Int32) (tk : Int32) (lw : Int32) (li : Int32) (a1 : Int32) (b_ln : (0 : Int) ≤ ln.toInt ∧ ln.toInt ≤ 12) (b_bs : (0 : Int) ≤ bs.toInt ∧ bs.toInt ≤ 16) (b_tk : (0 : Int) ≤ tk.toInt ∧ tk.toInt ≤ 20000) (b_lw : (0 : Int) ≤ lw.toInt ∧ lw.toInt ≤ 9) (hw0 : w_wo 0 = ln) (hw1 : w_wo 1 = bs) (hw2 : w_wo 2 = tk) (hw3 : w_wo 3 = lw) (hw4 : w_wo 4 = li) (hwz : (ln.toInt = 0 ∧ bs.toInt = 0 ∧ tk.toInt = 0 ∧ lw.toInt = 0) ∨ (1 ≤ ln.toInt ∧ 2 ≤ bs.toInt ∧ 1 ≤ tk.toInt)) : Met l yX10_isLaw uX10_isLaw ({ frames := 1, cells := 0, slots := 0, locals := 25 }) (va_Pc [.ref o0, .int a1] (pw (dC, dI) vwCl [(o0, .inr (8, [.int x_th, .ref mwo, .ref mim, .ref mhi, .ref mlu, .ref mtp, .int x_td, .ref mfv, .int x_sz, .int x_at, .int x_fr, .int x_to, .int x_va, .int x_fk, .int x_fp, .ref mfr, .ref mwt, .int x_wt, .int x_op, .int x_jo, .ref mfg, .ref mpl, .long x_dr, .ref mtm, .ref mfa, .ref mqu, .ref mmo, .ref mwy, .ref mwn, .ref mma, .ref mwi, .ref mnu, .ref mmv])), (mwo, .inl (c_wo, 1875, .inl w_wo))] [(c_wo, .int)])) (vp_Si (fun r => ((0 : Int) ≤ r.toInt ∧ r.toInt ≤ 1) ∧ (r ≠ 0 → ((0 : Int) ≤ a1.toInt ∧ a1.toInt ≤ 8) ∧ (a1.toInt < lw.toInt ∧ 1 ≤ tk.toInt)))) 0 0 (fun _ => False) := by
  refine Met.ofW (cc := cX10_isLaw) (maxL := 2) (ret := (some .boolean)) pn_X10 rfl ?_
  intro p e s m args below meth c s₁ B hml hv
  obtain ⟨rfl, hP, hK, hN⟩ := hv
  have hx := B.exec
  have hb := B.bytes
  have hr := B.returns
  have hts := atoms_spec (ws := uX10_isLaw) B.pre
  have hown : s.vm.findClass RX10 = some m.cls := hown_of B.named rfl
  have hlocks := B.notSynchronized
  have hl := lv_entry ([.ref o0, .int a1]) (n := 2) (Nat.le_of_ble_eq_true rfl)
  rw [lg_entry_eq]
  generalize (lg_sl ([.ref o0, .int a1]) ++ List.replicate (2 - (lg_sl ([.ref o0, .int a1])).length) Slot.unset).toArray = ls at hl ⊢
  have hl : lv_has ls 2 [(0, .ref o0), (1, .int a1)] := hl
  refine lv_iload_n hx hb dX10_isLaw_0 rfl (lv_at hl 1 rfl) ?_
  obtain ⟨z_6, e_z_6⟩ : ∃ y : Int64, y = a1.toInt64 := ⟨_, rfl⟩
  refine lv_i2l (v := z_6) hx hb dX10_isLaw_1 e_z_6.symm ?_
  obtain ⟨q_z_6, b_z_6⟩ := ti_i2l e_z_6 (ti_rng a1)
  refine lv_lconst (v := 0) hx hb dX10_isLaw_2 (by decide) ?_
  refine lv_aload_n hx hb dX10_isLaw_3 rfl (lv_at hl 0 rfl) ?_
  refine va_get (D := (dC, dI)) (ci := 8) (v := .ref mwo) (C := RX10) (T := TX10) (N := 33) hx hb hts iX10_isLaw_X10 hown hK hP 0 rfl rfl 1 (by decide) (hts (.fieldLink RX10 9 "LuckyTicketModel" "world" "[I") (List.mem_of_getElem? (i := 1) rfl)) (fun _ h9 => h9) rfl dX10_isLaw_4 ?_
  refine lv_iconst (v := 3) hx hb dX10_isLaw_7 (by decide) ?_
  refine va_iald hx hb hK hP 1 0 rfl rfl (vp_in_b (by decide : (3 : Int) ≤ (3 : Int32).toInt ∧ (3 : Int32).toInt ≤ 3) (by decide) (by decide)) dX10_isLaw_8 ?_
  refine lv_topi (fun z_7 e_z_7 => ?_)
  obtain rfl : lw = z_7 := (e_z_7.trans hw3).symm
  refine lv_iconst (v := 1) hx hb dX10_isLaw_9 (by decide) ?_
  refine lv_isub hx hb dX10_isLaw_10 ?_
  refine lv_topi (fun z_8 e_z_8 => ?_)
  obtain ⟨q_z_8, b_z_8⟩ := ti_sub (lo := -1) (hi := 8) e_z_8 rfl (by decide : (1 : Int32).toInt = 1) b_lw (by decide : (1 : Int) ≤ (1 : Int32).toInt ∧ (1 : Int32).toInt ≤ 1) (by decide)
  obtain ⟨z_9, e_z_9⟩ : ∃ y : Int64, y = z_8.toInt64 := ⟨_, rfl⟩
  refine lv_i2l (v := z_9) hx hb dX10_isLaw_11 e_z_9.symm ?_
  obtain ⟨q_z_9, b_z_9⟩ := ti_i2l e_z_9 b_z_8
  refine vp_callSi (W.runS (As := [.long z_6, .long 0, .long z_9]) (rest := []) ⟨hx, hb, hml, hown, hts⟩ (kX10_in l dC dI z_6 0 z_9 ) (va_cwS 3 hts gX10_isLaw__X10_in_S82 rfl rfl rfl hd_yX10_in.2 ⟨lel 1 1 rfl, lel 25 25 rfl⟩) ⟨pn_fb, pn_use⟩ rfl rfl hl.1 rfl (lv_room (Nat.le_of_ble_eq_true rfl)) dX10_isLaw_12 ⟨lel 0 0 rfl, lel 0 0 rfl⟩) (fun r_10 h_r_10 => ?_)
  obtain ⟨b_r_10, nz_r_10⟩ := h_r_10
  have b_r_10 : (0 : Int) ≤ r_10.toInt ∧ r_10.toInt ≤ 1 := b_r_10
  exact W.zret (v := r_10) hx hb hr (zn_b b_r_10) (fun t ht hW => ⟨r_10, rfl, ⟨b_r_10, (fun h9 => by have h8 := nz_r_10 h9; have h7 := (by decide : (0 : Int64).toInt = 0); exact ⟨⟨by omega, by omega⟩, (by omega)⟩)⟩, ht⟩) t_nil dX10_isLaw_15
theorem dX10_isTicket_0 : decode cX10_isTicket 0 = .ok (.lload_n 1, 1) := by decide +kernel
theorem dX10_isTicket_1 : decode cX10_isTicket 1 = .ok (.lconst 0, 1) := by decide +kernel
theorem dX10_isTicket_2 : decode cX10_isTicket 2 = .ok (.aload_n 0, 1) := by decide +kernel
theorem dX10_isTicket_3 : decode cX10_isTicket 3 = .ok (.getfield 9, 3) := by decide +kernel
theorem dX10_isTicket_6 : decode cX10_isTicket 6 = .ok (.iconst 2, 1) := by decide +kernel
theorem dX10_isTicket_7 : decode cX10_isTicket 7 = .ok (.iaload, 1) := by decide +kernel
theorem dX10_isTicket_8 : decode cX10_isTicket 8 = .ok (.iconst 1, 1) := by decide +kernel
theorem dX10_isTicket_9 : decode cX10_isTicket 9 = .ok (.isub, 1) := by decide +kernel
theorem dX10_isTicket_10 : decode cX10_isTicket 10 = .ok (.i2l, 1) := by decide +kernel
theorem dX10_isTicket_11 : decode cX10_isTicket 11 = .ok (.invokestatic 82, 3) := by decide +kernel
theorem dX10_isTicket_14 : decode cX10_isTicket 14 = .ok (.ireturn, 1) := by decide +kernel
theorem hd_yX10_isTicket : yX10_isTicket.cls = RX10 ∧ yX10_isTicket.cls ≠ "java/lang/invoke/MethodHandle" ∧ yX10_isTicket.cls ≠ "java/lang/invoke/VarHandle" ∧ (parseMethodDescriptor yX10_isTicket.desc).map (fun d => d.parameters.length) = some 1 := by decide +kernel
def uX10_isTicket : List Cond := List.cons (.code yX10_isTicket cX10_isTicket 3 (some .boolean)) (HAppend.hAppend ([.fieldLink RX10 9 "LuckyTicketModel" "world" "[I", .methodLink RX10 82 yX10_in, .static yX10_in, .initialized RX10] : List Cond) (HAppend.hAppend uX10_in wsX100))
theorem iX10_isTicket_X10 : ∀ w ∈ wsX100, w ∈ uX10_isTicket := fun _ h => (List.mem_cons_of_mem _ (List.mem_append_right _ (List.mem_append_right _ h)))
theorem guX10_isTicket : GU uX10_isTicket := gu_cons (gu_app (by decide +kernel) (gu_ap guX10_in gws_X10))
theorem gX10_isTicket__X10_in_S82 : GoodIn uX10_isTicket (va_wsS RX10 82 yX10_in uX10_in) := gin_S (List.mem_of_getElem? (i := 2) rfl) (List.mem_of_getElem? (i := 3) rfl) (List.mem_of_getElem? (i := 4) rfl) (fun _ h => (List.mem_cons_of_mem _ (List.mem_append_right _ (List.mem_append_left _ h)))) guX10_in
set_option maxHeartbeats 4000000 in
set_option maxRecDepth 100000 in
theorem kX10_isTicket (l : Launch) (dC : Nat → ClassId) (dI : Nat → Nat → Nat) (o0 : Nat) (x_th : Int32) (mwo : Nat) (mim : Nat) (mhi : Nat) (mlu : Nat) (mtp : Nat) (x_td : Int32) (mfv : Nat) (x_sz : Int32) (x_at : Int32) (x_fr : Int32) (x_to : Int32) (x_va : Int32) (x_fk : Int32) (x_fp : Int32) (mfr : Nat) (mwt : Nat) (x_wt : Int32) (x_op : Int32) (x_jo : Int32) (mfg : Nat) (mpl : Nat) (x_dr : Int64) (mtm : Nat) (mfa : Nat) (mqu : Nat) (mmo : Nat) (mwy : Nat) (mwn : Nat) (mma : Nat) (mwi : Nat) (mnu : Nat) (mmv : Nat) (c_wo : ClassId) (w_wo : Nat → Int32) (ln : Int32) (bs : Int32) (tk : Int32) (lw : Int32) (li : Int32) (a1 : Int64) (b_ln : (0 : Int) ≤ ln.toInt ∧ ln.toInt ≤ 12) (b_bs : (0 : Int) ≤ bs.toInt ∧ bs.toInt ≤ 16) (b_tk : (0 : Int) ≤ tk.toInt ∧ tk.toInt ≤ 20000) (b_lw : (0 : Int) ≤ lw.toInt ∧ lw.toInt ≤ 9) (hw0 : w_wo 0 = ln) (hw1 : w_wo 1 = bs) (hw2 : w_wo 2 = tk) (hw3 : w_wo 3 = lw) (hw4 : w_wo 4 = li) (hwz : (ln.toInt = 0 ∧ bs.toInt = 0 ∧ tk.toInt = 0 ∧ lw.toInt = 0) ∨ (1 ≤ ln.toInt ∧ 2 ≤ bs.toInt ∧ 1 ≤ tk.toInt)) : Met l yX10_isTicket uX10_isTicket ({ frames := 1, cells := 0, slots := 0, locals := 25 }) (va_Pc [.ref o0, .long a1] (pw (dC, dI) vwCl [(o0, .inr (8, [.int x_th, .ref mwo, .ref mim, .ref mhi, .ref mlu, .ref mtp, .int x_td, .ref mfv, .int x_sz, .int x_at, .int x_fr, .int x_to, .int x_va, .int x_fk, .int x_fp, .ref mfr, .ref mwt, .int x_wt, .int x_op, .int x_jo, .ref mfg, .ref mpl, .long x_dr, .ref mtm, .ref mfa, .ref mqu, .ref mmo, .ref mwy, .ref mwn, .ref mma, .ref mwi, .ref mnu, .ref mmv])), (mwo, .inl (c_wo, 1875, .inl w_wo))] [(c_wo, .int)])) (vp_Si (fun r => ((0 : Int) ≤ r.toInt ∧ r.toInt ≤ 1) ∧ (r ≠ 0 → ((0 : Int) ≤ a1.toInt ∧ a1.toInt ≤ 19999) ∧ (a1.toInt < tk.toInt)))) 0 0 (fun _ => False) := by
  refine Met.ofW (cc := cX10_isTicket) (maxL := 3) (ret := (some .boolean)) pn_X10 rfl ?_
  intro p e s m args below meth c s₁ B hml hv
  obtain ⟨rfl, hP, hK, hN⟩ := hv
  have hx := B.exec
  have hb := B.bytes
  have hr := B.returns
  have hts := atoms_spec (ws := uX10_isTicket) B.pre
  have hown : s.vm.findClass RX10 = some m.cls := hown_of B.named rfl
  have hlocks := B.notSynchronized
  have hl := lv_entry ([.ref o0, .long a1]) (n := 3) (Nat.le_of_ble_eq_true rfl)
  rw [lg_entry_eq]
  generalize (lg_sl ([.ref o0, .long a1]) ++ List.replicate (3 - (lg_sl ([.ref o0, .long a1])).length) Slot.unset).toArray = ls at hl ⊢
  have hl : lv_has ls 3 [(0, .ref o0), (1, .long a1)] := hl
  refine lv_lload_n hx hb dX10_isTicket_0 rfl (lv_at hl 1 rfl) ?_
  refine lv_lconst (v := 0) hx hb dX10_isTicket_1 (by decide) ?_
  refine lv_aload_n hx hb dX10_isTicket_2 rfl (lv_at hl 0 rfl) ?_
  refine va_get (D := (dC, dI)) (ci := 8) (v := .ref mwo) (C := RX10) (T := TX10) (N := 33) hx hb hts iX10_isTicket_X10 hown hK hP 0 rfl rfl 1 (by decide) (hts (.fieldLink RX10 9 "LuckyTicketModel" "world" "[I") (List.mem_of_getElem? (i := 1) rfl)) (fun _ h9 => h9) rfl dX10_isTicket_3 ?_
  refine lv_iconst (v := 2) hx hb dX10_isTicket_6 (by decide) ?_
  refine va_iald hx hb hK hP 1 0 rfl rfl (vp_in_b (by decide : (2 : Int) ≤ (2 : Int32).toInt ∧ (2 : Int32).toInt ≤ 2) (by decide) (by decide)) dX10_isTicket_7 ?_
  refine lv_topi (fun z_5 e_z_5 => ?_)
  obtain rfl : tk = z_5 := (e_z_5.trans hw2).symm
  refine lv_iconst (v := 1) hx hb dX10_isTicket_8 (by decide) ?_
  refine lv_isub hx hb dX10_isTicket_9 ?_
  refine lv_topi (fun z_6 e_z_6 => ?_)
  obtain ⟨q_z_6, b_z_6⟩ := ti_sub (lo := -1) (hi := 19999) e_z_6 rfl (by decide : (1 : Int32).toInt = 1) b_tk (by decide : (1 : Int) ≤ (1 : Int32).toInt ∧ (1 : Int32).toInt ≤ 1) (by decide)
  obtain ⟨z_7, e_z_7⟩ : ∃ y : Int64, y = z_6.toInt64 := ⟨_, rfl⟩
  refine lv_i2l (v := z_7) hx hb dX10_isTicket_10 e_z_7.symm ?_
  obtain ⟨q_z_7, b_z_7⟩ := ti_i2l e_z_7 b_z_6
  refine vp_callSi (W.runS (As := [.long a1, .long 0, .long z_7]) (rest := []) ⟨hx, hb, hml, hown, hts⟩ (kX10_in l dC dI a1 0 z_7 ) (va_cwS 3 hts gX10_isTicket__X10_in_S82 rfl rfl rfl hd_yX10_in.2 ⟨lel 1 1 rfl, lel 25 25 rfl⟩) ⟨pn_fb, pn_use⟩ rfl rfl hl.1 rfl (lv_room (Nat.le_of_ble_eq_true rfl)) dX10_isTicket_11 ⟨lel 0 0 rfl, lel 0 0 rfl⟩) (fun r_8 h_r_8 => ?_)
  obtain ⟨b_r_8, nz_r_8⟩ := h_r_8
  have b_r_8 : (0 : Int) ≤ r_8.toInt ∧ r_8.toInt ≤ 1 := b_r_8
  exact W.zret (v := r_8) hx hb hr (zn_b b_r_8) (fun t ht hW => ⟨r_8, rfl, ⟨b_r_8, (fun h9 => by have h8 := nz_r_8 h9; have h7 := (by decide : (0 : Int64).toInt = 0); exact ⟨⟨by omega, by omega⟩, (by omega)⟩)⟩, ht⟩) t_nil dX10_isTicket_14
theorem dX10_isPlace_0 : decode cX10_isPlace 0 = .ok (.iload_n 1, 1) := by decide +kernel
theorem dX10_isPlace_1 : decode cX10_isPlace 1 = .ok (.i2l, 1) := by decide +kernel
theorem dX10_isPlace_2 : decode cX10_isPlace 2 = .ok (.lconst 0, 1) := by decide +kernel
theorem dX10_isPlace_3 : decode cX10_isPlace 3 = .ok (.aload_n 0, 1) := by decide +kernel
theorem dX10_isPlace_4 : decode cX10_isPlace 4 = .ok (.getfield 9, 3) := by decide +kernel
theorem dX10_isPlace_7 : decode cX10_isPlace 7 = .ok (.iconst 0, 1) := by decide +kernel
theorem dX10_isPlace_8 : decode cX10_isPlace 8 = .ok (.iaload, 1) := by decide +kernel
theorem dX10_isPlace_9 : decode cX10_isPlace 9 = .ok (.iconst 1, 1) := by decide +kernel
theorem dX10_isPlace_10 : decode cX10_isPlace 10 = .ok (.isub, 1) := by decide +kernel
theorem dX10_isPlace_11 : decode cX10_isPlace 11 = .ok (.i2l, 1) := by decide +kernel
theorem dX10_isPlace_12 : decode cX10_isPlace 12 = .ok (.invokestatic 82, 3) := by decide +kernel
theorem dX10_isPlace_15 : decode cX10_isPlace 15 = .ok (.ireturn, 1) := by decide +kernel
theorem hd_yX10_isPlace : yX10_isPlace.cls = RX10 ∧ yX10_isPlace.cls ≠ "java/lang/invoke/MethodHandle" ∧ yX10_isPlace.cls ≠ "java/lang/invoke/VarHandle" ∧ (parseMethodDescriptor yX10_isPlace.desc).map (fun d => d.parameters.length) = some 1 := by decide +kernel
def uX10_isPlace : List Cond := List.cons (.code yX10_isPlace cX10_isPlace 2 (some .boolean)) (HAppend.hAppend ([.fieldLink RX10 9 "LuckyTicketModel" "world" "[I", .methodLink RX10 82 yX10_in, .static yX10_in, .initialized RX10] : List Cond) (HAppend.hAppend uX10_in wsX100))
theorem iX10_isPlace_X10 : ∀ w ∈ wsX100, w ∈ uX10_isPlace := fun _ h => (List.mem_cons_of_mem _ (List.mem_append_right _ (List.mem_append_right _ h)))
theorem guX10_isPlace : GU uX10_isPlace := gu_cons (gu_app (by decide +kernel) (gu_ap guX10_in gws_X10))
theorem gX10_isPlace__X10_in_S82 : GoodIn uX10_isPlace (va_wsS RX10 82 yX10_in uX10_in) := gin_S (List.mem_of_getElem? (i := 2) rfl) (List.mem_of_getElem? (i := 3) rfl) (List.mem_of_getElem? (i := 4) rfl) (fun _ h => (List.mem_cons_of_mem _ (List.mem_append_right _ (List.mem_append_left _ h)))) guX10_in
set_option maxHeartbeats 4000000 in
set_option maxRecDepth 100000 in
theorem kX10_isPlace (l : Launch) (dC : Nat → ClassId) (dI : Nat → Nat → Nat) (o0 : Nat) (x_th : Int32) (mwo : Nat) (mim : Nat) (mhi : Nat) (mlu : Nat) (mtp : Nat) (x_td : Int32) (mfv : Nat) (x_sz : Int32) (x_at : Int32) (x_fr : Int32) (x_to : Int32) (x_va : Int32) (x_fk : Int32) (x_fp : Int32) (mfr : Nat) (mwt : Nat) (x_wt : Int32) (x_op : Int32) (x_jo : Int32) (mfg : Nat) (mpl : Nat) (x_dr : Int64) (mtm : Nat) (mfa : Nat) (mqu : Nat) (mmo : Nat) (mwy : Nat) (mwn : Nat) (mma : Nat) (mwi : Nat) (mnu : Nat) (mmv : Nat) (c_wo : ClassId) (w_wo : Nat → Int32) (ln : Int32) (bs : Int32) (tk : Int32) (lw : Int32) (li : Int32) (a1 : Int32) (b_ln : (0 : Int) ≤ ln.toInt ∧ ln.toInt ≤ 12) (b_bs : (0 : Int) ≤ bs.toInt ∧ bs.toInt ≤ 16) (b_tk : (0 : Int) ≤ tk.toInt ∧ tk.toInt ≤ 20000) (b_lw : (0 : Int) ≤ lw.toInt ∧ lw.toInt ≤ 9) (hw0 : w_wo 0 = ln) (hw1 : w_wo 1 = bs) (hw2 : w_wo 2 = tk) (hw3 : w_wo 3 = lw) (hw4 : w_wo 4 = li) (hwz : (ln.toInt = 0 ∧ bs.toInt = 0 ∧ tk.toInt = 0 ∧ lw.toInt = 0) ∨ (1 ≤ ln.toInt ∧ 2 ≤ bs.toInt ∧ 1 ≤ tk.toInt)) : Met l yX10_isPlace uX10_isPlace ({ frames := 1, cells := 0, slots := 0, locals := 25 }) (va_Pc [.ref o0, .int a1] (pw (dC, dI) vwCl [(o0, .inr (8, [.int x_th, .ref mwo, .ref mim, .ref mhi, .ref mlu, .ref mtp, .int x_td, .ref mfv, .int x_sz, .int x_at, .int x_fr, .int x_to, .int x_va, .int x_fk, .int x_fp, .ref mfr, .ref mwt, .int x_wt, .int x_op, .int x_jo, .ref mfg, .ref mpl, .long x_dr, .ref mtm, .ref mfa, .ref mqu, .ref mmo, .ref mwy, .ref mwn, .ref mma, .ref mwi, .ref mnu, .ref mmv])), (mwo, .inl (c_wo, 1875, .inl w_wo))] [(c_wo, .int)])) (vp_Si (fun r => ((0 : Int) ≤ r.toInt ∧ r.toInt ≤ 1) ∧ (r ≠ 0 → ((0 : Int) ≤ a1.toInt ∧ a1.toInt ≤ 11) ∧ (a1.toInt < ln.toInt)))) 0 0 (fun _ => False) := by
  refine Met.ofW (cc := cX10_isPlace) (maxL := 2) (ret := (some .boolean)) pn_X10 rfl ?_
  intro p e s m args below meth c s₁ B hml hv
  obtain ⟨rfl, hP, hK, hN⟩ := hv
  have hx := B.exec
  have hb := B.bytes
  have hr := B.returns
  have hts := atoms_spec (ws := uX10_isPlace) B.pre
  have hown : s.vm.findClass RX10 = some m.cls := hown_of B.named rfl
  have hlocks := B.notSynchronized
  have hl := lv_entry ([.ref o0, .int a1]) (n := 2) (Nat.le_of_ble_eq_true rfl)
  rw [lg_entry_eq]
  generalize (lg_sl ([.ref o0, .int a1]) ++ List.replicate (2 - (lg_sl ([.ref o0, .int a1])).length) Slot.unset).toArray = ls at hl ⊢
  have hl : lv_has ls 2 [(0, .ref o0), (1, .int a1)] := hl
  refine lv_iload_n hx hb dX10_isPlace_0 rfl (lv_at hl 1 rfl) ?_
  obtain ⟨z_6, e_z_6⟩ : ∃ y : Int64, y = a1.toInt64 := ⟨_, rfl⟩
  refine lv_i2l (v := z_6) hx hb dX10_isPlace_1 e_z_6.symm ?_
  obtain ⟨q_z_6, b_z_6⟩ := ti_i2l e_z_6 (ti_rng a1)
  refine lv_lconst (v := 0) hx hb dX10_isPlace_2 (by decide) ?_
  refine lv_aload_n hx hb dX10_isPlace_3 rfl (lv_at hl 0 rfl) ?_
  refine va_get (D := (dC, dI)) (ci := 8) (v := .ref mwo) (C := RX10) (T := TX10) (N := 33) hx hb hts iX10_isPlace_X10 hown hK hP 0 rfl rfl 1 (by decide) (hts (.fieldLink RX10 9 "LuckyTicketModel" "world" "[I") (List.mem_of_getElem? (i := 1) rfl)) (fun _ h9 => h9) rfl dX10_isPlace_4 ?_
  refine lv_iconst (v := 0) hx hb dX10_isPlace_7 (by decide) ?_
  refine va_iald hx hb hK hP 1 0 rfl rfl (vp_in_b (by decide : (0 : Int) ≤ (0 : Int32).toInt ∧ (0 : Int32).toInt ≤ 0) (by decide) (by decide)) dX10_isPlace_8 ?_
  refine lv_topi (fun z_7 e_z_7 => ?_)
  obtain rfl : ln = z_7 := (e_z_7.trans hw0).symm
  refine lv_iconst (v := 1) hx hb dX10_isPlace_9 (by decide) ?_
  refine lv_isub hx hb dX10_isPlace_10 ?_
  refine lv_topi (fun z_8 e_z_8 => ?_)
  obtain ⟨q_z_8, b_z_8⟩ := ti_sub (lo := -1) (hi := 11) e_z_8 rfl (by decide : (1 : Int32).toInt = 1) b_ln (by decide : (1 : Int) ≤ (1 : Int32).toInt ∧ (1 : Int32).toInt ≤ 1) (by decide)
  obtain ⟨z_9, e_z_9⟩ : ∃ y : Int64, y = z_8.toInt64 := ⟨_, rfl⟩
  refine lv_i2l (v := z_9) hx hb dX10_isPlace_11 e_z_9.symm ?_
  obtain ⟨q_z_9, b_z_9⟩ := ti_i2l e_z_9 b_z_8
  refine vp_callSi (W.runS (As := [.long z_6, .long 0, .long z_9]) (rest := []) ⟨hx, hb, hml, hown, hts⟩ (kX10_in l dC dI z_6 0 z_9 ) (va_cwS 3 hts gX10_isPlace__X10_in_S82 rfl rfl rfl hd_yX10_in.2 ⟨lel 1 1 rfl, lel 25 25 rfl⟩) ⟨pn_fb, pn_use⟩ rfl rfl hl.1 rfl (lv_room (Nat.le_of_ble_eq_true rfl)) dX10_isPlace_12 ⟨lel 0 0 rfl, lel 0 0 rfl⟩) (fun r_10 h_r_10 => ?_)
  obtain ⟨b_r_10, nz_r_10⟩ := h_r_10
  have b_r_10 : (0 : Int) ≤ r_10.toInt ∧ r_10.toInt ≤ 1 := b_r_10
  exact W.zret (v := r_10) hx hb hr (zn_b b_r_10) (fun t ht hW => ⟨r_10, rfl, ⟨b_r_10, (fun h9 => by have h8 := nz_r_10 h9; have h7 := (by decide : (0 : Int64).toInt = 0); exact ⟨⟨by omega, by omega⟩, (by omega)⟩)⟩, ht⟩) t_nil dX10_isPlace_15
theorem dX10_isBoth_0 : decode cX10_isBoth 0 = .ok (.aload_n 0, 1) := by decide +kernel
theorem dX10_isBoth_1 : decode cX10_isBoth 1 = .ok (.iload_n 1, 1) := by decide +kernel
theorem dX10_isBoth_2 : decode cX10_isBoth 2 = .ok (.invokevirtual 89, 3) := by decide +kernel
theorem dX10_isBoth_5 : decode cX10_isBoth 5 = .ok (.ifCond .eq 16, 3) := by decide +kernel
theorem dX10_isBoth_8 : decode cX10_isBoth 8 = .ok (.aload_n 0, 1) := by decide +kernel
theorem dX10_isBoth_9 : decode cX10_isBoth 9 = .ok (.iload_n 2, 1) := by decide +kernel
theorem dX10_isBoth_10 : decode cX10_isBoth 10 = .ok (.i2l, 1) := by decide +kernel
theorem dX10_isBoth_11 : decode cX10_isBoth 11 = .ok (.invokevirtual 93, 3) := by decide +kernel
theorem dX10_isBoth_14 : decode cX10_isBoth 14 = .ok (.ifCond .eq 7, 3) := by decide +kernel
theorem dX10_isBoth_17 : decode cX10_isBoth 17 = .ok (.iconst 1, 1) := by decide +kernel
theorem dX10_isBoth_18 : decode cX10_isBoth 18 = .ok (.goto 4, 3) := by decide +kernel
theorem dX10_isBoth_21 : decode cX10_isBoth 21 = .ok (.iconst 0, 1) := by decide +kernel
theorem dX10_isBoth_22 : decode cX10_isBoth 22 = .ok (.ireturn, 1) := by decide +kernel
theorem hd_yX10_isBoth : yX10_isBoth.cls = RX10 ∧ yX10_isBoth.cls ≠ "java/lang/invoke/MethodHandle" ∧ yX10_isBoth.cls ≠ "java/lang/invoke/VarHandle" ∧ (parseMethodDescriptor yX10_isBoth.desc).map (fun d => d.parameters.length) = some 2 := by decide +kernel
def uX10_isBoth : List Cond := List.cons (.code yX10_isBoth cX10_isBoth 3 (some .boolean)) (HAppend.hAppend ([.methodLink RX10 89 yX10_isLaw, .instanceMethod yX10_isLaw, .selects RX10 yX10_isLaw yX10_isLaw, .initialized RX10, .methodLink RX10 93 yX10_isTicket, .instanceMethod yX10_isTicket, .selects RX10 yX10_isTicket yX10_isTicket] : List Cond) (HAppend.hAppend uX10_isLaw uX10_isTicket))
theorem guX10_isBoth : GU uX10_isBoth := gu_cons (gu_app (by decide +kernel) (gu_ap guX10_isLaw guX10_isTicket))
theorem gX10_isBoth__X10_isLaw_V89 : GoodIn uX10_isBoth (wsV RX10 89 RX10 yX10_isLaw uX10_isLaw) := gin_V (List.mem_of_getElem? (i := 1) rfl) (List.mem_of_getElem? (i := 2) rfl) (List.mem_of_getElem? (i := 3) rfl) (List.mem_of_getElem? (i := 4) rfl) (fun _ h => (List.mem_cons_of_mem _ (List.mem_append_right _ (List.mem_append_left _ h)))) guX10_isLaw
theorem gX10_isBoth__X10_isTicket_V93 : GoodIn uX10_isBoth (wsV RX10 93 RX10 yX10_isTicket uX10_isTicket) := gin_V (List.mem_of_getElem? (i := 5) rfl) (List.mem_of_getElem? (i := 6) rfl) (List.mem_of_getElem? (i := 7) rfl) (List.mem_of_getElem? (i := 4) rfl) (fun _ h => (List.mem_cons_of_mem _ (List.mem_append_right _ (List.mem_append_right _ h)))) guX10_isTicket
set_option maxHeartbeats 4000000 in
set_option maxRecDepth 100000 in
theorem kX10_isBoth (l : Launch) (dC : Nat → ClassId) (dI : Nat → Nat → Nat) (o0 : Nat) (x_th : Int32) (mwo : Nat) (mim : Nat) (mhi : Nat) (mlu : Nat) (mtp : Nat) (x_td : Int32) (mfv : Nat) (x_sz : Int32) (x_at : Int32) (x_fr : Int32) (x_to : Int32) (x_va : Int32) (x_fk : Int32) (x_fp : Int32) (mfr : Nat) (mwt : Nat) (x_wt : Int32) (x_op : Int32) (x_jo : Int32) (mfg : Nat) (mpl : Nat) (x_dr : Int64) (mtm : Nat) (mfa : Nat) (mqu : Nat) (mmo : Nat) (mwy : Nat) (mwn : Nat) (mma : Nat) (mwi : Nat) (mnu : Nat) (mmv : Nat) (c_wo : ClassId) (w_wo : Nat → Int32) (ln : Int32) (bs : Int32) (tk : Int32) (lw : Int32) (li : Int32) (a1 : Int32) (a2 : Int32) (b_ln : (0 : Int) ≤ ln.toInt ∧ ln.toInt ≤ 12) (b_bs : (0 : Int) ≤ bs.toInt ∧ bs.toInt ≤ 16) (b_tk : (0 : Int) ≤ tk.toInt ∧ tk.toInt ≤ 20000) (b_lw : (0 : Int) ≤ lw.toInt ∧ lw.toInt ≤ 9) (hw0 : w_wo 0 = ln) (hw1 : w_wo 1 = bs) (hw2 : w_wo 2 = tk) (hw3 : w_wo 3 = lw) (hw4 : w_wo 4 = li) (hwz : (ln.toInt = 0 ∧ bs.toInt = 0 ∧ tk.toInt = 0 ∧ lw.toInt = 0) ∨ (1 ≤ ln.toInt ∧ 2 ≤ bs.toInt ∧ 1 ≤ tk.toInt)) : Met l yX10_isBoth uX10_isBoth ({ frames := 2, cells := 0, slots := 0, locals := 47 }) (va_Pc [.ref o0, .int a1, .int a2] (pw (dC, dI) vwCl [(o0, .inr (8, [.int x_th, .ref mwo, .ref mim, .ref mhi, .ref mlu, .ref mtp, .int x_td, .ref mfv, .int x_sz, .int x_at, .int x_fr, .int x_to, .int x_va, .int x_fk, .int x_fp, .ref mfr, .ref mwt, .int x_wt, .int x_op, .int x_jo, .ref mfg, .ref mpl, .long x_dr, .ref mtm, .ref mfa, .ref mqu, .ref mmo, .ref mwy, .ref mwn, .ref mma, .ref mwi, .ref mnu, .ref mmv])), (mwo, .inl (c_wo, 1875, .inl w_wo))] [(c_wo, .int)])) (vp_Si (fun r => ((0 : Int) ≤ r.toInt ∧ r.toInt ≤ 1) ∧ (r ≠ 0 → ((0 : Int) ≤ a1.toInt ∧ a1.toInt ≤ 8) ∧ ((0 : Int) ≤ a2.toInt ∧ a2.toInt ≤ 19999) ∧ (a1.toInt < lw.toInt ∧ a2.toInt < tk.toInt)))) 0 0 (fun _ => False) := by
  refine Met.ofW (cc := cX10_isBoth) (maxL := 3) (ret := (some .boolean)) pn_X10 rfl ?_
  intro p e s m args below meth c s₁ B hml hv
  obtain ⟨rfl, hP, hK, hN⟩ := hv
  have hx := B.exec
  have hb := B.bytes
  have hr := B.returns
  have hts := atoms_spec (ws := uX10_isBoth) B.pre
  have hown : s.vm.findClass RX10 = some m.cls := hown_of B.named rfl
  have hlocks := B.notSynchronized
  have hl := lv_entry ([.ref o0, .int a1, .int a2]) (n := 3) (Nat.le_of_ble_eq_true rfl)
  rw [lg_entry_eq]
  generalize (lg_sl ([.ref o0, .int a1, .int a2]) ++ List.replicate (3 - (lg_sl ([.ref o0, .int a1, .int a2])).length) Slot.unset).toArray = ls at hl ⊢
  have hl : lv_has ls 3 [(0, .ref o0), (1, .int a1), (2, .int a2)] := hl
  refine lv_aload_n hx hb dX10_isBoth_0 rfl (lv_at hl 0 rfl) ?_
  refine lv_iload_n hx hb dX10_isBoth_1 rfl (lv_at hl 1 rfl) ?_
  refine vp_callSi (W.runV (As := [.int a1]) (rest := []) ⟨hx, hb, hml, hown, hts⟩ (kX10_isLaw l dC dI o0 x_th mwo mim mhi mlu mtp x_td mfv x_sz x_at x_fr x_to x_va x_fk x_fp mfr mwt x_wt x_op x_jo mfg mpl x_dr mtm mfa mqu mmo mwy mwn mma mwi mnu mmv c_wo w_wo ln bs tk lw li a1 b_ln b_bs b_tk b_lw (hw0) (hw1) (hw2) (hw3) (hw4) (hwz)) (cwV 1 hts gX10_isBoth__X10_isLaw_V89 rfl rfl rfl hd_yX10_isLaw ⟨lel 2 2 rfl, lel 46 47 rfl⟩) ⟨pw_fb, rcv_X10 hK hP (q0 := 0) rfl, (pw_use hP hK hN [0, 1] rfl [0] rfl)⟩ rfl rfl hl.1 rfl (lv_room (Nat.le_of_ble_eq_true rfl)) dX10_isBoth_2 ⟨lel 0 0 rfl, lel 0 0 rfl⟩) (fun r_8 h_r_8 => ?_)
  obtain ⟨b_r_8, nz_r_8⟩ := h_r_8
  have b_r_8 : (0 : Int) ≤ r_8.toInt ∧ r_8.toInt ≤ 1 := b_r_8
  refine lv_if_eq (tgt := 21) hx hb dX10_isBoth_5 (by decide) (fun c_9 => ?_) (fun c_9 => ?_)
  ·
    have n_c_9 : (r_8.toInt : Int) = 0 := c_eq rfl (by decide) c_9
    have b_r_8 : (0 : Int) ≤ r_8.toInt ∧ r_8.toInt ≤ 0 := r_eq1 b_r_8 (by decide : (0 : Int) ≤ (0 : Int32).toInt ∧ (0 : Int32).toInt ≤ 0) n_c_9 (by decide)
    refine lv_iconst (v := 0) hx hb dX10_isBoth_21 (by decide) ?_
    exact W.zret (v := 0) hx hb hr rfl (fun t ht hW => ⟨0, rfl, ⟨(rg_w (by decide : (0 : Int) ≤ (0 : Int32).toInt ∧ (0 : Int32).toInt ≤ 0) (by decide) (by decide)), (fun h9 => absurd rfl h9)⟩, ht⟩) t_nil dX10_isBoth_22
  ·
    have n_c_9 : (r_8.toInt : Int) ≠ 0 := c_ne rfl (by decide) c_9
    have b_r_8 : (1 : Int) ≤ r_8.toInt ∧ r_8.toInt ≤ 1 := r_ne1 b_r_8 (by decide : (0 : Int) ≤ (0 : Int32).toInt ∧ (0 : Int32).toInt ≤ 0) n_c_9 (by decide)
    obtain ⟨b_a1, g_10⟩ := nz_r_8 c_9
    refine lv_aload_n hx hb dX10_isBoth_8 rfl (lv_at hl 0 rfl) ?_
    refine lv_iload_n hx hb dX10_isBoth_9 rfl (lv_at hl 2 rfl) ?_
    obtain ⟨z_11, e_z_11⟩ : ∃ y : Int64, y = a2.toInt64 := ⟨_, rfl⟩
    refine lv_i2l (v := z_11) hx hb dX10_isBoth_10 e_z_11.symm ?_
    obtain ⟨q_z_11, b_z_11⟩ := ti_i2l e_z_11 (ti_rng a2)
    refine vp_callSi (W.runV (As := [.long z_11]) (rest := []) ⟨hx, hb, hml, hown, hts⟩ (kX10_isTicket l dC dI o0 x_th mwo mim mhi mlu mtp x_td mfv x_sz x_at x_fr x_to x_va x_fk x_fp mfr mwt x_wt x_op x_jo mfg mpl x_dr mtm mfa mqu mmo mwy mwn mma mwi mnu mmv c_wo w_wo ln bs tk lw li z_11 b_ln b_bs b_tk b_lw (hw0) (hw1) (hw2) (hw3) (hw4) (hwz)) (cwV 1 hts gX10_isBoth__X10_isTicket_V93 rfl rfl rfl hd_yX10_isTicket ⟨lel 2 2 rfl, lel 47 47 rfl⟩) ⟨pw_fb, rcv_X10 hK hP (q0 := 0) rfl, (pw_use hP hK hN [0, 1] rfl [0] rfl)⟩ rfl rfl hl.1 rfl (lv_room (Nat.le_of_ble_eq_true rfl)) dX10_isBoth_11 ⟨lel 0 0 rfl, lel 0 0 rfl⟩) (fun r_12 h_r_12 => ?_)
    obtain ⟨b_r_12, nz_r_12⟩ := h_r_12
    have b_r_12 : (0 : Int) ≤ r_12.toInt ∧ r_12.toInt ≤ 1 := b_r_12
    refine lv_if_eq (tgt := 21) hx hb dX10_isBoth_14 (by decide) (fun c_13 => ?_) (fun c_13 => ?_)
    ·
      have n_c_13 : (r_12.toInt : Int) = 0 := c_eq rfl (by decide) c_13
      have b_r_12 : (0 : Int) ≤ r_12.toInt ∧ r_12.toInt ≤ 0 := r_eq1 b_r_12 (by decide : (0 : Int) ≤ (0 : Int32).toInt ∧ (0 : Int32).toInt ≤ 0) n_c_13 (by decide)
      refine lv_iconst (v := 0) hx hb dX10_isBoth_21 (by decide) ?_
      exact W.zret (v := 0) hx hb hr rfl (fun t ht hW => ⟨0, rfl, ⟨(rg_w (by decide : (0 : Int) ≤ (0 : Int32).toInt ∧ (0 : Int32).toInt ≤ 0) (by decide) (by decide)), (fun h9 => absurd rfl h9)⟩, ht⟩) t_nil dX10_isBoth_22
    ·
      have n_c_13 : (r_12.toInt : Int) ≠ 0 := c_ne rfl (by decide) c_13
      have b_r_12 : (1 : Int) ≤ r_12.toInt ∧ r_12.toInt ≤ 1 := r_ne1 b_r_12 (by decide : (0 : Int) ≤ (0 : Int32).toInt ∧ (0 : Int32).toInt ≤ 0) n_c_13 (by decide)
      obtain ⟨b_z_11, g_14⟩ := nz_r_12 c_13
      have b_a2 : (0 : Int) ≤ a2.toInt ∧ a2.toInt ≤ 19999 := by
        have q0 := b_z_11; have q1 := q_z_11; have q2 := (ti_rng a2); omega
      refine lv_iconst (v := 1) hx hb dX10_isBoth_17 (by decide) ?_
      refine lv_goto (tgt := 22) hx hb dX10_isBoth_18 (by decide) ?_
      exact W.zret (v := 1) hx hb hr rfl (fun t ht hW => ⟨1, rfl, ⟨(rg_w (by decide : (1 : Int) ≤ (1 : Int32).toInt ∧ (1 : Int32).toInt ≤ 1) (by decide) (by decide)), (fun _ => ⟨⟨by omega, by omega⟩, ⟨by omega, by omega⟩, (by omega)⟩)⟩, ht⟩) t_nil dX10_isBoth_22
theorem dX10_isLucky_0 : decode cX10_isLucky 0 = .ok (.aload_n 0, 1) := by decide +kernel
theorem dX10_isLucky_1 : decode cX10_isLucky 1 = .ok (.getfield 20, 3) := by decide +kernel
theorem dX10_isLucky_4 : decode cX10_isLucky 4 = .ok (.iload_n 2, 1) := by decide +kernel
theorem dX10_isLucky_5 : decode cX10_isLucky 5 = .ok (.iaload, 1) := by decide +kernel
theorem dX10_isLucky_6 : decode cX10_isLucky 6 = .ok (.iload_n 1, 1) := by decide +kernel
theorem dX10_isLucky_7 : decode cX10_isLucky 7 = .ok (.ishr, 1) := by decide +kernel
theorem dX10_isLucky_8 : decode cX10_isLucky 8 = .ok (.iconst 1, 1) := by decide +kernel
theorem dX10_isLucky_9 : decode cX10_isLucky 9 = .ok (.iand, 1) := by decide +kernel
theorem dX10_isLucky_10 : decode cX10_isLucky 10 = .ok (.iconst 1, 1) := by decide +kernel
theorem dX10_isLucky_11 : decode cX10_isLucky 11 = .ok (.if_icmp .ne 7, 3) := by decide +kernel
theorem dX10_isLucky_14 : decode cX10_isLucky 14 = .ok (.iconst 1, 1) := by decide +kernel
theorem dX10_isLucky_15 : decode cX10_isLucky 15 = .ok (.goto 4, 3) := by decide +kernel
theorem dX10_isLucky_18 : decode cX10_isLucky 18 = .ok (.iconst 0, 1) := by decide +kernel
theorem dX10_isLucky_19 : decode cX10_isLucky 19 = .ok (.ireturn, 1) := by decide +kernel
theorem hd_yX10_isLucky : yX10_isLucky.cls = RX10 ∧ yX10_isLucky.cls ≠ "java/lang/invoke/MethodHandle" ∧ yX10_isLucky.cls ≠ "java/lang/invoke/VarHandle" ∧ (parseMethodDescriptor yX10_isLucky.desc).map (fun d => d.parameters.length) = some 2 := by decide +kernel
def uX10_isLucky : List Cond := List.cons (.code yX10_isLucky cX10_isLucky 3 (some .boolean)) (HAppend.hAppend ([.fieldLink RX10 20 "LuckyTicketModel" "luck" "[I"] : List Cond) wsX100)
theorem iX10_isLucky_X10 : ∀ w ∈ wsX100, w ∈ uX10_isLucky := fun _ h => (List.mem_cons_of_mem _ (List.mem_append_right _ h))
theorem guX10_isLucky : GU uX10_isLucky := gu_cons (gu_app (by decide +kernel) gws_X10)
set_option maxHeartbeats 4000000 in
set_option maxRecDepth 100000 in
theorem kX10_isLucky (l : Launch) (dC : Nat → ClassId) (dI : Nat → Nat → Nat) (o0 : Nat) (x_th : Int32) (mwo : Nat) (mim : Nat) (mhi : Nat) (mlu : Nat) (mtp : Nat) (x_td : Int32) (mfv : Nat) (x_sz : Int32) (x_at : Int32) (x_fr : Int32) (x_to : Int32) (x_va : Int32) (x_fk : Int32) (x_fp : Int32) (mfr : Nat) (mwt : Nat) (x_wt : Int32) (x_op : Int32) (x_jo : Int32) (mfg : Nat) (mpl : Nat) (x_dr : Int64) (mtm : Nat) (mfa : Nat) (mqu : Nat) (mmo : Nat) (mwy : Nat) (mwn : Nat) (mma : Nat) (mwi : Nat) (mnu : Nat) (mmv : Nat) (c_wo : ClassId) (c_lu : ClassId) (w_wo : Nat → Int32) (w_lu : Nat → Int32) (ln : Int32) (bs : Int32) (tk : Int32) (lw : Int32) (li : Int32) (a1 : Int32) (a2 : Int32) (b_ln : (0 : Int) ≤ ln.toInt ∧ ln.toInt ≤ 12) (b_bs : (0 : Int) ≤ bs.toInt ∧ bs.toInt ≤ 16) (b_tk : (0 : Int) ≤ tk.toInt ∧ tk.toInt ≤ 20000) (b_lw : (0 : Int) ≤ lw.toInt ∧ lw.toInt ≤ 9) (b_a2 : (0 : Int) ≤ a2.toInt ∧ a2.toInt ≤ 19999) (hw0 : w_wo 0 = ln) (hw1 : w_wo 1 = bs) (hw2 : w_wo 2 = tk) (hw3 : w_wo 3 = lw) (hw4 : w_wo 4 = li) (hwz : (ln.toInt = 0 ∧ bs.toInt = 0 ∧ tk.toInt = 0 ∧ lw.toInt = 0) ∨ (1 ≤ ln.toInt ∧ 2 ≤ bs.toInt ∧ 1 ≤ tk.toInt)) : Met l yX10_isLucky uX10_isLucky ({ frames := 0, cells := 0, slots := 0, locals := 0 }) (va_Pc [.ref o0, .int a1, .int a2] (pw (dC, dI) vwCl [(o0, .inr (8, [.int x_th, .ref mwo, .ref mim, .ref mhi, .ref mlu, .ref mtp, .int x_td, .ref mfv, .int x_sz, .int x_at, .int x_fr, .int x_to, .int x_va, .int x_fk, .int x_fp, .ref mfr, .ref mwt, .int x_wt, .int x_op, .int x_jo, .ref mfg, .ref mpl, .long x_dr, .ref mtm, .ref mfa, .ref mqu, .ref mmo, .ref mwy, .ref mwn, .ref mma, .ref mwi, .ref mnu, .ref mmv])), (mwo, .inl (c_wo, 1875, .inl w_wo)), (mlu, .inl (c_lu, 20000, .inl w_lu))] [(c_wo, .int), (c_lu, .int)])) (vp_Si (fun r => ((0 : Int) ≤ r.toInt ∧ r.toInt ≤ 1))) 0 0 (fun _ => False) := by
  refine Met.ofW (cc := cX10_isLucky) (maxL := 3) (ret := (some .boolean)) pn_X10 rfl ?_
  intro p e s m args below meth c s₁ B hml hv
  obtain ⟨rfl, hP, hK, hN⟩ := hv
  have hx := B.exec
  have hb := B.bytes
  have hr := B.returns
  have hts := atoms_spec (ws := uX10_isLucky) B.pre
  have hown : s.vm.findClass RX10 = some m.cls := hown_of B.named rfl
  have hlocks := B.notSynchronized
  have hl := lv_entry ([.ref o0, .int a1, .int a2]) (n := 3) (Nat.le_of_ble_eq_true rfl)
  rw [lg_entry_eq]
  generalize (lg_sl ([.ref o0, .int a1, .int a2]) ++ List.replicate (3 - (lg_sl ([.ref o0, .int a1, .int a2])).length) Slot.unset).toArray = ls at hl ⊢
  have hl : lv_has ls 3 [(0, .ref o0), (1, .int a1), (2, .int a2)] := hl
  refine lv_aload_n hx hb dX10_isLucky_0 rfl (lv_at hl 0 rfl) ?_
  refine va_get (D := (dC, dI)) (ci := 8) (v := .ref mlu) (C := RX10) (T := TX10) (N := 33) hx hb hts iX10_isLucky_X10 hown hK hP 0 rfl rfl 4 (by decide) (hts (.fieldLink RX10 20 "LuckyTicketModel" "luck" "[I") (List.mem_of_getElem? (i := 1) rfl)) (fun _ h9 => h9) rfl dX10_isLucky_1 ?_
  refine lv_iload_n hx hb dX10_isLucky_4 rfl (lv_at hl 2 rfl) ?_
  refine va_iald hx hb hK hP 2 1 rfl rfl (vp_in_b b_a2 (by decide) (by decide)) dX10_isLucky_5 ?_
  refine lv_topi (fun z_5 e_z_5 => ?_)
  refine lv_iload_n hx hb dX10_isLucky_6 rfl (lv_at hl 1 rfl) ?_
  refine lv_ishr hx hb dX10_isLucky_7 ?_
  refine lv_topi (fun z_6 e_z_6 => ?_)
  refine lv_iconst (v := 1) hx hb dX10_isLucky_8 (by decide) ?_
  refine lv_iand hx hb dX10_isLucky_9 ?_
  refine lv_topi (fun z_7 e_z_7 => ?_)
  have b_z_7 : (0 : Int) ≤ z_7.toInt ∧ z_7.toInt ≤ 1 := ti_and (k := 1) e_z_7 (by decide) (by decide) (by decide)
  refine lv_iconst (v := 1) hx hb dX10_isLucky_10 (by decide) ?_
  refine lv_icmp_ne (tgt := 18) hx hb dX10_isLucky_11 (by decide) (fun c_8 => ?_) (fun c_8 => ?_)
  ·
    have n_c_8 : (z_7.toInt : Int) ≠ 1 := c_ne rfl (by decide) c_8
    have b_z_7 : (0 : Int) ≤ z_7.toInt ∧ z_7.toInt ≤ 0 := r_ne2 b_z_7 (by decide : (1 : Int) ≤ (1 : Int32).toInt ∧ (1 : Int32).toInt ≤ 1) n_c_8 (by decide)
    refine lv_iconst (v := 0) hx hb dX10_isLucky_18 (by decide) ?_
    exact W.zret (v := 0) hx hb hr rfl (fun t ht hW => ⟨0, rfl, (rg_w (by decide : (0 : Int) ≤ (0 : Int32).toInt ∧ (0 : Int32).toInt ≤ 0) (by decide) (by decide)), ht⟩) t_nil dX10_isLucky_19
  ·
    have n_c_8 : (z_7.toInt : Int) = 1 := c_eq rfl (by decide) c_8
    have b_z_7 : (1 : Int) ≤ z_7.toInt ∧ z_7.toInt ≤ 1 := r_eq1 b_z_7 (by decide : (1 : Int) ≤ (1 : Int32).toInt ∧ (1 : Int32).toInt ≤ 1) n_c_8 (by decide)
    refine lv_iconst (v := 1) hx hb dX10_isLucky_14 (by decide) ?_
    refine lv_goto (tgt := 19) hx hb dX10_isLucky_15 (by decide) ?_
    exact W.zret (v := 1) hx hb hr rfl (fun t ht hW => ⟨1, rfl, (rg_w (by decide : (1 : Int) ≤ (1 : Int32).toInt ∧ (1 : Int32).toInt ≤ 1) (by decide) (by decide)), ht⟩) t_nil dX10_isLucky_19
theorem dX10_isStep_0 : decode cX10_isStep 0 = .ok (.iload_n 0, 1) := by decide +kernel
theorem dX10_isStep_1 : decode cX10_isStep 1 = .ok (.i2l, 1) := by decide +kernel
theorem dX10_isStep_2 : decode cX10_isStep 2 = .ok (.lconst 1, 1) := by decide +kernel
theorem dX10_isStep_3 : decode cX10_isStep 3 = .ok (.ldc2_w 334, 3) := by decide +kernel
theorem dX10_isStep_6 : decode cX10_isStep 6 = .ok (.invokestatic 82, 3) := by decide +kernel
theorem dX10_isStep_9 : decode cX10_isStep 9 = .ok (.ireturn, 1) := by decide +kernel
theorem hd_yX10_isStep : yX10_isStep.cls = RX10 ∧ yX10_isStep.cls ≠ "java/lang/invoke/MethodHandle" ∧ yX10_isStep.cls ≠ "java/lang/invoke/VarHandle" ∧ (parseMethodDescriptor yX10_isStep.desc).map (fun d => d.parameters.length) = some 1 := by decide +kernel
def uX10_isStep : List Cond := List.cons (.code yX10_isStep cX10_isStep 1 (some .boolean)) (HAppend.hAppend ([.constantLong RX10 334 (9999), .methodLink RX10 82 yX10_in, .static yX10_in, .initialized RX10] : List Cond) uX10_in)
theorem guX10_isStep : GU uX10_isStep := gu_cons (gu_app (by decide +kernel) guX10_in)
theorem gX10_isStep__X10_in_S82 : GoodIn uX10_isStep (va_wsS RX10 82 yX10_in uX10_in) := gin_S (List.mem_of_getElem? (i := 2) rfl) (List.mem_of_getElem? (i := 3) rfl) (List.mem_of_getElem? (i := 4) rfl) (fun _ h => (List.mem_cons_of_mem _ (List.mem_append_right _ h))) guX10_in
set_option maxHeartbeats 4000000 in
set_option maxRecDepth 100000 in
theorem kX10_isStep (l : Launch) (dC : Nat → ClassId) (dI : Nat → Nat → Nat) (a1 : Int32) : Met l yX10_isStep uX10_isStep ({ frames := 1, cells := 0, slots := 0, locals := 25 }) (va_Pc [.int a1] (fun _ => True)) (vp_Si (fun r => ((0 : Int) ≤ r.toInt ∧ r.toInt ≤ 1) ∧ (r ≠ 0 → ((1 : Int) ≤ a1.toInt ∧ a1.toInt ≤ 9999) ∧ (True)))) 0 0 (fun _ => False) := by
  refine Met.ofW (cc := cX10_isStep) (maxL := 1) (ret := (some .boolean)) pn_X10 rfl ?_
  intro p e s m args below meth c s₁ B hml hv
  obtain ⟨rfl, _⟩ := hv
  have hx := B.exec
  have hb := B.bytes
  have hr := B.returns
  have hts := atoms_spec (ws := uX10_isStep) B.pre
  have hown : s.vm.findClass RX10 = some m.cls := hown_of B.named rfl
  have hlocks := B.notSynchronized
  have hl := lv_entry ([.int a1]) (n := 1) (Nat.le_of_ble_eq_true rfl)
  rw [lg_entry_eq]
  generalize (lg_sl ([.int a1]) ++ List.replicate (1 - (lg_sl ([.int a1])).length) Slot.unset).toArray = ls at hl ⊢
  have hl : lv_has ls 1 [(0, .int a1)] := hl
  refine lv_iload_n hx hb dX10_isStep_0 rfl (lv_at hl 0 rfl) ?_
  obtain ⟨z_3, e_z_3⟩ : ∃ y : Int64, y = a1.toInt64 := ⟨_, rfl⟩
  refine lv_i2l (v := z_3) hx hb dX10_isStep_1 e_z_3.symm ?_
  obtain ⟨q_z_3, b_z_3⟩ := ti_i2l e_z_3 (ti_rng a1)
  refine lv_lconst (v := 1) hx hb dX10_isStep_2 (by decide) ?_
  refine lv_ldc2 (v := 9999) hx hb hown (hts (.constantLong RX10 334 (9999)) (List.mem_of_getElem? (i := 1) rfl)) dX10_isStep_3 ?_
  refine vp_callSi (W.runS (As := [.long z_3, .long 1, .long 9999]) (rest := []) ⟨hx, hb, hml, hown, hts⟩ (kX10_in l dC dI z_3 1 9999 ) (va_cwS 3 hts gX10_isStep__X10_in_S82 rfl rfl rfl hd_yX10_in.2 ⟨lel 1 1 rfl, lel 25 25 rfl⟩) ⟨pn_fb, pn_use⟩ rfl rfl hl.1 rfl (lv_room (Nat.le_of_ble_eq_true rfl)) dX10_isStep_6 ⟨lel 0 0 rfl, lel 0 0 rfl⟩) (fun r_4 h_r_4 => ?_)
  obtain ⟨b_r_4, nz_r_4⟩ := h_r_4
  have b_r_4 : (0 : Int) ≤ r_4.toInt ∧ r_4.toInt ≤ 1 := b_r_4
  exact W.zret (v := r_4) hx hb hr (zn_b b_r_4) (fun t ht hW => ⟨r_4, rfl, ⟨b_r_4, (fun h9 => by have h8 := nz_r_4 h9; have h7 := (by decide : (1 : Int64).toInt = 1); have h7 := (by decide : (9999 : Int64).toInt = 9999); exact ⟨⟨by omega, by omega⟩, trivial⟩)⟩, ht⟩) t_nil dX10_isStep_9
theorem dX10_isSeed_0 : decode cX10_isSeed 0 = .ok (.iload_n 0, 1) := by decide +kernel
theorem dX10_isSeed_1 : decode cX10_isSeed 1 = .ok (.i2l, 1) := by decide +kernel
theorem dX10_isSeed_2 : decode cX10_isSeed 2 = .ok (.lconst 0, 1) := by decide +kernel
theorem dX10_isSeed_3 : decode cX10_isSeed 3 = .ok (.ldc2_w 402, 3) := by decide +kernel
theorem dX10_isSeed_6 : decode cX10_isSeed 6 = .ok (.invokestatic 82, 3) := by decide +kernel
theorem dX10_isSeed_9 : decode cX10_isSeed 9 = .ok (.ireturn, 1) := by decide +kernel
theorem hd_yX10_isSeed : yX10_isSeed.cls = RX10 ∧ yX10_isSeed.cls ≠ "java/lang/invoke/MethodHandle" ∧ yX10_isSeed.cls ≠ "java/lang/invoke/VarHandle" ∧ (parseMethodDescriptor yX10_isSeed.desc).map (fun d => d.parameters.length) = some 1 := by decide +kernel
def uX10_isSeed : List Cond := List.cons (.code yX10_isSeed cX10_isSeed 1 (some .boolean)) (HAppend.hAppend ([.constantLong RX10 402 (2000000000), .methodLink RX10 82 yX10_in, .static yX10_in, .initialized RX10] : List Cond) uX10_in)
theorem guX10_isSeed : GU uX10_isSeed := gu_cons (gu_app (by decide +kernel) guX10_in)
theorem gX10_isSeed__X10_in_S82 : GoodIn uX10_isSeed (va_wsS RX10 82 yX10_in uX10_in) := gin_S (List.mem_of_getElem? (i := 2) rfl) (List.mem_of_getElem? (i := 3) rfl) (List.mem_of_getElem? (i := 4) rfl) (fun _ h => (List.mem_cons_of_mem _ (List.mem_append_right _ h))) guX10_in
set_option maxHeartbeats 4000000 in
set_option maxRecDepth 100000 in
theorem kX10_isSeed (l : Launch) (dC : Nat → ClassId) (dI : Nat → Nat → Nat) (a1 : Int32) : Met l yX10_isSeed uX10_isSeed ({ frames := 1, cells := 0, slots := 0, locals := 25 }) (va_Pc [.int a1] (fun _ => True)) (vp_Si (fun r => ((0 : Int) ≤ r.toInt ∧ r.toInt ≤ 1) ∧ (r ≠ 0 → ((0 : Int) ≤ a1.toInt ∧ a1.toInt ≤ 2000000000) ∧ (True)))) 0 0 (fun _ => False) := by
  refine Met.ofW (cc := cX10_isSeed) (maxL := 1) (ret := (some .boolean)) pn_X10 rfl ?_
  intro p e s m args below meth c s₁ B hml hv
  obtain ⟨rfl, _⟩ := hv
  have hx := B.exec
  have hb := B.bytes
  have hr := B.returns
  have hts := atoms_spec (ws := uX10_isSeed) B.pre
  have hown : s.vm.findClass RX10 = some m.cls := hown_of B.named rfl
  have hlocks := B.notSynchronized
  have hl := lv_entry ([.int a1]) (n := 1) (Nat.le_of_ble_eq_true rfl)
  rw [lg_entry_eq]
  generalize (lg_sl ([.int a1]) ++ List.replicate (1 - (lg_sl ([.int a1])).length) Slot.unset).toArray = ls at hl ⊢
  have hl : lv_has ls 1 [(0, .int a1)] := hl
  refine lv_iload_n hx hb dX10_isSeed_0 rfl (lv_at hl 0 rfl) ?_
  obtain ⟨z_3, e_z_3⟩ : ∃ y : Int64, y = a1.toInt64 := ⟨_, rfl⟩
  refine lv_i2l (v := z_3) hx hb dX10_isSeed_1 e_z_3.symm ?_
  obtain ⟨q_z_3, b_z_3⟩ := ti_i2l e_z_3 (ti_rng a1)
  refine lv_lconst (v := 0) hx hb dX10_isSeed_2 (by decide) ?_
  refine lv_ldc2 (v := 2000000000) hx hb hown (hts (.constantLong RX10 402 (2000000000)) (List.mem_of_getElem? (i := 1) rfl)) dX10_isSeed_3 ?_
  refine vp_callSi (W.runS (As := [.long z_3, .long 0, .long 2000000000]) (rest := []) ⟨hx, hb, hml, hown, hts⟩ (kX10_in l dC dI z_3 0 2000000000 ) (va_cwS 3 hts gX10_isSeed__X10_in_S82 rfl rfl rfl hd_yX10_in.2 ⟨lel 1 1 rfl, lel 25 25 rfl⟩) ⟨pn_fb, pn_use⟩ rfl rfl hl.1 rfl (lv_room (Nat.le_of_ble_eq_true rfl)) dX10_isSeed_6 ⟨lel 0 0 rfl, lel 0 0 rfl⟩) (fun r_4 h_r_4 => ?_)
  obtain ⟨b_r_4, nz_r_4⟩ := h_r_4
  have b_r_4 : (0 : Int) ≤ r_4.toInt ∧ r_4.toInt ≤ 1 := b_r_4
  exact W.zret (v := r_4) hx hb hr (zn_b b_r_4) (fun t ht hW => ⟨r_4, rfl, ⟨b_r_4, (fun h9 => by have h8 := nz_r_4 h9; have h7 := (by decide : (0 : Int64).toInt = 0); have h7 := (by decide : (2000000000 : Int64).toInt = 2000000000); exact ⟨⟨by omega, by omega⟩, trivial⟩)⟩, ht⟩) t_nil dX10_isSeed_9
theorem dX10_isSlot_0 : decode cX10_isSlot 0 = .ok (.iload_n 0, 1) := by decide +kernel
theorem dX10_isSlot_1 : decode cX10_isSlot 1 = .ok (.i2l, 1) := by decide +kernel
theorem dX10_isSlot_2 : decode cX10_isSlot 2 = .ok (.lconst 0, 1) := by decide +kernel
theorem dX10_isSlot_3 : decode cX10_isSlot 3 = .ok (.ldc2_w 375, 3) := by decide +kernel
theorem dX10_isSlot_6 : decode cX10_isSlot 6 = .ok (.invokestatic 82, 3) := by decide +kernel
theorem dX10_isSlot_9 : decode cX10_isSlot 9 = .ok (.ireturn, 1) := by decide +kernel
theorem hd_yX10_isSlot : yX10_isSlot.cls = RX10 ∧ yX10_isSlot.cls ≠ "java/lang/invoke/MethodHandle" ∧ yX10_isSlot.cls ≠ "java/lang/invoke/VarHandle" ∧ (parseMethodDescriptor yX10_isSlot.desc).map (fun d => d.parameters.length) = some 1 := by decide +kernel
def uX10_isSlot : List Cond := List.cons (.code yX10_isSlot cX10_isSlot 1 (some .boolean)) (HAppend.hAppend ([.constantLong RX10 375 (3), .methodLink RX10 82 yX10_in, .static yX10_in, .initialized RX10] : List Cond) uX10_in)
theorem guX10_isSlot : GU uX10_isSlot := gu_cons (gu_app (by decide +kernel) guX10_in)
theorem gX10_isSlot__X10_in_S82 : GoodIn uX10_isSlot (va_wsS RX10 82 yX10_in uX10_in) := gin_S (List.mem_of_getElem? (i := 2) rfl) (List.mem_of_getElem? (i := 3) rfl) (List.mem_of_getElem? (i := 4) rfl) (fun _ h => (List.mem_cons_of_mem _ (List.mem_append_right _ h))) guX10_in
set_option maxHeartbeats 4000000 in
set_option maxRecDepth 100000 in
theorem kX10_isSlot (l : Launch) (dC : Nat → ClassId) (dI : Nat → Nat → Nat) (a1 : Int32) : Met l yX10_isSlot uX10_isSlot ({ frames := 1, cells := 0, slots := 0, locals := 25 }) (va_Pc [.int a1] (fun _ => True)) (vp_Si (fun r => ((0 : Int) ≤ r.toInt ∧ r.toInt ≤ 1) ∧ (r ≠ 0 → ((0 : Int) ≤ a1.toInt ∧ a1.toInt ≤ 3) ∧ (True)))) 0 0 (fun _ => False) := by
  refine Met.ofW (cc := cX10_isSlot) (maxL := 1) (ret := (some .boolean)) pn_X10 rfl ?_
  intro p e s m args below meth c s₁ B hml hv
  obtain ⟨rfl, _⟩ := hv
  have hx := B.exec
  have hb := B.bytes
  have hr := B.returns
  have hts := atoms_spec (ws := uX10_isSlot) B.pre
  have hown : s.vm.findClass RX10 = some m.cls := hown_of B.named rfl
  have hlocks := B.notSynchronized
  have hl := lv_entry ([.int a1]) (n := 1) (Nat.le_of_ble_eq_true rfl)
  rw [lg_entry_eq]
  generalize (lg_sl ([.int a1]) ++ List.replicate (1 - (lg_sl ([.int a1])).length) Slot.unset).toArray = ls at hl ⊢
  have hl : lv_has ls 1 [(0, .int a1)] := hl
  refine lv_iload_n hx hb dX10_isSlot_0 rfl (lv_at hl 0 rfl) ?_
  obtain ⟨z_3, e_z_3⟩ : ∃ y : Int64, y = a1.toInt64 := ⟨_, rfl⟩
  refine lv_i2l (v := z_3) hx hb dX10_isSlot_1 e_z_3.symm ?_
  obtain ⟨q_z_3, b_z_3⟩ := ti_i2l e_z_3 (ti_rng a1)
  refine lv_lconst (v := 0) hx hb dX10_isSlot_2 (by decide) ?_
  refine lv_ldc2 (v := 3) hx hb hown (hts (.constantLong RX10 375 (3)) (List.mem_of_getElem? (i := 1) rfl)) dX10_isSlot_3 ?_
  refine vp_callSi (W.runS (As := [.long z_3, .long 0, .long 3]) (rest := []) ⟨hx, hb, hml, hown, hts⟩ (kX10_in l dC dI z_3 0 3 ) (va_cwS 3 hts gX10_isSlot__X10_in_S82 rfl rfl rfl hd_yX10_in.2 ⟨lel 1 1 rfl, lel 25 25 rfl⟩) ⟨pn_fb, pn_use⟩ rfl rfl hl.1 rfl (lv_room (Nat.le_of_ble_eq_true rfl)) dX10_isSlot_6 ⟨lel 0 0 rfl, lel 0 0 rfl⟩) (fun r_4 h_r_4 => ?_)
  obtain ⟨b_r_4, nz_r_4⟩ := h_r_4
  have b_r_4 : (0 : Int) ≤ r_4.toInt ∧ r_4.toInt ≤ 1 := b_r_4
  exact W.zret (v := r_4) hx hb hr (zn_b b_r_4) (fun t ht hW => ⟨r_4, rfl, ⟨b_r_4, (fun h9 => by have h8 := nz_r_4 h9; have h7 := (by decide : (0 : Int64).toInt = 0); have h7 := (by decide : (3 : Int64).toInt = 3); exact ⟨⟨by omega, by omega⟩, trivial⟩)⟩, ht⟩) t_nil dX10_isSlot_9
theorem dX10_isDay_0 : decode cX10_isDay 0 = .ok (.iload_n 0, 1) := by decide +kernel
theorem dX10_isDay_1 : decode cX10_isDay 1 = .ok (.i2l, 1) := by decide +kernel
theorem dX10_isDay_2 : decode cX10_isDay 2 = .ok (.lconst 1, 1) := by decide +kernel
theorem dX10_isDay_3 : decode cX10_isDay 3 = .ok (.ldc2_w 442, 3) := by decide +kernel
theorem dX10_isDay_6 : decode cX10_isDay 6 = .ok (.invokestatic 82, 3) := by decide +kernel
theorem dX10_isDay_9 : decode cX10_isDay 9 = .ok (.ireturn, 1) := by decide +kernel
theorem hd_yX10_isDay : yX10_isDay.cls = RX10 ∧ yX10_isDay.cls ≠ "java/lang/invoke/MethodHandle" ∧ yX10_isDay.cls ≠ "java/lang/invoke/VarHandle" ∧ (parseMethodDescriptor yX10_isDay.desc).map (fun d => d.parameters.length) = some 1 := by decide +kernel
def uX10_isDay : List Cond := List.cons (.code yX10_isDay cX10_isDay 1 (some .boolean)) (HAppend.hAppend ([.constantLong RX10 442 (365), .methodLink RX10 82 yX10_in, .static yX10_in, .initialized RX10] : List Cond) uX10_in)
theorem guX10_isDay : GU uX10_isDay := gu_cons (gu_app (by decide +kernel) guX10_in)
theorem gX10_isDay__X10_in_S82 : GoodIn uX10_isDay (va_wsS RX10 82 yX10_in uX10_in) := gin_S (List.mem_of_getElem? (i := 2) rfl) (List.mem_of_getElem? (i := 3) rfl) (List.mem_of_getElem? (i := 4) rfl) (fun _ h => (List.mem_cons_of_mem _ (List.mem_append_right _ h))) guX10_in
set_option maxHeartbeats 4000000 in
set_option maxRecDepth 100000 in
theorem kX10_isDay (l : Launch) (dC : Nat → ClassId) (dI : Nat → Nat → Nat) (a1 : Int32) : Met l yX10_isDay uX10_isDay ({ frames := 1, cells := 0, slots := 0, locals := 25 }) (va_Pc [.int a1] (fun _ => True)) (vp_Si (fun r => ((0 : Int) ≤ r.toInt ∧ r.toInt ≤ 1) ∧ (r ≠ 0 → ((1 : Int) ≤ a1.toInt ∧ a1.toInt ≤ 365) ∧ (True)))) 0 0 (fun _ => False) := by
  refine Met.ofW (cc := cX10_isDay) (maxL := 1) (ret := (some .boolean)) pn_X10 rfl ?_
  intro p e s m args below meth c s₁ B hml hv
  obtain ⟨rfl, _⟩ := hv
  have hx := B.exec
  have hb := B.bytes
  have hr := B.returns
  have hts := atoms_spec (ws := uX10_isDay) B.pre
  have hown : s.vm.findClass RX10 = some m.cls := hown_of B.named rfl
  have hlocks := B.notSynchronized
  have hl := lv_entry ([.int a1]) (n := 1) (Nat.le_of_ble_eq_true rfl)
  rw [lg_entry_eq]
  generalize (lg_sl ([.int a1]) ++ List.replicate (1 - (lg_sl ([.int a1])).length) Slot.unset).toArray = ls at hl ⊢
  have hl : lv_has ls 1 [(0, .int a1)] := hl
  refine lv_iload_n hx hb dX10_isDay_0 rfl (lv_at hl 0 rfl) ?_
  obtain ⟨z_3, e_z_3⟩ : ∃ y : Int64, y = a1.toInt64 := ⟨_, rfl⟩
  refine lv_i2l (v := z_3) hx hb dX10_isDay_1 e_z_3.symm ?_
  obtain ⟨q_z_3, b_z_3⟩ := ti_i2l e_z_3 (ti_rng a1)
  refine lv_lconst (v := 1) hx hb dX10_isDay_2 (by decide) ?_
  refine lv_ldc2 (v := 365) hx hb hown (hts (.constantLong RX10 442 (365)) (List.mem_of_getElem? (i := 1) rfl)) dX10_isDay_3 ?_
  refine vp_callSi (W.runS (As := [.long z_3, .long 1, .long 365]) (rest := []) ⟨hx, hb, hml, hown, hts⟩ (kX10_in l dC dI z_3 1 365 ) (va_cwS 3 hts gX10_isDay__X10_in_S82 rfl rfl rfl hd_yX10_in.2 ⟨lel 1 1 rfl, lel 25 25 rfl⟩) ⟨pn_fb, pn_use⟩ rfl rfl hl.1 rfl (lv_room (Nat.le_of_ble_eq_true rfl)) dX10_isDay_6 ⟨lel 0 0 rfl, lel 0 0 rfl⟩) (fun r_4 h_r_4 => ?_)
  obtain ⟨b_r_4, nz_r_4⟩ := h_r_4
  have b_r_4 : (0 : Int) ≤ r_4.toInt ∧ r_4.toInt ≤ 1 := b_r_4
  exact W.zret (v := r_4) hx hb hr (zn_b b_r_4) (fun t ht hW => ⟨r_4, rfl, ⟨b_r_4, (fun h9 => by have h8 := nz_r_4 h9; have h7 := (by decide : (1 : Int64).toInt = 1); have h7 := (by decide : (365 : Int64).toInt = 365); exact ⟨⟨by omega, by omega⟩, trivial⟩)⟩, ht⟩) t_nil dX10_isDay_9
theorem dX10_isLong_0 : decode cX10_isLong 0 = .ok (.iload_n 0, 1) := by decide +kernel
theorem dX10_isLong_1 : decode cX10_isLong 1 = .ok (.i2l, 1) := by decide +kernel
theorem dX10_isLong_2 : decode cX10_isLong 2 = .ok (.lconst 1, 1) := by decide +kernel
theorem dX10_isLong_3 : decode cX10_isLong 3 = .ok (.ldc2_w 453, 3) := by decide +kernel
theorem dX10_isLong_6 : decode cX10_isLong 6 = .ok (.invokestatic 82, 3) := by decide +kernel
theorem dX10_isLong_9 : decode cX10_isLong 9 = .ok (.ifCond .eq 21, 3) := by decide +kernel
theorem dX10_isLong_12 : decode cX10_isLong 12 = .ok (.iload_n 1, 1) := by decide +kernel
theorem dX10_isLong_13 : decode cX10_isLong 13 = .ok (.i2l, 1) := by decide +kernel
theorem dX10_isLong_14 : decode cX10_isLong 14 = .ok (.ldc2_w 80, 3) := by decide +kernel
theorem dX10_isLong_17 : decode cX10_isLong 17 = .ok (.ldc2_w 455, 3) := by decide +kernel
theorem dX10_isLong_20 : decode cX10_isLong 20 = .ok (.invokestatic 82, 3) := by decide +kernel
theorem dX10_isLong_23 : decode cX10_isLong 23 = .ok (.ifCond .eq 7, 3) := by decide +kernel
theorem dX10_isLong_26 : decode cX10_isLong 26 = .ok (.iconst 1, 1) := by decide +kernel
theorem dX10_isLong_27 : decode cX10_isLong 27 = .ok (.goto 4, 3) := by decide +kernel
theorem dX10_isLong_30 : decode cX10_isLong 30 = .ok (.iconst 0, 1) := by decide +kernel
theorem dX10_isLong_31 : decode cX10_isLong 31 = .ok (.ireturn, 1) := by decide +kernel
theorem hd_yX10_isLong : yX10_isLong.cls = RX10 ∧ yX10_isLong.cls ≠ "java/lang/invoke/MethodHandle" ∧ yX10_isLong.cls ≠ "java/lang/invoke/VarHandle" ∧ (parseMethodDescriptor yX10_isLong.desc).map (fun d => d.parameters.length) = some 2 := by decide +kernel
def uX10_isLong : List Cond := List.cons (.code yX10_isLong cX10_isLong 2 (some .boolean)) (HAppend.hAppend ([.constantLong RX10 453 (12), .methodLink RX10 82 yX10_in, .static yX10_in, .initialized RX10, .constantLong RX10 80 (2), .constantLong RX10 455 (16)] : List Cond) uX10_in)
theorem guX10_isLong : GU uX10_isLong := gu_cons (gu_app (by decide +kernel) guX10_in)
theorem gX10_isLong__X10_in_S82 : GoodIn uX10_isLong (va_wsS RX10 82 yX10_in uX10_in) := gin_S (List.mem_of_getElem? (i := 2) rfl) (List.mem_of_getElem? (i := 3) rfl) (List.mem_of_getElem? (i := 4) rfl) (fun _ h => (List.mem_cons_of_mem _ (List.mem_append_right _ h))) guX10_in
set_option maxHeartbeats 4000000 in
set_option maxRecDepth 100000 in
theorem kX10_isLong (l : Launch) (dC : Nat → ClassId) (dI : Nat → Nat → Nat) (a1 : Int32) (a2 : Int32) : Met l yX10_isLong uX10_isLong ({ frames := 1, cells := 0, slots := 0, locals := 25 }) (va_Pc [.int a1, .int a2] (fun _ => True)) (vp_Si (fun r => ((0 : Int) ≤ r.toInt ∧ r.toInt ≤ 1) ∧ (r ≠ 0 → ((1 : Int) ≤ a1.toInt ∧ a1.toInt ≤ 12) ∧ ((2 : Int) ≤ a2.toInt ∧ a2.toInt ≤ 16) ∧ (True)))) 0 0 (fun _ => False) := by
  refine Met.ofW (cc := cX10_isLong) (maxL := 2) (ret := (some .boolean)) pn_X10 rfl ?_
  intro p e s m args below meth c s₁ B hml hv
  obtain ⟨rfl, _⟩ := hv
  have hx := B.exec
  have hb := B.bytes
  have hr := B.returns
  have hts := atoms_spec (ws := uX10_isLong) B.pre
  have hown : s.vm.findClass RX10 = some m.cls := hown_of B.named rfl
  have hlocks := B.notSynchronized
  have hl := lv_entry ([.int a1, .int a2]) (n := 2) (Nat.le_of_ble_eq_true rfl)
  rw [lg_entry_eq]
  generalize (lg_sl ([.int a1, .int a2]) ++ List.replicate (2 - (lg_sl ([.int a1, .int a2])).length) Slot.unset).toArray = ls at hl ⊢
  have hl : lv_has ls 2 [(0, .int a1), (1, .int a2)] := hl
  refine lv_iload_n hx hb dX10_isLong_0 rfl (lv_at hl 0 rfl) ?_
  obtain ⟨z_9, e_z_9⟩ : ∃ y : Int64, y = a1.toInt64 := ⟨_, rfl⟩
  refine lv_i2l (v := z_9) hx hb dX10_isLong_1 e_z_9.symm ?_
  obtain ⟨q_z_9, b_z_9⟩ := ti_i2l e_z_9 (ti_rng a1)
  refine lv_lconst (v := 1) hx hb dX10_isLong_2 (by decide) ?_
  refine lv_ldc2 (v := 12) hx hb hown (hts (.constantLong RX10 453 (12)) (List.mem_of_getElem? (i := 1) rfl)) dX10_isLong_3 ?_
  refine vp_callSi (W.runS (As := [.long z_9, .long 1, .long 12]) (rest := []) ⟨hx, hb, hml, hown, hts⟩ (kX10_in l dC dI z_9 1 12 ) (va_cwS 3 hts gX10_isLong__X10_in_S82 rfl rfl rfl hd_yX10_in.2 ⟨lel 1 1 rfl, lel 25 25 rfl⟩) ⟨pn_fb, pn_use⟩ rfl rfl hl.1 rfl (lv_room (Nat.le_of_ble_eq_true rfl)) dX10_isLong_6 ⟨lel 0 0 rfl, lel 0 0 rfl⟩) (fun r_10 h_r_10 => ?_)
  obtain ⟨b_r_10, nz_r_10⟩ := h_r_10
  have b_r_10 : (0 : Int) ≤ r_10.toInt ∧ r_10.toInt ≤ 1 := b_r_10
  refine lv_if_eq (tgt := 30) hx hb dX10_isLong_9 (by decide) (fun c_11 => ?_) (fun c_11 => ?_)
  ·
    have n_c_11 : (r_10.toInt : Int) = 0 := c_eq rfl (by decide) c_11
    have b_r_10 : (0 : Int) ≤ r_10.toInt ∧ r_10.toInt ≤ 0 := r_eq1 b_r_10 (by decide : (0 : Int) ≤ (0 : Int32).toInt ∧ (0 : Int32).toInt ≤ 0) n_c_11 (by decide)
    refine lv_iconst (v := 0) hx hb dX10_isLong_30 (by decide) ?_
    exact W.zret (v := 0) hx hb hr rfl (fun t ht hW => ⟨0, rfl, ⟨(rg_w (by decide : (0 : Int) ≤ (0 : Int32).toInt ∧ (0 : Int32).toInt ≤ 0) (by decide) (by decide)), (fun h9 => absurd rfl h9)⟩, ht⟩) t_nil dX10_isLong_31
  ·
    have n_c_11 : (r_10.toInt : Int) ≠ 0 := c_ne rfl (by decide) c_11
    have b_r_10 : (1 : Int) ≤ r_10.toInt ∧ r_10.toInt ≤ 1 := r_ne1 b_r_10 (by decide : (0 : Int) ≤ (0 : Int32).toInt ∧ (0 : Int32).toInt ≤ 0) n_c_11 (by decide)
    have g_12 := nz_r_10 c_11
    have lt0_g_12 := (by decide : (1 : Int64).toInt = 1)
    have lt1_g_12 := (by decide : (12 : Int64).toInt = 12)
    have b_z_9 : (1 : Int) ≤ z_9.toInt ∧ z_9.toInt ≤ 12 := by
      have q0 := b_z_9
      have q1 := (by decide : (1 : Int) ≤ (1 : Int64).toInt ∧ (1 : Int64).toInt ≤ 1)
      have q2 := (by decide : (12 : Int) ≤ (12 : Int64).toInt ∧ (12 : Int64).toInt ≤ 12)
      omega
    have b_a1 : (1 : Int) ≤ a1.toInt ∧ a1.toInt ≤ 12 := by
      have q0 := b_z_9; have q1 := q_z_9; have q2 := (ti_rng a1); omega
    refine lv_iload_n hx hb dX10_isLong_12 rfl (lv_at hl 1 rfl) ?_
    obtain ⟨z_13, e_z_13⟩ : ∃ y : Int64, y = a2.toInt64 := ⟨_, rfl⟩
    refine lv_i2l (v := z_13) hx hb dX10_isLong_13 e_z_13.symm ?_
    obtain ⟨q_z_13, b_z_13⟩ := ti_i2l e_z_13 (ti_rng a2)
    refine lv_ldc2 (v := 2) hx hb hown (hts (.constantLong RX10 80 (2)) (List.mem_of_getElem? (i := 5) rfl)) dX10_isLong_14 ?_
    refine lv_ldc2 (v := 16) hx hb hown (hts (.constantLong RX10 455 (16)) (List.mem_of_getElem? (i := 6) rfl)) dX10_isLong_17 ?_
    refine vp_callSi (W.runS (As := [.long z_13, .long 2, .long 16]) (rest := []) ⟨hx, hb, hml, hown, hts⟩ (kX10_in l dC dI z_13 2 16 ) (va_cwS 3 hts gX10_isLong__X10_in_S82 rfl rfl rfl hd_yX10_in.2 ⟨lel 1 1 rfl, lel 25 25 rfl⟩) ⟨pn_fb, pn_use⟩ rfl rfl hl.1 rfl (lv_room (Nat.le_of_ble_eq_true rfl)) dX10_isLong_20 ⟨lel 0 0 rfl, lel 0 0 rfl⟩) (fun r_14 h_r_14 => ?_)
    obtain ⟨b_r_14, nz_r_14⟩ := h_r_14
    have b_r_14 : (0 : Int) ≤ r_14.toInt ∧ r_14.toInt ≤ 1 := b_r_14
    refine lv_if_eq (tgt := 30) hx hb dX10_isLong_23 (by decide) (fun c_15 => ?_) (fun c_15 => ?_)
    ·
      have n_c_15 : (r_14.toInt : Int) = 0 := c_eq rfl (by decide) c_15
      have b_r_14 : (0 : Int) ≤ r_14.toInt ∧ r_14.toInt ≤ 0 := r_eq1 b_r_14 (by decide : (0 : Int) ≤ (0 : Int32).toInt ∧ (0 : Int32).toInt ≤ 0) n_c_15 (by decide)
      refine lv_iconst (v := 0) hx hb dX10_isLong_30 (by decide) ?_
      exact W.zret (v := 0) hx hb hr rfl (fun t ht hW => ⟨0, rfl, ⟨(rg_w (by decide : (0 : Int) ≤ (0 : Int32).toInt ∧ (0 : Int32).toInt ≤ 0) (by decide) (by decide)), (fun h9 => absurd rfl h9)⟩, ht⟩) t_nil dX10_isLong_31
    ·
      have n_c_15 : (r_14.toInt : Int) ≠ 0 := c_ne rfl (by decide) c_15
      have b_r_14 : (1 : Int) ≤ r_14.toInt ∧ r_14.toInt ≤ 1 := r_ne1 b_r_14 (by decide : (0 : Int) ≤ (0 : Int32).toInt ∧ (0 : Int32).toInt ≤ 0) n_c_15 (by decide)
      have g_16 := nz_r_14 c_15
      have lt0_g_16 := (by decide : (2 : Int64).toInt = 2)
      have lt1_g_16 := (by decide : (16 : Int64).toInt = 16)
      have b_z_13 : (2 : Int) ≤ z_13.toInt ∧ z_13.toInt ≤ 16 := by
        have q0 := b_z_13
        have q1 := (by decide : (2 : Int) ≤ (2 : Int64).toInt ∧ (2 : Int64).toInt ≤ 2)
        have q2 := (by decide : (16 : Int) ≤ (16 : Int64).toInt ∧ (16 : Int64).toInt ≤ 16)
        omega
      have b_a2 : (2 : Int) ≤ a2.toInt ∧ a2.toInt ≤ 16 := by
        have q0 := b_z_13; have q1 := q_z_13; have q2 := (ti_rng a2); omega
      refine lv_iconst (v := 1) hx hb dX10_isLong_26 (by decide) ?_
      refine lv_goto (tgt := 31) hx hb dX10_isLong_27 (by decide) ?_
      exact W.zret (v := 1) hx hb hr rfl (fun t ht hW => ⟨1, rfl, ⟨(rg_w (by decide : (1 : Int) ≤ (1 : Int32).toInt ∧ (1 : Int32).toInt ≤ 1) (by decide) (by decide)), (fun _ => ⟨⟨by omega, by omega⟩, ⟨by omega, by omega⟩, trivial⟩)⟩, ht⟩) t_nil dX10_isLong_31
theorem dX10_isSquare_0 : decode cX10_isSquare 0 = .ok (.iconst 0, 1) := by decide +kernel
theorem dX10_isSquare_1 : decode cX10_isSquare 1 = .ok (.istore_n 1, 1) := by decide +kernel
theorem dX10_isSquare_2 : decode cX10_isSquare 2 = .ok (.iload_n 1, 1) := by decide +kernel
theorem dX10_isSquare_3 : decode cX10_isSquare 3 = .ok (.iload_n 1, 1) := by decide +kernel
theorem dX10_isSquare_4 : decode cX10_isSquare 4 = .ok (.imul, 1) := by decide +kernel
theorem dX10_isSquare_5 : decode cX10_isSquare 5 = .ok (.iload_n 0, 1) := by decide +kernel
theorem dX10_isSquare_6 : decode cX10_isSquare 6 = .ok (.if_icmp .ge 9, 3) := by decide +kernel
theorem dX10_isSquare_9 : decode cX10_isSquare 9 = .ok (.iinc 1 1, 3) := by decide +kernel
theorem dX10_isSquare_12 : decode cX10_isSquare 12 = .ok (.goto (-10), 3) := by decide +kernel
theorem dX10_isSquare_15 : decode cX10_isSquare 15 = .ok (.iload_n 1, 1) := by decide +kernel
theorem dX10_isSquare_16 : decode cX10_isSquare 16 = .ok (.iload_n 1, 1) := by decide +kernel
theorem dX10_isSquare_17 : decode cX10_isSquare 17 = .ok (.imul, 1) := by decide +kernel
theorem dX10_isSquare_18 : decode cX10_isSquare 18 = .ok (.iload_n 0, 1) := by decide +kernel
theorem dX10_isSquare_19 : decode cX10_isSquare 19 = .ok (.if_icmp .ne 7, 3) := by decide +kernel
theorem dX10_isSquare_22 : decode cX10_isSquare 22 = .ok (.iconst 1, 1) := by decide +kernel
theorem dX10_isSquare_23 : decode cX10_isSquare 23 = .ok (.goto 4, 3) := by decide +kernel
theorem dX10_isSquare_26 : decode cX10_isSquare 26 = .ok (.iconst 0, 1) := by decide +kernel
theorem dX10_isSquare_27 : decode cX10_isSquare 27 = .ok (.ireturn, 1) := by decide +kernel
theorem hd_yX10_isSquare : yX10_isSquare.cls = RX10 ∧ yX10_isSquare.cls ≠ "java/lang/invoke/MethodHandle" ∧ yX10_isSquare.cls ≠ "java/lang/invoke/VarHandle" ∧ (parseMethodDescriptor yX10_isSquare.desc).map (fun d => d.parameters.length) = some 1 := by decide +kernel
def uX10_isSquare : List Cond := List.cons (.code yX10_isSquare cX10_isSquare 2 (some .boolean)) ([] : List Cond)
theorem guX10_isSquare : GU uX10_isSquare := gu_cons (gu_all (by decide +kernel))
set_option maxHeartbeats 4000000 in
set_option maxRecDepth 100000 in
theorem kX10_isSquare (l : Launch) (dC : Nat → ClassId) (dI : Nat → Nat → Nat) (a1 : Int32) (b_a1 : (0 : Int) ≤ a1.toInt ∧ a1.toInt ≤ 2000) : Met l yX10_isSquare uX10_isSquare ({ frames := 0, cells := 0, slots := 0, locals := 0 }) (va_Pc [.int a1] (fun _ => True)) (vp_Si (fun r => ((0 : Int) ≤ r.toInt ∧ r.toInt ≤ 1))) 0 0 (fun _ => False) := by
  refine Met.ofW (cc := cX10_isSquare) (maxL := 2) (ret := (some .boolean)) pn_X10 rfl ?_
  intro p e s m args below meth c s₁ B hml hv
  obtain ⟨rfl, _⟩ := hv
  have hx := B.exec
  have hb := B.bytes
  have hr := B.returns
  have hts := atoms_spec (ws := uX10_isSquare) B.pre
  have hown : s.vm.findClass RX10 = some m.cls := hown_of B.named rfl
  have hlocks := B.notSynchronized
  have hl := lv_entry ([.int a1]) (n := 2) (Nat.le_of_ble_eq_true rfl)
  rw [lg_entry_eq]
  generalize (lg_sl ([.int a1]) ++ List.replicate (2 - (lg_sl ([.int a1])).length) Slot.unset).toArray = ls at hl ⊢
  have hl : lv_has ls 2 [(0, .int a1)] := hl
  refine lv_iconst (v := 0) hx hb dX10_isSquare_0 (by decide) ?_
  refine lv_istore_n (lv' := [(1, .int 0), (0, .int a1)]) hx hb dX10_isSquare_1 rfl hl (by decide) rfl (fun ls hl => ?_)
  refine loopP (σ := Int32) (fun v => (45 - v.toInt).toNat) (fun v ls => ((0 : Int) ≤ v.toInt ∧ v.toInt ≤ 45) ∧ lv_has ls 2 [(1, .int v), (0, .int a1)]) (fun v ls hI ih_2_44 => ?_) (0 : Int32) ⟨(show (0 : Int) ≤ (0 : Int32).toInt ∧ (0 : Int32).toInt ≤ 45 from (rg_w (by decide : (0 : Int) ≤ (0 : Int32).toInt ∧ (0 : Int32).toInt ≤ 0) (by decide) (by decide))), lv_sub hl [0, 1] rfl⟩
  obtain ⟨y_32, rfl⟩ : ∃ z, z = v := ⟨_, rfl⟩
  obtain ⟨b_y_32, hl⟩ := hI
  have b_y_32 : (0 : Int) ≤ y_32.toInt ∧ y_32.toInt ≤ 45 := b_y_32
  have hl : lv_has ls 2 [(1, .int y_32), (0, .int a1)] := hl
  refine lv_iload_n hx hb dX10_isSquare_2 rfl (lv_at hl 0 rfl) ?_
  refine lv_iload_n hx hb dX10_isSquare_3 rfl (lv_at hl 0 rfl) ?_
  refine lv_imul hx hb dX10_isSquare_4 ?_
  refine lv_topi (fun z_45 e_z_45 => ?_)
  obtain ⟨q_z_45, b_z_45⟩ := ti_mul (lo := 0) (hi := 2025) e_z_45 rfl rfl b_y_32 b_y_32 (by decide)
  refine lv_iload_n hx hb dX10_isSquare_5 rfl (lv_at hl 1 rfl) ?_
  refine lv_icmp_ge (tgt := 15) hx hb dX10_isSquare_6 (by decide) (fun c_46 => ?_) (fun c_46 => ?_)
  ·
    have n_c_46 : (a1.toInt : Int) ≤ z_45.toInt := c_ge rfl rfl c_46
    refine lv_iload_n hx hb dX10_isSquare_15 rfl (lv_at hl 0 rfl) ?_
    refine lv_iload_n hx hb dX10_isSquare_16 rfl (lv_at hl 0 rfl) ?_
    refine lv_imul hx hb dX10_isSquare_17 ?_
    refine lv_topi (fun z_48 e_z_48 => ?_)
    obtain ⟨q_z_48, b_z_48⟩ := ti_mul (lo := 0) (hi := 2025) e_z_48 rfl rfl b_y_32 b_y_32 (by decide)
    refine lv_iload_n hx hb dX10_isSquare_18 rfl (lv_at hl 1 rfl) ?_
    refine lv_icmp_ne (tgt := 26) hx hb dX10_isSquare_19 (by decide) (fun c_49 => ?_) (fun c_49 => ?_)
    ·
      have n_c_49 : (z_48.toInt : Int) ≠ a1.toInt := c_ne rfl rfl c_49
      refine lv_iconst (v := 0) hx hb dX10_isSquare_26 (by decide) ?_
      exact W.zret (v := 0) hx hb hr rfl (fun t ht hW => ⟨0, rfl, (rg_w (by decide : (0 : Int) ≤ (0 : Int32).toInt ∧ (0 : Int32).toInt ≤ 0) (by decide) (by decide)), ht⟩) t_nil dX10_isSquare_27
    ·
      have n_c_49 : (z_48.toInt : Int) = a1.toInt := c_eq rfl rfl c_49
      have b_z_48 : (0 : Int) ≤ z_48.toInt ∧ z_48.toInt ≤ 2000 := r_eq1 b_z_48 b_a1 n_c_49 (by decide)
      have b_y_32 : (0 : Int) ≤ y_32.toInt ∧ y_32.toInt ≤ 44 := ⟨(b_y_32).1, sq_bd (h := 2000) (by have q0 := b_y_32; omega) (by have q0 := b_z_48; have q1 := q_z_48; omega) (by decide)⟩
      refine lv_iconst (v := 1) hx hb dX10_isSquare_22 (by decide) ?_
      refine lv_goto (tgt := 27) hx hb dX10_isSquare_23 (by decide) ?_
      exact W.zret (v := 1) hx hb hr rfl (fun t ht hW => ⟨1, rfl, (rg_w (by decide : (1 : Int) ≤ (1 : Int32).toInt ∧ (1 : Int32).toInt ≤ 1) (by decide) (by decide)), ht⟩) t_nil dX10_isSquare_27
  ·
    have n_c_46 : (z_45.toInt : Int) < a1.toInt := c_nge rfl rfl c_46
    have b_z_45 : (0 : Int) ≤ z_45.toInt ∧ z_45.toInt ≤ 1999 := r_lt1 b_z_45 b_a1 n_c_46 (by decide)
    have b_y_32 : (0 : Int) ≤ y_32.toInt ∧ y_32.toInt ≤ 44 := ⟨(b_y_32).1, sq_bd (h := 1999) (by have q0 := b_y_32; omega) (by have q0 := b_z_45; have q1 := q_z_45; omega) (by decide)⟩
    have b_a1 : (1 : Int) ≤ a1.toInt ∧ a1.toInt ≤ 2000 := r_lt2 b_z_45 b_a1 n_c_46 (by decide)
    obtain ⟨z_50, e_z_50⟩ : ∃ y : Int32, y = y_32 + 1 := ⟨_, rfl⟩
    refine lv_iinc (v := z_50) (lv' := [(1, .int z_50), (0, .int a1)]) hx hb dX10_isSquare_9 hl (k := 0) rfl (by rw [e_z_50]; rfl) (by decide) rfl (fun ls hl => ?_)
    obtain ⟨q_z_50, b_z_50⟩ := ti_add (lo := 1) (hi := 45) e_z_50 rfl (by decide : (1 : Int32).toInt = 1) b_y_32 (by decide : (1 : Int) ≤ (1 : Int32).toInt ∧ (1 : Int32).toInt ≤ 1) (by decide)
    refine lv_goto (tgt := 2) hx hb dX10_isSquare_12 (by decide) ?_
    exact ih_2_44 z_50 _ ⟨(show (0 : Int) ≤ z_50.toInt ∧ z_50.toInt ≤ 45 from (rg_w b_z_50 (by decide) (by decide))), lv_sub hl [0, 1] rfl⟩ (show (45 - z_50.toInt).toNat < (45 - y_32.toInt).toNat by omega)
theorem dX10_powerOf_0 : decode cX10_powerOf 0 = .ok (.lconst 1, 1) := by decide +kernel
theorem dX10_powerOf_1 : decode cX10_powerOf 1 = .ok (.lstore_n 3, 1) := by decide +kernel
theorem dX10_powerOf_2 : decode cX10_powerOf 2 = .ok (.iconst 0, 1) := by decide +kernel
theorem dX10_powerOf_3 : decode cX10_powerOf 3 = .ok (.istore 5, 2) := by decide +kernel
theorem dX10_powerOf_5 : decode cX10_powerOf 5 = .ok (.iload 5, 2) := by decide +kernel
theorem dX10_powerOf_7 : decode cX10_powerOf 7 = .ok (.iload_n 2, 1) := by decide +kernel
theorem dX10_powerOf_8 : decode cX10_powerOf 8 = .ok (.if_icmp .ge 13, 3) := by decide +kernel
theorem dX10_powerOf_11 : decode cX10_powerOf 11 = .ok (.lload_n 3, 1) := by decide +kernel
theorem dX10_powerOf_12 : decode cX10_powerOf 12 = .ok (.lload_n 0, 1) := by decide +kernel
theorem dX10_powerOf_13 : decode cX10_powerOf 13 = .ok (.lmul, 1) := by decide +kernel
theorem dX10_powerOf_14 : decode cX10_powerOf 14 = .ok (.lstore_n 3, 1) := by decide +kernel
theorem dX10_powerOf_15 : decode cX10_powerOf 15 = .ok (.iinc 5 1, 3) := by decide +kernel
theorem dX10_powerOf_18 : decode cX10_powerOf 18 = .ok (.goto (-13), 3) := by decide +kernel
theorem dX10_powerOf_21 : decode cX10_powerOf 21 = .ok (.lload_n 3, 1) := by decide +kernel
theorem dX10_powerOf_22 : decode cX10_powerOf 22 = .ok (.lreturn, 1) := by decide +kernel
theorem hd_yX10_powerOf : yX10_powerOf.cls = RX10 ∧ yX10_powerOf.cls ≠ "java/lang/invoke/MethodHandle" ∧ yX10_powerOf.cls ≠ "java/lang/invoke/VarHandle" ∧ (parseMethodDescriptor yX10_powerOf.desc).map (fun d => d.parameters.length) = some 2 := by decide +kernel
def uX10_powerOf : List Cond := List.cons (.code yX10_powerOf cX10_powerOf 6 (some .long)) ([] : List Cond)
theorem guX10_powerOf : GU uX10_powerOf := gu_cons (gu_all (by decide +kernel))
set_option maxHeartbeats 4000000 in
set_option maxRecDepth 100000 in
theorem kX10_powerOf (l : Launch) (dC : Nat → ClassId) (dI : Nat → Nat → Nat) (a1 : Int64) (a2 : Int32) : Met l yX10_powerOf uX10_powerOf ({ frames := 0, cells := 0, slots := 0, locals := 0 }) (va_Pc [.long a1, .int a2] (fun _ => True)) (vp_Sl (fun r => True)) 0 0 (fun _ => False) := by
  refine Met.ofW (cc := cX10_powerOf) (maxL := 6) (ret := (some .long)) pn_X10 rfl ?_
  intro p e s m args below meth c s₁ B hml hv
  obtain ⟨rfl, _⟩ := hv
  have hx := B.exec
  have hb := B.bytes
  have hr := B.returns
  have hts := atoms_spec (ws := uX10_powerOf) B.pre
  have hown : s.vm.findClass RX10 = some m.cls := hown_of B.named rfl
  have hlocks := B.notSynchronized
  have hl := lv_entry ([.long a1, .int a2]) (n := 6) (Nat.le_of_ble_eq_true rfl)
  rw [lg_entry_eq]
  generalize (lg_sl ([.long a1, .int a2]) ++ List.replicate (6 - (lg_sl ([.long a1, .int a2])).length) Slot.unset).toArray = ls at hl ⊢
  have hl : lv_has ls 6 [(0, .long a1), (2, .int a2)] := hl
  refine lv_lconst (v := 1) hx hb dX10_powerOf_0 (by decide) ?_
  refine lv_lstore_n (lv' := [(3, .long 1), (0, .long a1), (2, .int a2)]) hx hb dX10_powerOf_1 rfl hl (by decide) rfl (fun ls hl => ?_)
  refine lv_iconst (v := 0) hx hb dX10_powerOf_2 (by decide) ?_
  refine lv_istore (lv' := [(5, .int 0), (3, .long 1), (0, .long a1), (2, .int a2)]) hx hb dX10_powerOf_3 hl (by decide) rfl (fun ls hl => ?_)
  refine loopP (σ := Int32 × Int64) (fun v => (2147483647 - v.1.toInt).toNat) (fun v ls => ((0 : Int) ≤ v.1.toInt ∧ v.1.toInt ≤ 2147483647) ∧ lv_has ls 6 [(5, .int v.1), (3, .long v.2), (0, .long a1), (2, .int a2)]) (fun v ls hI ih_5_97 => ?_) ((0 : Int32), (1 : Int64)) ⟨(show (0 : Int) ≤ (0 : Int32).toInt ∧ (0 : Int32).toInt ≤ 2147483647 from (rg_w (by decide : (0 : Int) ≤ (0 : Int32).toInt ∧ (0 : Int32).toInt ≤ 0) (by decide) (by decide))), lv_sub hl [0, 1, 2, 3] rfl⟩
  obtain ⟨y_54, y_55⟩ := v
  obtain ⟨b_y_54, hl⟩ := hI
  have b_y_54 : (0 : Int) ≤ y_54.toInt ∧ y_54.toInt ≤ 2147483647 := b_y_54
  have hl : lv_has ls 6 [(5, .int y_54), (3, .long y_55), (0, .long a1), (2, .int a2)] := hl
  refine lv_iload hx hb dX10_powerOf_5 (lv_at hl 0 rfl) ?_
  refine lv_iload_n hx hb dX10_powerOf_7 rfl (lv_at hl 3 rfl) ?_
  refine lv_icmp_ge (tgt := 21) hx hb dX10_powerOf_8 (by decide) (fun c_98 => ?_) (fun c_98 => ?_)
  ·
    have n_c_98 : (a2.toInt : Int) ≤ y_54.toInt := c_ge rfl rfl c_98
    refine lv_lload_n hx hb dX10_powerOf_21 rfl (lv_at hl 1 rfl) ?_
    exact W.lret (v := y_55) hx hb hr (fun t ht hW => ⟨y_55, rfl, trivial, ht⟩) t_nil dX10_powerOf_22
  ·
    have n_c_98 : (y_54.toInt : Int) < a2.toInt := c_nge rfl rfl c_98
    have b_y_54 : (0 : Int) ≤ y_54.toInt ∧ y_54.toInt ≤ 2147483646 := r_lt1 b_y_54 (ti_rng a2) n_c_98 (by decide)
    have b_a2 : (1 : Int) ≤ a2.toInt ∧ a2.toInt ≤ 2147483647 := r_lt2 b_y_54 (ti_rng a2) n_c_98 (by decide)
    refine lv_lload_n hx hb dX10_powerOf_11 rfl (lv_at hl 1 rfl) ?_
    refine lv_lload_n hx hb dX10_powerOf_12 rfl (lv_at hl 2 rfl) ?_
    refine lv_lmul hx hb dX10_powerOf_13 ?_
    refine lv_topl (fun z_99 e_z_99 => ?_)
    refine lv_lstore_n (lv' := [(3, .long z_99), (5, .int y_54), (0, .long a1), (2, .int a2)]) hx hb dX10_powerOf_14 rfl hl (by decide) rfl (fun ls hl => ?_)
    obtain ⟨z_100, e_z_100⟩ : ∃ y : Int32, y = y_54 + 1 := ⟨_, rfl⟩
    refine lv_iinc (v := z_100) (lv' := [(5, .int z_100), (3, .long z_99), (0, .long a1), (2, .int a2)]) hx hb dX10_powerOf_15 hl (k := 1) rfl (by rw [e_z_100]; rfl) (by decide) rfl (fun ls hl => ?_)
    obtain ⟨q_z_100, b_z_100⟩ := ti_add (lo := 1) (hi := 2147483647) e_z_100 rfl (by decide : (1 : Int32).toInt = 1) b_y_54 (by decide : (1 : Int) ≤ (1 : Int32).toInt ∧ (1 : Int32).toInt ≤ 1) (by decide)
    refine lv_goto (tgt := 5) hx hb dX10_powerOf_18 (by decide) ?_
    exact ih_5_97 (z_100, z_99) _ ⟨(show (0 : Int) ≤ z_100.toInt ∧ z_100.toInt ≤ 2147483647 from (rg_w b_z_100 (by decide) (by decide))), lv_sub hl [0, 1, 2, 3] rfl⟩ (show (2147483647 - z_100.toInt).toNat < (2147483647 - y_54.toInt).toNat by omega)
theorem dX10_bits_0 : decode cX10_bits 0 = .ok (.iconst 0, 1) := by decide +kernel
theorem dX10_bits_1 : decode cX10_bits 1 = .ok (.istore_n 1, 1) := by decide +kernel
theorem dX10_bits_2 : decode cX10_bits 2 = .ok (.iconst 0, 1) := by decide +kernel
theorem dX10_bits_3 : decode cX10_bits 3 = .ok (.istore_n 2, 1) := by decide +kernel
theorem dX10_bits_4 : decode cX10_bits 4 = .ok (.iload_n 2, 1) := by decide +kernel
theorem dX10_bits_5 : decode cX10_bits 5 = .ok (.bipush 12, 2) := by decide +kernel
theorem dX10_bits_7 : decode cX10_bits 7 = .ok (.if_icmp .ge 17, 3) := by decide +kernel
theorem dX10_bits_10 : decode cX10_bits 10 = .ok (.iload_n 1, 1) := by decide +kernel
theorem dX10_bits_11 : decode cX10_bits 11 = .ok (.iload_n 0, 1) := by decide +kernel
theorem dX10_bits_12 : decode cX10_bits 12 = .ok (.iload_n 2, 1) := by decide +kernel
theorem dX10_bits_13 : decode cX10_bits 13 = .ok (.ishr, 1) := by decide +kernel
theorem dX10_bits_14 : decode cX10_bits 14 = .ok (.iconst 1, 1) := by decide +kernel
theorem dX10_bits_15 : decode cX10_bits 15 = .ok (.iand, 1) := by decide +kernel
theorem dX10_bits_16 : decode cX10_bits 16 = .ok (.iadd, 1) := by decide +kernel
theorem dX10_bits_17 : decode cX10_bits 17 = .ok (.istore_n 1, 1) := by decide +kernel
theorem dX10_bits_18 : decode cX10_bits 18 = .ok (.iinc 2 1, 3) := by decide +kernel
theorem dX10_bits_21 : decode cX10_bits 21 = .ok (.goto (-17), 3) := by decide +kernel
theorem dX10_bits_24 : decode cX10_bits 24 = .ok (.iload_n 1, 1) := by decide +kernel
theorem dX10_bits_25 : decode cX10_bits 25 = .ok (.ireturn, 1) := by decide +kernel
theorem hd_yX10_bits : yX10_bits.cls = RX10 ∧ yX10_bits.cls ≠ "java/lang/invoke/MethodHandle" ∧ yX10_bits.cls ≠ "java/lang/invoke/VarHandle" ∧ (parseMethodDescriptor yX10_bits.desc).map (fun d => d.parameters.length) = some 1 := by decide +kernel
def uX10_bits : List Cond := List.cons (.code yX10_bits cX10_bits 3 (some .int)) ([] : List Cond)
theorem guX10_bits : GU uX10_bits := gu_cons (gu_all (by decide +kernel))
set_option maxHeartbeats 4000000 in
set_option maxRecDepth 100000 in
theorem kX10_bits (l : Launch) (dC : Nat → ClassId) (dI : Nat → Nat → Nat) (a1 : Int32) : Met l yX10_bits uX10_bits ({ frames := 0, cells := 0, slots := 0, locals := 0 }) (va_Pc [.int a1] (fun _ => True)) (vp_Si (fun r => True)) 0 0 (fun _ => False) := by
  refine Met.ofW (cc := cX10_bits) (maxL := 3) (ret := (some .int)) pn_X10 rfl ?_
  intro p e s m args below meth c s₁ B hml hv
  obtain ⟨rfl, _⟩ := hv
  have hx := B.exec
  have hb := B.bytes
  have hr := B.returns
  have hts := atoms_spec (ws := uX10_bits) B.pre
  have hown : s.vm.findClass RX10 = some m.cls := hown_of B.named rfl
  have hlocks := B.notSynchronized
  have hl := lv_entry ([.int a1]) (n := 3) (Nat.le_of_ble_eq_true rfl)
  rw [lg_entry_eq]
  generalize (lg_sl ([.int a1]) ++ List.replicate (3 - (lg_sl ([.int a1])).length) Slot.unset).toArray = ls at hl ⊢
  have hl : lv_has ls 3 [(0, .int a1)] := hl
  refine lv_iconst (v := 0) hx hb dX10_bits_0 (by decide) ?_
  refine lv_istore_n (lv' := [(1, .int 0), (0, .int a1)]) hx hb dX10_bits_1 rfl hl (by decide) rfl (fun ls hl => ?_)
  refine lv_iconst (v := 0) hx hb dX10_bits_2 (by decide) ?_
  refine lv_istore_n (lv' := [(2, .int 0), (1, .int 0), (0, .int a1)]) hx hb dX10_bits_3 rfl hl (by decide) rfl (fun ls hl => ?_)
  refine loopP (σ := Int32 × Int32) (fun v => (12 - v.1.toInt).toNat) (fun v ls => ((0 : Int) ≤ v.1.toInt ∧ v.1.toInt ≤ 12) ∧ lv_has ls 3 [(2, .int v.1), (1, .int v.2), (0, .int a1)]) (fun v ls hI ih_4_169 => ?_) ((0 : Int32), (0 : Int32)) ⟨(show (0 : Int) ≤ (0 : Int32).toInt ∧ (0 : Int32).toInt ≤ 12 from (rg_w (by decide : (0 : Int) ≤ (0 : Int32).toInt ∧ (0 : Int32).toInt ≤ 0) (by decide) (by decide))), lv_sub hl [0, 1, 2] rfl⟩
  obtain ⟨y_93, y_94⟩ := v
  obtain ⟨b_y_93, hl⟩ := hI
  have b_y_93 : (0 : Int) ≤ y_93.toInt ∧ y_93.toInt ≤ 12 := b_y_93
  have hl : lv_has ls 3 [(2, .int y_93), (1, .int y_94), (0, .int a1)] := hl
  refine lv_iload_n hx hb dX10_bits_4 rfl (lv_at hl 0 rfl) ?_
  refine lv_bipush (v := 12) hx hb dX10_bits_5 (by decide) ?_
  refine lv_icmp_ge (tgt := 24) hx hb dX10_bits_7 (by decide) (fun c_170 => ?_) (fun c_170 => ?_)
  ·
    have n_c_170 : (12 : Int) ≤ y_93.toInt := c_ge rfl (by decide) c_170
    have b_y_93 : (12 : Int) ≤ y_93.toInt ∧ y_93.toInt ≤ 12 := r_le2 (by decide : (12 : Int) ≤ (12 : Int32).toInt ∧ (12 : Int32).toInt ≤ 12) b_y_93 n_c_170 (by decide)
    refine lv_iload_n hx hb dX10_bits_24 rfl (lv_at hl 1 rfl) ?_
    exact W.iret (v := y_94) hx hb hr (fun t ht hW => ⟨y_94, rfl, trivial, ht⟩) t_nil dX10_bits_25
  ·
    have n_c_170 : (y_93.toInt : Int) < 12 := c_nge rfl (by decide) c_170
    have b_y_93 : (0 : Int) ≤ y_93.toInt ∧ y_93.toInt ≤ 11 := r_lt1 b_y_93 (by decide : (12 : Int) ≤ (12 : Int32).toInt ∧ (12 : Int32).toInt ≤ 12) n_c_170 (by decide)
    refine lv_iload_n hx hb dX10_bits_10 rfl (lv_at hl 1 rfl) ?_
    refine lv_iload_n hx hb dX10_bits_11 rfl (lv_at hl 2 rfl) ?_
    refine lv_iload_n hx hb dX10_bits_12 rfl (lv_at hl 0 rfl) ?_
    refine lv_ishr hx hb dX10_bits_13 ?_
    refine lv_topi (fun z_171 e_z_171 => ?_)
    refine lv_iconst (v := 1) hx hb dX10_bits_14 (by decide) ?_
    refine lv_iand hx hb dX10_bits_15 ?_
    refine lv_topi (fun z_172 e_z_172 => ?_)
    have b_z_172 : (0 : Int) ≤ z_172.toInt ∧ z_172.toInt ≤ 1 := ti_and (k := 1) e_z_172 (by decide) (by decide) (by decide)
    refine lv_iadd hx hb dX10_bits_16 ?_
    refine lv_topi (fun z_173 e_z_173 => ?_)
    refine lv_istore_n (lv' := [(1, .int z_173), (2, .int y_93), (0, .int a1)]) hx hb dX10_bits_17 rfl hl (by decide) rfl (fun ls hl => ?_)
    obtain ⟨z_174, e_z_174⟩ : ∃ y : Int32, y = y_93 + 1 := ⟨_, rfl⟩
    refine lv_iinc (v := z_174) (lv' := [(2, .int z_174), (1, .int z_173), (0, .int a1)]) hx hb dX10_bits_18 hl (k := 1) rfl (by rw [e_z_174]; rfl) (by decide) rfl (fun ls hl => ?_)
    obtain ⟨q_z_174, b_z_174⟩ := ti_add (lo := 1) (hi := 12) e_z_174 rfl (by decide : (1 : Int32).toInt = 1) b_y_93 (by decide : (1 : Int) ≤ (1 : Int32).toInt ∧ (1 : Int32).toInt ≤ 1) (by decide)
    refine lv_goto (tgt := 4) hx hb dX10_bits_21 (by decide) ?_
    exact ih_4_169 (z_174, z_173) _ ⟨(show (0 : Int) ≤ z_174.toInt ∧ z_174.toInt ≤ 12 from (rg_w b_z_174 (by decide) (by decide))), lv_sub hl [0, 1, 2] rfl⟩ (show (12 - z_174.toInt).toNat < (12 - y_93.toInt).toNat by omega)
