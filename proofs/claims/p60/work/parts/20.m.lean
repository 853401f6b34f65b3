theorem dX10_in_0 : decode cX10_in 0 = .ok (.lload_n 0, 1) := by decide +kernel
theorem dX10_in_1 : decode cX10_in 1 = .ok (.lload_n 2, 1) := by decide +kernel
theorem dX10_in_2 : decode cX10_in 2 = .ok (.lcmp, 1) := by decide +kernel
theorem dX10_in_3 : decode cX10_in 3 = .ok (.ifCond .lt 14, 3) := by decide +kernel
theorem dX10_in_6 : decode cX10_in 6 = .ok (.lload_n 0, 1) := by decide +kernel
theorem dX10_in_7 : decode cX10_in 7 = .ok (.lload 4, 2) := by decide +kernel
theorem dX10_in_9 : decode cX10_in 9 = .ok (.lcmp, 1) := by decide +kernel
theorem dX10_in_10 : decode cX10_in 10 = .ok (.ifCond .gt 7, 3) := by decide +kernel
theorem dX10_in_13 : decode cX10_in 13 = .ok (.iconst 1, 1) := by decide +kernel
theorem dX10_in_14 : decode cX10_in 14 = .ok (.goto 4, 3) := by decide +kernel
theorem dX10_in_17 : decode cX10_in 17 = .ok (.iconst 0, 1) := by decide +kernel
theorem dX10_in_18 : decode cX10_in 18 = .ok (.ireturn, 1) := by decide +kernel
def uX10_in : List Cond := .code yX10_in cX10_in 6 (some .boolean) :: ([])
set_option maxHeartbeats 4000000 in
set_option maxRecDepth 100000 in
theorem kX10_in (l : Launch) (dC : Nat → ClassId) (dI : Nat → Nat → Nat) (a1 : Int64) (a2 : Int64) (a3 : Int64) : Met l yX10_in uX10_in ({ frames := 0, cells := 0, slots := 0, locals := 0 }) (va_Pc [.long a1, .long a2, .long a3] (fun _ => True)) (vp_Si (fun r => ((0 : Int) ≤ r.toInt ∧ r.toInt ≤ 1) ∧ (r ≠ 0 → (a2.toInt ≤ a1.toInt ∧ a1.toInt ≤ a3.toInt)))) 0 0 (fun _ => False) := by
  refine Met.ofW (cc := cX10_in) (maxL := 6) (ret := (some .boolean)) (by decide) rfl ?_
  intro p e s m args below meth c s₁ B hml hv
  obtain ⟨rfl, _⟩ := hv
  have hx := B.exec
  have hb := B.bytes
  have hr := B.returns
  have hts := atoms_spec (ws := uX10_in) B.pre
  have hown : s.vm.findClass RX10 = some m.cls := findClass_of_methodNamed B.named
  have hlocks := B.notSynchronized
  have hl := lv_entry ([.long a1, .long a2, .long a3]) (n := 6) (Nat.le_of_ble_eq_true rfl)
  rw [lg_entry_eq]
  generalize (lg_sl ([.long a1, .long a2, .long a3]) ++ List.replicate (6 - (lg_sl ([.long a1, .long a2, .long a3])).length) Slot.unset).toArray = ls at hl ⊢
  have hl : lv_has ls 6 [(0, .long a1), (2, .long a2), (4, .long a3)] := hl
  refine lv_lload_n hx hb dX10_in_0 rfl (lv_at hl 0 rfl) ?_
  refine lv_lload_n hx hb dX10_in_1 rfl (lv_at hl 1 rfl) ?_
  refine W.lcmp hx hb dX10_in_2 ?_
  refine lv_if_lt (tgt := 17) hx hb dX10_in_3 (by decide) (fun c_3 => ?_) (fun c_3 => ?_)
  ·
    have n_c_3 : (a1.toInt : Int) < a2.toInt := g_lt rfl rfl c_3
    have b_a1 : (-9223372036854775808 : Int) ≤ a1.toInt ∧ a1.toInt ≤ 9223372036854775806 := r_lt1 (tl_rng a1) (tl_rng a2) n_c_3 (by decide)
    have b_a2 : (-9223372036854775807 : Int) ≤ a2.toInt ∧ a2.toInt ≤ 9223372036854775807 := r_lt2 (tl_rng a1) (tl_rng a2) n_c_3 (by decide)
    refine lv_iconst (v := 0) hx hb dX10_in_17 (by decide) ?_
    exact W.zret (v := 0) hx hb hr rfl (fun t ht hW => ⟨0, rfl, ⟨(rg_w (by decide : (0 : Int) ≤ (0 : Int32).toInt ∧ (0 : Int32).toInt ≤ 0) (by decide) (by decide)), (fun h9 => absurd rfl h9)⟩, ht⟩) t_nil dX10_in_18
  ·
    have n_c_3 : (a2.toInt : Int) ≤ a1.toInt := g_nlt rfl rfl c_3
    refine lv_lload_n hx hb dX10_in_6 rfl (lv_at hl 0 rfl) ?_
    refine lv_lload hx hb dX10_in_7 (lv_at hl 2 rfl) ?_
    refine W.lcmp hx hb dX10_in_9 ?_
    refine lv_if_gt (tgt := 17) hx hb dX10_in_10 (by decide) (fun c_4 => ?_) (fun c_4 => ?_)
    ·
      have n_c_4 : (a3.toInt : Int) < a1.toInt := g_gt rfl rfl c_4
      have b_a3 : (-9223372036854775808 : Int) ≤ a3.toInt ∧ a3.toInt ≤ 9223372036854775806 := r_lt1 (tl_rng a3) (tl_rng a1) n_c_4 (by decide)
      have b_a1 : (-9223372036854775807 : Int) ≤ a1.toInt ∧ a1.toInt ≤ 9223372036854775807 := r_lt2 (tl_rng a3) (tl_rng a1) n_c_4 (by decide)
      refine lv_iconst (v := 0) hx hb dX10_in_17 (by decide) ?_
      exact W.zret (v := 0) hx hb hr rfl (fun t ht hW => ⟨0, rfl, ⟨(rg_w (by decide : (0 : Int) ≤ (0 : Int32).toInt ∧ (0 : Int32).toInt ≤ 0) (by decide) (by decide)), (fun h9 => absurd rfl h9)⟩, ht⟩) t_nil dX10_in_18
    ·
      have n_c_4 : (a1.toInt : Int) ≤ a3.toInt := g_ngt rfl rfl c_4
      refine lv_iconst (v := 1) hx hb dX10_in_13 (by decide) ?_
      refine lv_goto (tgt := 18) hx hb dX10_in_14 (by decide) ?_
      exact W.zret (v := 1) hx hb hr rfl (fun t ht hW => ⟨1, rfl, ⟨(rg_w (by decide : (1 : Int) ≤ (1 : Int32).toInt ∧ (1 : Int32).toInt ≤ 1) (by decide) (by decide)), (fun _ => (by omega))⟩, ht⟩) t_nil dX10_in_18
theorem dX10_isRoll_0 : decode cX10_isRoll 0 = .ok (.aload_n 0, 1) := by decide +kernel
theorem dX10_isRoll_1 : decode cX10_isRoll 1 = .ok (.getfield 9, 3) := by decide +kernel
theorem dX10_isRoll_4 : decode cX10_isRoll 4 = .ok (.iconst 0, 1) := by decide +kernel
theorem dX10_isRoll_5 : decode cX10_isRoll 5 = .ok (.iaload, 1) := by decide +kernel
theorem dX10_isRoll_6 : decode cX10_isRoll 6 = .ok (.ifCond .le 7, 3) := by decide +kernel
theorem dX10_isRoll_9 : decode cX10_isRoll 9 = .ok (.iconst 1, 1) := by decide +kernel
theorem dX10_isRoll_10 : decode cX10_isRoll 10 = .ok (.goto 4, 3) := by decide +kernel
theorem dX10_isRoll_13 : decode cX10_isRoll 13 = .ok (.iconst 0, 1) := by decide +kernel
theorem dX10_isRoll_14 : decode cX10_isRoll 14 = .ok (.ireturn, 1) := by decide +kernel
def uX10_isRoll : List Cond := .code yX10_isRoll cX10_isRoll 1 (some .boolean) :: ([.fieldLink RX10 9 "LuckyTicketModel" "world" "[I"] ++ wsX100)
theorem iX10_isRoll_X10 : ∀ w ∈ wsX100, w ∈ uX10_isRoll := fun _ h => List.mem_cons_of_mem _ (List.mem_append_right _ h)
set_option maxHeartbeats 4000000 in
set_option maxRecDepth 100000 in
theorem kX10_isRoll (l : Launch) (dC : Nat → ClassId) (dI : Nat → Nat → Nat) (o0 : Nat) (x_th : Int32) (mwo : Nat) (mim : Nat) (mhi : Nat) (mlu : Nat) (mtp : Nat) (x_td : Int32) (mfv : Nat) (x_sz : Int32) (x_at : Int32) (x_fr : Int32) (x_to : Int32) (x_va : Int32) (x_fk : Int32) (x_fp : Int32) (mfr : Nat) (mwt : Nat) (x_wt : Int32) (x_op : Int32) (x_jo : Int32) (mfg : Nat) (mpl : Nat) (x_dr : Int64) (mtm : Nat) (mfa : Nat) (mqu : Nat) (mmo : Nat) (mwy : Nat) (mwn : Nat) (mma : Nat) (mwi : Nat) (mnu : Nat) (mmv : Nat) (c_wo : ClassId) (w_wo : Nat → Int32) (ln : Int32) (bs : Int32) (tk : Int32) (lw : Int32) (li : Int32) (b_ln : (0 : Int) ≤ ln.toInt ∧ ln.toInt ≤ 12) (b_bs : (0 : Int) ≤ bs.toInt ∧ bs.toInt ≤ 16) (b_tk : (0 : Int) ≤ tk.toInt ∧ tk.toInt ≤ 20000) (b_lw : (0 : Int) ≤ lw.toInt ∧ lw.toInt ≤ 9) (hw0 : w_wo 0 = ln) (hw1 : w_wo 1 = bs) (hw2 : w_wo 2 = tk) (hw3 : w_wo 3 = lw) (hw4 : w_wo 4 = li) (hwz : (ln.toInt = 0 ∧ bs.toInt = 0 ∧ tk.toInt = 0 ∧ lw.toInt = 0) ∨ (1 ≤ ln.toInt ∧ 2 ≤ bs.toInt ∧ 1 ≤ tk.toInt)) : Met l yX10_isRoll uX10_isRoll ({ frames := 0, cells := 0, slots := 0, locals := 0 }) (va_Pc [.ref o0] (pw (dC, dI) vwCl [(o0, .inr (8, [.int x_th, .ref mwo, .ref mim, .ref mhi, .ref mlu, .ref mtp, .int x_td, .ref mfv, .int x_sz, .int x_at, .int x_fr, .int x_to, .int x_va, .int x_fk, .int x_fp, .ref mfr, .ref mwt, .int x_wt, .int x_op, .int x_jo, .ref mfg, .ref mpl, .long x_dr, .ref mtm, .ref mfa, .ref mqu, .ref mmo, .ref mwy, .ref mwn, .ref mma, .ref mwi, .ref mnu, .ref mmv])), (mwo, .inl (c_wo, 1875, .inl w_wo))] [(c_wo, .int)])) (vp_Si (fun r => ((0 : Int) ≤ r.toInt ∧ r.toInt ≤ 1) ∧ (r ≠ 0 → ((1 : Int) ≤ ln.toInt ∧ ln.toInt ≤ 12) ∧ (1 ≤ tk.toInt)))) 0 0 (fun _ => False) := by
  refine Met.ofW (cc := cX10_isRoll) (maxL := 1) (ret := (some .boolean)) (by decide) rfl ?_
  intro p e s m args below meth c s₁ B hml hv
  obtain ⟨rfl, hP, hK, hN⟩ := hv
  have hx := B.exec
  have hb := B.bytes
  have hr := B.returns
  have hts := atoms_spec (ws := uX10_isRoll) B.pre
  have hown : s.vm.findClass RX10 = some m.cls := findClass_of_methodNamed B.named
  have hlocks := B.notSynchronized
  have hl := lv_entry ([.ref o0]) (n := 1) (Nat.le_of_ble_eq_true rfl)
  rw [lg_entry_eq]
  generalize (lg_sl ([.ref o0]) ++ List.replicate (1 - (lg_sl ([.ref o0])).length) Slot.unset).toArray = ls at hl ⊢
  have hl : lv_has ls 1 [(0, .ref o0)] := hl
  refine lv_aload_n hx hb dX10_isRoll_0 rfl (lv_at hl 0 rfl) ?_
  refine va_get (D := (dC, dI)) (ci := 8) (v := .ref mwo) (C := RX10) (T := TX10) (N := 33) hx hb hts iX10_isRoll_X10 hown hK hP 0 rfl rfl 1 (by decide) (hts (.fieldLink RX10 9 "LuckyTicketModel" "world" "[I") (List.mem_of_getElem? (i := 1) rfl)) (fun _ h9 => h9) rfl dX10_isRoll_1 ?_
  refine lv_iconst (v := 0) hx hb dX10_isRoll_4 (by decide) ?_
  refine va_iald hx hb hK hP 1 0 rfl rfl (vp_in_b (by decide : (0 : Int) ≤ (0 : Int32).toInt ∧ (0 : Int32).toInt ≤ 0) (by decide) (by decide)) dX10_isRoll_5 ?_
  refine lv_topi (fun z_3 e_z_3 => ?_)
  obtain rfl : z_3 = ln := e_z_3.trans hw0
  refine lv_if_le (tgt := 13) hx hb dX10_isRoll_6 (by decide) (fun c_4 => ?_) (fun c_4 => ?_)
  ·
    have n_c_4 : (ln.toInt : Int) ≤ 0 := c_le rfl (by decide) c_4
    have b_ln : (0 : Int) ≤ ln.toInt ∧ ln.toInt ≤ 0 := r_le1 b_ln (by decide : (0 : Int) ≤ (0 : Int32).toInt ∧ (0 : Int32).toInt ≤ 0) n_c_4 (by decide)
    refine lv_iconst (v := 0) hx hb dX10_isRoll_13 (by decide) ?_
    exact W.zret (v := 0) hx hb hr rfl (fun t ht hW => ⟨0, rfl, ⟨(rg_w (by decide : (0 : Int) ≤ (0 : Int32).toInt ∧ (0 : Int32).toInt ≤ 0) (by decide) (by decide)), (fun h9 => absurd rfl h9)⟩, ht⟩) t_nil dX10_isRoll_14
  ·
    have n_c_4 : (0 : Int) < ln.toInt := c_nle rfl (by decide) c_4
    have b_ln : (1 : Int) ≤ ln.toInt ∧ ln.toInt ≤ 12 := r_lt2 (by decide : (0 : Int) ≤ (0 : Int32).toInt ∧ (0 : Int32).toInt ≤ 0) b_ln n_c_4 (by decide)
    refine lv_iconst (v := 1) hx hb dX10_isRoll_9 (by decide) ?_
    refine lv_goto (tgt := 14) hx hb dX10_isRoll_10 (by decide) ?_
    exact W.zret (v := 1) hx hb hr rfl (fun t ht hW => ⟨1, rfl, ⟨(rg_w (by decide : (1 : Int) ≤ (1 : Int32).toInt ∧ (1 : Int32).toInt ≤ 1) (by decide) (by decide)), (fun _ => ⟨⟨by omega, by omega⟩, (by omega)⟩)⟩, ht⟩) t_nil dX10_isRoll_14
theorem dX10_isLaw_0 : decode cX10_isLaw 0 = .ok (.iload_n 1, 1) := by decide +kernel
theorem dX10_isLaw_1 : decode cX10_isLaw 1 = .ok (.i2l, 1) := by decide +kernel
theorem dX10_isLaw_2 : decode cX10_isLaw 2 = .ok (.lconst 0, 1) := by decide +kernel
theorem dX10_isLaw_3 : decode cX10_isLaw 3 = .ok (.aload_n 0, 1) := by decide +kernel
theorem dX10_isLaw_4 : decode cX10_isLaw 4 = .ok (.getfield 9, 3) := by decide +kernel
theorem dX10_isLaw_7 : decode cX10_isLaw 7 = .ok (.iconst 3, 1) := by decide +kernel
theorem dX10_isLaw_8 : decode cX10_isLaw 8 = .ok (.iaload, 1) := by decide +kernel
theorem dX10_isLaw_9 : decode cX10_isLaw 9 = .ok (.iconst 1, 1) := by decide +kernel
theorem dX10_isLaw_10 : decode cX10_isLaw 10 = .ok (.isub, 1) := by decide +kernel
theorem dX10_isLaw_11 : decode cX10_isLaw 11 = .ok (.i2l, 1) := by decide +kernel
theorem dX10_isLaw_12 : decode cX10_isLaw 12 = .ok (.invokestatic 82, 3) := by decide +kernel
theorem dX10_isLaw_15 : decode cX10_isLaw 15 = .ok (.ireturn, 1) := by decide +kernel
def uX10_isLaw : List Cond := .code yX10_isLaw cX10_isLaw 2 (some .boolean) :: ([.fieldLink RX10 9 "LuckyTicketModel" "world" "[I", .methodLink RX10 82 yX10_in, .static yX10_in, .initialized RX10, .code yX10_in cX10_in 6 (some .boolean)] ++ wsX100)
theorem iX10_isLaw_X10 : ∀ w ∈ wsX100, w ∈ uX10_isLaw := fun _ h => List.mem_cons_of_mem _ (List.mem_append_right _ h)
set_option maxRecDepth 20000 in
theorem gX10_isLaw__X10_in_S82 : GoodIn uX10_isLaw (va_wsS RX10 82 yX10_in uX10_in) := goodIn_p _ [5] rfl (by decide +kernel)
set_option maxHeartbeats 4000000 in
set_option maxRecDepth 100000 in
theorem kX10_isLaw (l : Launch) (dC : Nat → ClassId) (dI : Nat → Nat → Nat) (o0 : Nat) (x_th : Int32) (mwo : Nat) (mim : Nat) (mhi : Nat) (mlu : Nat) (mtp : Nat) (x_td : Int32) (mfv : Nat) (x_sz : Int32) (x_at : Int32) (x_fr : Int32) (x_to : Int32) (x_va : Int32) (x_fk : Int32) (x_fp : Int32) (mfr : Nat) (mwt : Nat) (x_wt : Int32) (x_op : Int32) (x_jo : Int32) (mfg : Nat) (mpl : Nat) (x_dr : Int64) (mtm : Nat) (mfa : Nat) (mqu : Nat) (mmo : Nat) (mwy : Nat) (mwn : Nat) (mma : Nat) (mwi : Nat) (mnu : Nat) (mmv : Nat) (c_wo : ClassId) (w_wo : Nat → Int32) (ln : Int32) (bs : Int32) (tk : Int32) (lw : Int32) (li : Int32) (a1 : Int32) (b_ln : (0 : Int) ≤ ln.toInt ∧ ln.toInt ≤ 12) (b_bs : (0 : Int) ≤ bs.toInt ∧ bs.toInt ≤ 16) (b_tk : (0 : Int) ≤ tk.toInt ∧ tk.toInt ≤ 20000) (b_lw : (0 : Int) ≤ lw.toInt ∧ lw.toInt ≤ 9) (hw0 : w_wo 0 = ln) (hw1 : w_wo 1 = bs) (hw2 : w_wo 2 = tk) (hw3 : w_wo 3 = lw) (hw4 : w_wo 4 = li) (hwz : (ln.toInt = 0 ∧ bs.toInt = 0 ∧ tk.toInt = 0 ∧ lw.toInt = 0) ∨ (1 ≤ ln.toInt ∧ 2 ≤ bs.toInt ∧ 1 ≤ tk.toInt)) : Met l yX10_isLaw uX10_isLaw ({ frames := 1, cells := 0, slots := 0, locals := 25 }) (va_Pc [.ref o0, .int a1] (pw (dC, dI) vwCl [(o0, .inr (8, [.int x_th, .ref mwo, .ref mim, .ref mhi, .ref mlu, .ref mtp, .int x_td, .ref mfv, .int x_sz, .int x_at, .int x_fr, .int x_to, .int x_va, .int x_fk, .int x_fp, .ref mfr, .ref mwt, .int x_wt, .int x_op, .int x_jo, .ref mfg, .ref mpl, .long x_dr, .ref mtm, .ref mfa, .ref mqu, .ref mmo, .ref mwy, .ref mwn, .ref mma, .ref mwi, .ref mnu, .ref mmv])), (mwo, .inl (c_wo, 1875, .inl w_wo))] [(c_wo, .int)])) (vp_Si (fun r => ((0 : Int) ≤ r.toInt ∧ r.toInt ≤ 1) ∧ (r ≠ 0 → ((0 : Int) ≤ a1.toInt ∧ a1.toInt ≤ 8) ∧ (a1.toInt < lw.toInt ∧ 1 ≤ tk.toInt)))) 0 0 (fun _ => False) := by
  refine Met.ofW (cc := cX10_isLaw) (maxL := 2) (ret := (some .boolean)) (by decide) rfl ?_
  intro p e s m args below meth c s₁ B hml hv
  obtain ⟨rfl, hP, hK, hN⟩ := hv
  have hx := B.exec
  have hb := B.bytes
  have hr := B.returns
  have hts := atoms_spec (ws := uX10_isLaw) B.pre
  have hown : s.vm.findClass RX10 = some m.cls := findClass_of_methodNamed B.named
  have hlocks := B.notSynchronized
  have hl := lv_entry ([.ref o0, .int a1]) (n := 2) (Nat.le_of_ble_eq_true rfl)
  rw [lg_entry_eq]
  generalize (lg_sl ([.ref o0, .int a1]) ++ List.replicate (2 - (lg_sl ([.ref o0, .int a1])).length) Slot.unset).toArray = ls at hl ⊢
  have hl : lv_has ls 2 [(0, .ref o0), (1, .int a1)] := hl
  refine lv_iload_n hx hb dX10_isLaw_0 rfl (lv_at hl 1 rfl) ?_
  obtain ⟨z_6, e_z_6⟩ : ∃ y : Int64, y = a1.toInt64 := ⟨_, rfl⟩
  refine lv_i2l (v := z_6) hx hb dX10_isLaw_1 e_z_6.symm ?_
  obtain ⟨q_z_6, b_z_6⟩ := ti_i2l e_z_6 (ti_rng a1)
  refine lv_lconst (v := 0) hx hb dX10_isLaw_2 (by decide) ?_
  refine lv_aload_n hx hb dX10_isLaw_3 rfl (lv_at hl 0 rfl) ?_
  refine va_get (D := (dC, dI)) (ci := 8) (v := .ref mwo) (C := RX10) (T := TX10) (N := 33) hx hb hts iX10_isLaw_X10 hown hK hP 0 rfl rfl 1 (by decide) (hts (.fieldLink RX10 9 "LuckyTicketModel" "world" "[I") (List.mem_of_getElem? (i := 1) rfl)) (fun _ h9 => h9) rfl dX10_isLaw_4 ?_
  refine lv_iconst (v := 3) hx hb dX10_isLaw_7 (by decide) ?_
  refine va_iald hx hb hK hP 1 0 rfl rfl (vp_in_b (by decide : (3 : Int) ≤ (3 : Int32).toInt ∧ (3 : Int32).toInt ≤ 3) (by decide) (by decide)) dX10_isLaw_8 ?_
  refine lv_topi (fun z_7 e_z_7 => ?_)
  obtain rfl : z_7 = lw := e_z_7.trans hw3
  refine lv_iconst (v := 1) hx hb dX10_isLaw_9 (by decide) ?_
  refine lv_isub hx hb dX10_isLaw_10 ?_
  refine lv_topi (fun z_8 e_z_8 => ?_)
  obtain ⟨q_z_8, b_z_8⟩ := ti_sub (lo := -1) (hi := 8) e_z_8 rfl (by decide : (1 : Int32).toInt = 1) b_lw (by decide : (1 : Int) ≤ (1 : Int32).toInt ∧ (1 : Int32).toInt ≤ 1) (by decide)
  obtain ⟨z_9, e_z_9⟩ : ∃ y : Int64, y = z_8.toInt64 := ⟨_, rfl⟩
  refine lv_i2l (v := z_9) hx hb dX10_isLaw_11 e_z_9.symm ?_
  obtain ⟨q_z_9, b_z_9⟩ := ti_i2l e_z_9 b_z_8
  refine vp_callSi (W.runS (As := [.long z_6, .long 0, .long z_9]) (rest := []) ⟨hx, hb, hml, hown, hts⟩ (kX10_in l dC dI z_6 0 z_9 ) (va_cwS 3 hts gX10_isLaw__X10_in_S82 rfl rfl rfl (by decide +kernel) ⟨lel 1 1 rfl, lel 25 25 rfl⟩) ⟨pn_fb, pn_use⟩ rfl rfl hl.1 rfl (lv_room (Nat.le_of_ble_eq_true rfl)) dX10_isLaw_12 ⟨lel 0 0 rfl, lel 0 0 rfl⟩) (fun r_10 h_r_10 => ?_)
  obtain ⟨b_r_10, nz_r_10⟩ := h_r_10
  have b_r_10 : (0 : Int) ≤ r_10.toInt ∧ r_10.toInt ≤ 1 := b_r_10
  exact W.zret (v := r_10) hx hb hr (zn_b b_r_10) (fun t ht hW => ⟨r_10, rfl, ⟨b_r_10, (fun h9 => by have h8 := nz_r_10 h9; have h7 := (by decide : (0 : Int64).toInt = 0); exact ⟨⟨by omega, by omega⟩, (by omega)⟩)⟩, ht⟩) t_nil dX10_isLaw_15
theorem dX10_isTicket_0 : decode cX10_isTicket 0 = .ok (.lload_n 1, 1) := by decide +kernel
theorem dX10_isTicket_1 : decode cX10_isTicket 1 = .ok (.lconst 0, 1) := by decide +kernel
theorem dX10_isTicket_2 : decode cX10_isTicket 2 = .ok (.aload_n 0, 1) := by decide +kernel
theorem dX10_isTicket_3 : decode cX10_isTicket 3 = .ok (.getfield 9, 3) := by decide +kernel
theorem dX10_isTicket_6 : decode cX10_isTicket 6 = .ok (.iconst 2, 1) := by decide +kernel
theorem dX10_isTicket_7 : decode cX10_isTicket 7 = .ok (.iaload, 1) := by decide +kernel
theorem dX10_isTicket_8 : decode cX10_isTicket 8 = .ok (.iconst 1, 1) := by decide +kernel
theorem dX10_isTicket_9 : decode cX10_isTicket 9 = .ok (.isub, 1) := by decide +kernel
theorem dX10_isTicket_10 : decode cX10_isTicket 10 = .ok (.i2l, 1) := by decide +kernel
theorem dX10_isTicket_11 : decode cX10_isTicket 11 = .ok (.invokestatic 82, 3) := by decide +kernel
theorem dX10_isTicket_14 : decode cX10_isTicket 14 = .ok (.ireturn, 1) := by decide +kernel
def uX10_isTicket : List Cond := .code yX10_isTicket cX10_isTicket 3 (some .boolean) :: ([.fieldLink RX10 9 "LuckyTicketModel" "world" "[I", .methodLink RX10 82 yX10_in, .static yX10_in, .initialized RX10, .code yX10_in cX10_in 6 (some .boolean)] ++ wsX100)
theorem iX10_isTicket_X10 : ∀ w ∈ wsX100, w ∈ uX10_isTicket := fun _ h => List.mem_cons_of_mem _ (List.mem_append_right _ h)
set_option maxRecDepth 20000 in
theorem gX10_isTicket__X10_in_S82 : GoodIn uX10_isTicket (va_wsS RX10 82 yX10_in uX10_in) := goodIn_p _ [5] rfl (by decide +kernel)
set_option maxHeartbeats 4000000 in
set_option maxRecDepth 100000 in
theorem kX10_isTicket (l : Launch) (dC : Nat → ClassId) (dI : Nat → Nat → Nat) (o0 : Nat) (x_th : Int32) (mwo : Nat) (mim : Nat) (mhi : Nat) (mlu : Nat) (mtp : Nat) (x_td : Int32) (mfv : Nat) (x_sz : Int32) (x_at : Int32) (x_fr : Int32) (x_to : Int32) (x_va : Int32) (x_fk : Int32) (x_fp : Int32) (mfr : Nat) (mwt : Nat) (x_wt : Int32) (x_op : Int32) (x_jo : Int32) (mfg : Nat) (mpl : Nat) (x_dr : Int64) (mtm : Nat) (mfa : Nat) (mqu : Nat) (mmo : Nat) (mwy : Nat) (mwn : Nat) (mma : Nat) (mwi : Nat) (mnu : Nat) (mmv : Nat) (c_wo : ClassId) (w_wo : Nat → Int32) (ln : Int32) (bs : Int32) (tk : Int32) (lw : Int32) (li : Int32) (a1 : Int64) (b_ln : (0 : Int) ≤ ln.toInt ∧ ln.toInt ≤ 12) (b_bs : (0 : Int) ≤ bs.toInt ∧ bs.toInt ≤ 16) (b_tk : (0 : Int) ≤ tk.toInt ∧ tk.toInt ≤ 20000) (b_lw : (0 : Int) ≤ lw.toInt ∧ lw.toInt ≤ 9) (hw0 : w_wo 0 = ln) (hw1 : w_wo 1 = bs) (hw2 : w_wo 2 = tk) (hw3 : w_wo 3 = lw) (hw4 : w_wo 4 = li) (hwz : (ln.toInt = 0 ∧ bs.toInt = 0 ∧ tk.toInt = 0 ∧ lw.toInt = 0) ∨ (1 ≤ ln.toInt ∧ 2 ≤ bs.toInt ∧ 1 ≤ tk.toInt)) : Met l yX10_isTicket uX10_isTicket ({ frames := 1, cells := 0, slots := 0, locals := 25 }) (va_Pc [.ref o0, .long a1] (pw (dC, dI) vwCl [(o0, .inr (8, [.int x_th, .ref mwo, .ref mim, .ref mhi, .ref mlu, .ref mtp, .int x_td, .ref mfv, .int x_sz, .int x_at, .int x_fr, .int x_to, .int x_va, .int x_fk, .int x_fp, .ref mfr, .ref mwt, .int x_wt, .int x_op, .int x_jo, .ref mfg, .ref mpl, .long x_dr, .ref mtm, .ref mfa, .ref mqu, .ref mmo, .ref mwy, .ref mwn, .ref mma, .ref mwi, .ref mnu, .ref mmv])), (mwo, .inl (c_wo, 1875, .inl w_wo))] [(c_wo, .int)])) (vp_Si (fun r => ((0 : Int) ≤ r.toInt ∧ r.toInt ≤ 1) ∧ (r ≠ 0 → ((0 : Int) ≤ a1.toInt ∧ a1.toInt ≤ 19999) ∧ (a1.toInt < tk.toInt)))) 0 0 (fun _ => False) := by
  refine Met.ofW (cc := cX10_isTicket) (maxL := 3) (ret := (some .boolean)) (by decide) rfl ?_
  intro p e s m args below meth c s₁ B hml hv
  obtain ⟨rfl, hP, hK, hN⟩ := hv
  have hx := B.exec
  have hb := B.bytes
  have hr := B.returns
  have hts := atoms_spec (ws := uX10_isTicket) B.pre
  have hown : s.vm.findClass RX10 = some m.cls := findClass_of_methodNamed B.named
  have hlocks := B.notSynchronized
  have hl := lv_entry ([.ref o0, .long a1]) (n := 3) (Nat.le_of_ble_eq_true rfl)
  rw [lg_entry_eq]
  generalize (lg_sl ([.ref o0, .long a1]) ++ List.replicate (3 - (lg_sl ([.ref o0, .long a1])).length) Slot.unset).toArray = ls at hl ⊢
  have hl : lv_has ls 3 [(0, .ref o0), (1, .long a1)] := hl
  refine lv_lload_n hx hb dX10_isTicket_0 rfl (lv_at hl 1 rfl) ?_
  refine lv_lconst (v := 0) hx hb dX10_isTicket_1 (by decide) ?_
  refine lv_aload_n hx hb dX10_isTicket_2 rfl (lv_at hl 0 rfl) ?_
  refine va_get (D := (dC, dI)) (ci := 8) (v := .ref mwo) (C := RX10) (T := TX10) (N := 33) hx hb hts iX10_isTicket_X10 hown hK hP 0 rfl rfl 1 (by decide) (hts (.fieldLink RX10 9 "LuckyTicketModel" "world" "[I") (List.mem_of_getElem? (i := 1) rfl)) (fun _ h9 => h9) rfl dX10_isTicket_3 ?_
  refine lv_iconst (v := 2) hx hb dX10_isTicket_6 (by decide) ?_
  refine va_iald hx hb hK hP 1 0 rfl rfl (vp_in_b (by decide : (2 : Int) ≤ (2 : Int32).toInt ∧ (2 : Int32).toInt ≤ 2) (by decide) (by decide)) dX10_isTicket_7 ?_
  refine lv_topi (fun z_5 e_z_5 => ?_)
  obtain rfl : z_5 = tk := e_z_5.trans hw2
  refine lv_iconst (v := 1) hx hb dX10_isTicket_8 (by decide) ?_
  refine lv_isub hx hb dX10_isTicket_9 ?_
  refine lv_topi (fun z_6 e_z_6 => ?_)
  obtain ⟨q_z_6, b_z_6⟩ := ti_sub (lo := -1) (hi := 19999) e_z_6 rfl (by decide : (1 : Int32).toInt = 1) b_tk (by decide : (1 : Int) ≤ (1 : Int32).toInt ∧ (1 : Int32).toInt ≤ 1) (by decide)
  obtain ⟨z_7, e_z_7⟩ : ∃ y : Int64, y = z_6.toInt64 := ⟨_, rfl⟩
  refine lv_i2l (v := z_7) hx hb dX10_isTicket_10 e_z_7.symm ?_
  obtain ⟨q_z_7, b_z_7⟩ := ti_i2l e_z_7 b_z_6
  refine vp_callSi (W.runS (As := [.long a1, .long 0, .long z_7]) (rest := []) ⟨hx, hb, hml, hown, hts⟩ (kX10_in l dC dI a1 0 z_7 ) (va_cwS 3 hts gX10_isTicket__X10_in_S82 rfl rfl rfl (by decide +kernel) ⟨lel 1 1 rfl, lel 25 25 rfl⟩) ⟨pn_fb, pn_use⟩ rfl rfl hl.1 rfl (lv_room (Nat.le_of_ble_eq_true rfl)) dX10_isTicket_11 ⟨lel 0 0 rfl, lel 0 0 rfl⟩) (fun r_8 h_r_8 => ?_)
  obtain ⟨b_r_8, nz_r_8⟩ := h_r_8
  have b_r_8 : (0 : Int) ≤ r_8.toInt ∧ r_8.toInt ≤ 1 := b_r_8
  exact W.zret (v := r_8) hx hb hr (zn_b b_r_8) (fun t ht hW => ⟨r_8, rfl, ⟨b_r_8, (fun h9 => by have h8 := nz_r_8 h9; have h7 := (by decide : (0 : Int64).toInt = 0); exact ⟨⟨by omega, by omega⟩, (by omega)⟩)⟩, ht⟩) t_nil dX10_isTicket_14
theorem dX10_isPlace_0 : decode cX10_isPlace 0 = .ok (.iload_n 1, 1) := by decide +kernel
theorem dX10_isPlace_1 : decode cX10_isPlace 1 = .ok (.i2l, 1) := by decide +kernel
theorem dX10_isPlace_2 : decode cX10_isPlace 2 = .ok (.lconst 0, 1) := by decide +kernel
theorem dX10_isPlace_3 : decode cX10_isPlace 3 = .ok (.aload_n 0, 1) := by decide +kernel
theorem dX10_isPlace_4 : decode cX10_isPlace 4 = .ok (.getfield 9, 3) := by decide +kernel
theorem dX10_isPlace_7 : decode cX10_isPlace 7 = .ok (.iconst 0, 1) := by decide +kernel
theorem dX10_isPlace_8 : decode cX10_isPlace 8 = .ok (.iaload, 1) := by decide +kernel
theorem dX10_isPlace_9 : decode cX10_isPlace 9 = .ok (.iconst 1, 1) := by decide +kernel
theorem dX10_isPlace_10 : decode cX10_isPlace 10 = .ok (.isub, 1) := by decide +kernel
theorem dX10_isPlace_11 : decode cX10_isPlace 11 = .ok (.i2l, 1) := by decide +kernel
theorem dX10_isPlace_12 : decode cX10_isPlace 12 = .ok (.invokestatic 82, 3) := by decide +kernel
theorem dX10_isPlace_15 : decode cX10_isPlace 15 = .ok (.ireturn, 1) := by decide +kernel
def uX10_isPlace : List Cond := .code yX10_isPlace cX10_isPlace 2 (some .boolean) :: ([.fieldLink RX10 9 "LuckyTicketModel" "world" "[I", .methodLink RX10 82 yX10_in, .static yX10_in, .initialized RX10, .code yX10_in cX10_in 6 (some .boolean)] ++ wsX100)
theorem iX10_isPlace_X10 : ∀ w ∈ wsX100, w ∈ uX10_isPlace := fun _ h => List.mem_cons_of_mem _ (List.mem_append_right _ h)
set_option maxRecDepth 20000 in
theorem gX10_isPlace__X10_in_S82 : GoodIn uX10_isPlace (va_wsS RX10 82 yX10_in uX10_in) := goodIn_p _ [5] rfl (by decide +kernel)
set_option maxHeartbeats 4000000 in
set_option maxRecDepth 100000 in
theorem kX10_isPlace (l : Launch) (dC : Nat → ClassId) (dI : Nat → Nat → Nat) (o0 : Nat) (x_th : Int32) (mwo : Nat) (mim : Nat) (mhi : Nat) (mlu : Nat) (mtp : Nat) (x_td : Int32) (mfv : Nat) (x_sz : Int32) (x_at : Int32) (x_fr : Int32) (x_to : Int32) (x_va : Int32) (x_fk : Int32) (x_fp : Int32) (mfr : Nat) (mwt : Nat) (x_wt : Int32) (x_op : Int32) (x_jo : Int32) (mfg : Nat) (mpl : Nat) (x_dr : Int64) (mtm : Nat) (mfa : Nat) (mqu : Nat) (mmo : Nat) (mwy : Nat) (mwn : Nat) (mma : Nat) (mwi : Nat) (mnu : Nat) (mmv : Nat) (c_wo : ClassId) (w_wo : Nat → Int32) (ln : Int32) (bs : Int32) (tk : Int32) (lw : Int32) (li : Int32) (a1 : Int32) (b_ln : (0 : Int) ≤ ln.toInt ∧ ln.toInt ≤ 12) (b_bs : (0 : Int) ≤ bs.toInt ∧ bs.toInt ≤ 16) (b_tk : (0 : Int) ≤ tk.toInt ∧ tk.toInt ≤ 20000) (b_lw : (0 : Int) ≤ lw.toInt ∧ lw.toInt ≤ 9) (hw0 : w_wo 0 = ln) (hw1 : w_wo 1 = bs) (hw2 : w_wo 2 = tk) (hw3 : w_wo 3 = lw) (hw4 : w_wo 4 = li) (hwz : (ln.toInt = 0 ∧ bs.toInt = 0 ∧ tk.toInt = 0 ∧ lw.toInt = 0) ∨ (1 ≤ ln.toInt ∧ 2 ≤ bs.toInt ∧ 1 ≤ tk.toInt)) : Met l yX10_isPlace uX10_isPlace ({ frames := 1, cells := 0, slots := 0, locals := 25 }) (va_Pc [.ref o0, .int a1] (pw (dC, dI) vwCl [(o0, .inr (8, [.int x_th, .ref mwo, .ref mim, .ref mhi, .ref mlu, .ref mtp, .int x_td, .ref mfv, .int x_sz, .int x_at, .int x_fr, .int x_to, .int x_va, .int x_fk, .int x_fp, .ref mfr, .ref mwt, .int x_wt, .int x_op, .int x_jo, .ref mfg, .ref mpl, .long x_dr, .ref mtm, .ref mfa, .ref mqu, .ref mmo, .ref mwy, .ref mwn, .ref mma, .ref mwi, .ref mnu, .ref mmv])), (mwo, .inl (c_wo, 1875, .inl w_wo))] [(c_wo, .int)])) (vp_Si (fun r => ((0 : Int) ≤ r.toInt ∧ r.toInt ≤ 1) ∧ (r ≠ 0 → ((0 : Int) ≤ a1.toInt ∧ a1.toInt ≤ 11) ∧ (a1.toInt < ln.toInt)))) 0 0 (fun _ => False) := by
  refine Met.ofW (cc := cX10_isPlace) (maxL := 2) (ret := (some .boolean)) (by decide) rfl ?_
  intro p e s m args below meth c s₁ B hml hv
  obtain ⟨rfl, hP, hK, hN⟩ := hv
  have hx := B.exec
  have hb := B.bytes
  have hr := B.returns
  have hts := atoms_spec (ws := uX10_isPlace) B.pre
  have hown : s.vm.findClass RX10 = some m.cls := findClass_of_methodNamed B.named
  have hlocks := B.notSynchronized
  have hl := lv_entry ([.ref o0, .int a1]) (n := 2) (Nat.le_of_ble_eq_true rfl)
  rw [lg_entry_eq]
  generalize (lg_sl ([.ref o0, .int a1]) ++ List.replicate (2 - (lg_sl ([.ref o0, .int a1])).length) Slot.unset).toArray = ls at hl ⊢
  have hl : lv_has ls 2 [(0, .ref o0), (1, .int a1)] := hl
  refine lv_iload_n hx hb dX10_isPlace_0 rfl (lv_at hl 1 rfl) ?_
  obtain ⟨z_6, e_z_6⟩ : ∃ y : Int64, y = a1.toInt64 := ⟨_, rfl⟩
  refine lv_i2l (v := z_6) hx hb dX10_isPlace_1 e_z_6.symm ?_
  obtain ⟨q_z_6, b_z_6⟩ := ti_i2l e_z_6 (ti_rng a1)
  refine lv_lconst (v := 0) hx hb dX10_isPlace_2 (by decide) ?_
  refine lv_aload_n hx hb dX10_isPlace_3 rfl (lv_at hl 0 rfl) ?_
  refine va_get (D := (dC, dI)) (ci := 8) (v := .ref mwo) (C := RX10) (T := TX10) (N := 33) hx hb hts iX10_isPlace_X10 hown hK hP 0 rfl rfl 1 (by decide) (hts (.fieldLink RX10 9 "LuckyTicketModel" "world" "[I") (List.mem_of_getElem? (i := 1) rfl)) (fun _ h9 => h9) rfl dX10_isPlace_4 ?_
  refine lv_iconst (v := 0) hx hb dX10_isPlace_7 (by decide) ?_
  refine va_iald hx hb hK hP 1 0 rfl rfl (vp_in_b (by decide : (0 : Int) ≤ (0 : Int32).toInt ∧ (0 : Int32).toInt ≤ 0) (by decide) (by decide)) dX10_isPlace_8 ?_
  refine lv_topi (fun z_7 e_z_7 => ?_)
  obtain rfl : z_7 = ln := e_z_7.trans hw0
  refine lv_iconst (v := 1) hx hb dX10_isPlace_9 (by decide) ?_
  refine lv_isub hx hb dX10_isPlace_10 ?_
  refine lv_topi (fun z_8 e_z_8 => ?_)
  obtain ⟨q_z_8, b_z_8⟩ := ti_sub (lo := -1) (hi := 11) e_z_8 rfl (by decide : (1 : Int32).toInt = 1) b_ln (by decide : (1 : Int) ≤ (1 : Int32).toInt ∧ (1 : Int32).toInt ≤ 1) (by decide)
  obtain ⟨z_9, e_z_9⟩ : ∃ y : Int64, y = z_8.toInt64 := ⟨_, rfl⟩
  refine lv_i2l (v := z_9) hx hb dX10_isPlace_11 e_z_9.symm ?_
  obtain ⟨q_z_9, b_z_9⟩ := ti_i2l e_z_9 b_z_8
  refine vp_callSi (W.runS (As := [.long z_6, .long 0, .long z_9]) (rest := []) ⟨hx, hb, hml, hown, hts⟩ (kX10_in l dC dI z_6 0 z_9 ) (va_cwS 3 hts gX10_isPlace__X10_in_S82 rfl rfl rfl (by decide +kernel) ⟨lel 1 1 rfl, lel 25 25 rfl⟩) ⟨pn_fb, pn_use⟩ rfl rfl hl.1 rfl (lv_room (Nat.le_of_ble_eq_true rfl)) dX10_isPlace_12 ⟨lel 0 0 rfl, lel 0 0 rfl⟩) (fun r_10 h_r_10 => ?_)
  obtain ⟨b_r_10, nz_r_10⟩ := h_r_10
  have b_r_10 : (0 : Int) ≤ r_10.toInt ∧ r_10.toInt ≤ 1 := b_r_10
  exact W.zret (v := r_10) hx hb hr (zn_b b_r_10) (fun t ht hW => ⟨r_10, rfl, ⟨b_r_10, (fun h9 => by have h8 := nz_r_10 h9; have h7 := (by decide : (0 : Int64).toInt = 0); exact ⟨⟨by omega, by omega⟩, (by omega)⟩)⟩, ht⟩) t_nil dX10_isPlace_15
theorem dX10_isBoth_0 : decode cX10_isBoth 0 = .ok (.aload_n 0, 1) := by decide +kernel
theorem dX10_isBoth_1 : decode cX10_isBoth 1 = .ok (.iload_n 1, 1) := by decide +kernel
theorem dX10_isBoth_2 : decode cX10_isBoth 2 = .ok (.invokevirtual 89, 3) := by decide +kernel
theorem dX10_isBoth_5 : decode cX10_isBoth 5 = .ok (.ifCond .eq 16, 3) := by decide +kernel
theorem dX10_isBoth_8 : decode cX10_isBoth 8 = .ok (.aload_n 0, 1) := by decide +kernel
theorem dX10_isBoth_9 : decode cX10_isBoth 9 = .ok (.iload_n 2, 1) := by decide +kernel
theorem dX10_isBoth_10 : decode cX10_isBoth 10 = .ok (.i2l, 1) := by decide +kernel
theorem dX10_isBoth_11 : decode cX10_isBoth 11 = .ok (.invokevirtual 93, 3) := by decide +kernel
theorem dX10_isBoth_14 : decode cX10_isBoth 14 = .ok (.ifCond .eq 7, 3) := by decide +kernel
theorem dX10_isBoth_17 : decode cX10_isBoth 17 = .ok (.iconst 1, 1) := by decide +kernel
theorem dX10_isBoth_18 : decode cX10_isBoth 18 = .ok (.goto 4, 3) := by decide +kernel
theorem dX10_isBoth_21 : decode cX10_isBoth 21 = .ok (.iconst 0, 1) := by decide +kernel
theorem dX10_isBoth_22 : decode cX10_isBoth 22 = .ok (.ireturn, 1) := by decide +kernel
def uX10_isBoth : List Cond := .code yX10_isBoth cX10_isBoth 3 (some .boolean) :: ([.methodLink RX10 89 yX10_isLaw, .instanceMethod yX10_isLaw, .selects RX10 yX10_isLaw yX10_isLaw, .initialized RX10, .code yX10_isLaw cX10_isLaw 2 (some .boolean), .fieldLink RX10 9 "LuckyTicketModel" "world" "[I", .methodLink RX10 82 yX10_in, .static yX10_in, .code yX10_in cX10_in 6 (some .boolean), .methodLink RX10 93 yX10_isTicket, .instanceMethod yX10_isTicket, .selects RX10 yX10_isTicket yX10_isTicket, .code yX10_isTicket cX10_isTicket 3 (some .boolean)] ++ wsX100)
theorem iX10_isBoth_X10 : ∀ w ∈ wsX100, w ∈ uX10_isBoth := fun _ h => List.mem_cons_of_mem _ (List.mem_append_right _ h)
set_option maxRecDepth 20000 in
theorem gX10_isBoth__X10_isLaw_V89 : GoodIn uX10_isBoth (wsV RX10 89 RX10 yX10_isLaw uX10_isLaw) := goodIn_p _ [5, 9] rfl (by decide +kernel)
set_option maxRecDepth 20000 in
theorem gX10_isBoth__X10_isTicket_V93 : GoodIn uX10_isBoth (wsV RX10 93 RX10 yX10_isTicket uX10_isTicket) := goodIn_p _ [13, 9] rfl (by decide +kernel)
set_option maxHeartbeats 4000000 in
set_option maxRecDepth 100000 in
theorem kX10_isBoth (l : Launch) (dC : Nat → ClassId) (dI : Nat → Nat → Nat) (o0 : Nat) (x_th : Int32) (mwo : Nat) (mim : Nat) (mhi : Nat) (mlu : Nat) (mtp : Nat) (x_td : Int32) (mfv : Nat) (x_sz : Int32) (x_at : Int32) (x_fr : Int32) (x_to : Int32) (x_va : Int32) (x_fk : Int32) (x_fp : Int32) (mfr : Nat) (mwt : Nat) (x_wt : Int32) (x_op : Int32) (x_jo : Int32) (mfg : Nat) (mpl : Nat) (x_dr : Int64) (mtm : Nat) (mfa : Nat) (mqu : Nat) (mmo : Nat) (mwy : Nat) (mwn : Nat) (mma : Nat) (mwi : Nat) (mnu : Nat) (mmv : Nat) (c_wo : ClassId) (w_wo : Nat → Int32) (ln : Int32) (bs : Int32) (tk : Int32) (lw : Int32) (li : Int32) (a1 : Int32) (a2 : Int32) (b_ln : (0 : Int) ≤ ln.toInt ∧ ln.toInt ≤ 12) (b_bs : (0 : Int) ≤ bs.toInt ∧ bs.toInt ≤ 16) (b_tk : (0 : Int) ≤ tk.toInt ∧ tk.toInt ≤ 20000) (b_lw : (0 : Int) ≤ lw.toInt ∧ lw.toInt ≤ 9) (hw0 : w_wo 0 = ln) (hw1 : w_wo 1 = bs) (hw2 : w_wo 2 = tk) (hw3 : w_wo 3 = lw) (hw4 : w_wo 4 = li) (hwz : (ln.toInt = 0 ∧ bs.toInt = 0 ∧ tk.toInt = 0 ∧ lw.toInt = 0) ∨ (1 ≤ ln.toInt ∧ 2 ≤ bs.toInt ∧ 1 ≤ tk.toInt)) : Met l yX10_isBoth uX10_isBoth ({ frames := 2, cells := 0, slots := 0, locals := 47 }) (va_Pc [.ref o0, .int a1, .int a2] (pw (dC, dI) vwCl [(o0, .inr (8, [.int x_th, .ref mwo, .ref mim, .ref mhi, .ref mlu, .ref mtp, .int x_td, .ref mfv, .int x_sz, .int x_at, .int x_fr, .int x_to, .int x_va, .int x_fk, .int x_fp, .ref mfr, .ref mwt, .int x_wt, .int x_op, .int x_jo, .ref mfg, .ref mpl, .long x_dr, .ref mtm, .ref mfa, .ref mqu, .ref mmo, .ref mwy, .ref mwn, .ref mma, .ref mwi, .ref mnu, .ref mmv])), (mwo, .inl (c_wo, 1875, .inl w_wo))] [(c_wo, .int)])) (vp_Si (fun r => ((0 : Int) ≤ r.toInt ∧ r.toInt ≤ 1) ∧ (r ≠ 0 → ((0 : Int) ≤ a1.toInt ∧ a1.toInt ≤ 8) ∧ ((0 : Int) ≤ a2.toInt ∧ a2.toInt ≤ 19999) ∧ (a1.toInt < lw.toInt ∧ a2.toInt < tk.toInt)))) 0 0 (fun _ => False) := by
  refine Met.ofW (cc := cX10_isBoth) (maxL := 3) (ret := (some .boolean)) (by decide) rfl ?_
  intro p e s m args below meth c s₁ B hml hv
  obtain ⟨rfl, hP, hK, hN⟩ := hv
  have hx := B.exec
  have hb := B.bytes
  have hr := B.returns
  have hts := atoms_spec (ws := uX10_isBoth) B.pre
  have hown : s.vm.findClass RX10 = some m.cls := findClass_of_methodNamed B.named
  have hlocks := B.notSynchronized
  have hl := lv_entry ([.ref o0, .int a1, .int a2]) (n := 3) (Nat.le_of_ble_eq_true rfl)
  rw [lg_entry_eq]
  generalize (lg_sl ([.ref o0, .int a1, .int a2]) ++ List.replicate (3 - (lg_sl ([.ref o0, .int a1, .int a2])).length) Slot.unset).toArray = ls at hl ⊢
  have hl : lv_has ls 3 [(0, .ref o0), (1, .int a1), (2, .int a2)] := hl
  refine lv_aload_n hx hb dX10_isBoth_0 rfl (lv_at hl 0 rfl) ?_
  refine lv_iload_n hx hb dX10_isBoth_1 rfl (lv_at hl 1 rfl) ?_
  refine vp_callSi (W.runV (As := [.int a1]) (rest := []) ⟨hx, hb, hml, hown, hts⟩ (kX10_isLaw l dC dI o0 x_th mwo mim mhi mlu mtp x_td mfv x_sz x_at x_fr x_to x_va x_fk x_fp mfr mwt x_wt x_op x_jo mfg mpl x_dr mtm mfa mqu mmo mwy mwn mma mwi mnu mmv c_wo w_wo ln bs tk lw li a1 b_ln b_bs b_tk b_lw (hw0) (hw1) (hw2) (hw3) (hw4) (hwz)) (cwV 1 hts gX10_isBoth__X10_isLaw_V89 rfl rfl rfl (by decide +kernel) ⟨lel 2 2 rfl, lel 46 47 rfl⟩) ⟨pw_fb, va_recv hK hP (ci := 8) (q0 := 0) rfl rfl, (pw_use hP hK hN [0, 1] rfl [0] rfl)⟩ rfl rfl hl.1 rfl (lv_room (Nat.le_of_ble_eq_true rfl)) dX10_isBoth_2 ⟨lel 0 0 rfl, lel 0 0 rfl⟩) (fun r_8 h_r_8 => ?_)
  obtain ⟨b_r_8, nz_r_8⟩ := h_r_8
  have b_r_8 : (0 : Int) ≤ r_8.toInt ∧ r_8.toInt ≤ 1 := b_r_8
  refine lv_if_eq (tgt := 21) hx hb dX10_isBoth_5 (by decide) (fun c_9 => ?_) (fun c_9 => ?_)
  ·
    have n_c_9 : (r_8.toInt : Int) = 0 := c_eq rfl (by decide) c_9
    have b_r_8 : (0 : Int) ≤ r_8.toInt ∧ r_8.toInt ≤ 0 := r_eq1 b_r_8 (by decide : (0 : Int) ≤ (0 : Int32).toInt ∧ (0 : Int32).toInt ≤ 0) n_c_9 (by decide)
    refine lv_iconst (v := 0) hx hb dX10_isBoth_21 (by decide) ?_
    exact W.zret (v := 0) hx hb hr rfl (fun t ht hW => ⟨0, rfl, ⟨(rg_w (by decide : (0 : Int) ≤ (0 : Int32).toInt ∧ (0 : Int32).toInt ≤ 0) (by decide) (by decide)), (fun h9 => absurd rfl h9)⟩, ht⟩) t_nil dX10_isBoth_22
  ·
    have n_c_9 : (r_8.toInt : Int) ≠ 0 := c_ne rfl (by decide) c_9
    have b_r_8 : (1 : Int) ≤ r_8.toInt ∧ r_8.toInt ≤ 1 := r_ne1 b_r_8 (by decide : (0 : Int) ≤ (0 : Int32).toInt ∧ (0 : Int32).toInt ≤ 0) n_c_9 (by decide)
    obtain ⟨b_a1, g_10⟩ := nz_r_8 c_9
    refine lv_aload_n hx hb dX10_isBoth_8 rfl (lv_at hl 0 rfl) ?_
    refine lv_iload_n hx hb dX10_isBoth_9 rfl (lv_at hl 2 rfl) ?_
    obtain ⟨z_11, e_z_11⟩ : ∃ y : Int64, y = a2.toInt64 := ⟨_, rfl⟩
    refine lv_i2l (v := z_11) hx hb dX10_isBoth_10 e_z_11.symm ?_
    obtain ⟨q_z_11, b_z_11⟩ := ti_i2l e_z_11 (ti_rng a2)
    refine vp_callSi (W.runV (As := [.long z_11]) (rest := []) ⟨hx, hb, hml, hown, hts⟩ (kX10_isTicket l dC dI o0 x_th mwo mim mhi mlu mtp x_td mfv x_sz x_at x_fr x_to x_va x_fk x_fp mfr mwt x_wt x_op x_jo mfg mpl x_dr mtm mfa mqu mmo mwy mwn mma mwi mnu mmv c_wo w_wo ln bs tk lw li z_11 b_ln b_bs b_tk b_lw (hw0) (hw1) (hw2) (hw3) (hw4) (hwz)) (cwV 1 hts gX10_isBoth__X10_isTicket_V93 rfl rfl rfl (by decide +kernel) ⟨lel 2 2 rfl, lel 47 47 rfl⟩) ⟨pw_fb, va_recv hK hP (ci := 8) (q0 := 0) rfl rfl, (pw_use hP hK hN [0, 1] rfl [0] rfl)⟩ rfl rfl hl.1 rfl (lv_room (Nat.le_of_ble_eq_true rfl)) dX10_isBoth_11 ⟨lel 0 0 rfl, lel 0 0 rfl⟩) (fun r_12 h_r_12 => ?_)
    obtain ⟨b_r_12, nz_r_12⟩ := h_r_12
    have b_r_12 : (0 : Int) ≤ r_12.toInt ∧ r_12.toInt ≤ 1 := b_r_12
    refine lv_if_eq (tgt := 21) hx hb dX10_isBoth_14 (by decide) (fun c_13 => ?_) (fun c_13 => ?_)
    ·
      have n_c_13 : (r_12.toInt : Int) = 0 := c_eq rfl (by decide) c_13
      have b_r_12 : (0 : Int) ≤ r_12.toInt ∧ r_12.toInt ≤ 0 := r_eq1 b_r_12 (by decide : (0 : Int) ≤ (0 : Int32).toInt ∧ (0 : Int32).toInt ≤ 0) n_c_13 (by decide)
      refine lv_iconst (v := 0) hx hb dX10_isBoth_21 (by decide) ?_
      exact W.zret (v := 0) hx hb hr rfl (fun t ht hW => ⟨0, rfl, ⟨(rg_w (by decide : (0 : Int) ≤ (0 : Int32).toInt ∧ (0 : Int32).toInt ≤ 0) (by decide) (by decide)), (fun h9 => absurd rfl h9)⟩, ht⟩) t_nil dX10_isBoth_22
    ·
      have n_c_13 : (r_12.toInt : Int) ≠ 0 := c_ne rfl (by decide) c_13
      have b_r_12 : (1 : Int) ≤ r_12.toInt ∧ r_12.toInt ≤ 1 := r_ne1 b_r_12 (by decide : (0 : Int) ≤ (0 : Int32).toInt ∧ (0 : Int32).toInt ≤ 0) n_c_13 (by decide)
      obtain ⟨b_z_11, g_14⟩ := nz_r_12 c_13
      have b_a2 : (0 : Int) ≤ a2.toInt ∧ a2.toInt ≤ 19999 := by
        have q0 := b_z_11; have q1 := q_z_11; have q2 := (ti_rng a2); omega
      refine lv_iconst (v := 1) hx hb dX10_isBoth_17 (by decide) ?_
      refine lv_goto (tgt := 22) hx hb dX10_isBoth_18 (by decide) ?_
      exact W.zret (v := 1) hx hb hr rfl (fun t ht hW => ⟨1, rfl, ⟨(rg_w (by decide : (1 : Int) ≤ (1 : Int32).toInt ∧ (1 : Int32).toInt ≤ 1) (by decide) (by decide)), (fun _ => ⟨⟨by omega, by omega⟩, ⟨by omega, by omega⟩, (by omega)⟩)⟩, ht⟩) t_nil dX10_isBoth_22
theorem dX10_isLucky_0 : decode cX10_isLucky 0 = .ok (.aload_n 0, 1) := by decide +kernel
theorem dX10_isLucky_1 : decode cX10_isLucky 1 = .ok (.getfield 20, 3) := by decide +kernel
theorem dX10_isLucky_4 : decode cX10_isLucky 4 = .ok (.iload_n 2, 1) := by decide +kernel
theorem dX10_isLucky_5 : decode cX10_isLucky 5 = .ok (.iaload, 1) := by decide +kernel
theorem dX10_isLucky_6 : decode cX10_isLucky 6 = .ok (.iload_n 1, 1) := by decide +kernel
theorem dX10_isLucky_7 : decode cX10_isLucky 7 = .ok (.ishr, 1) := by decide +kernel
theorem dX10_isLucky_8 : decode cX10_isLucky 8 = .ok (.iconst 1, 1) := by decide +kernel
theorem dX10_isLucky_9 : decode cX10_isLucky 9 = .ok (.iand, 1) := by decide +kernel
theorem dX10_isLucky_10 : decode cX10_isLucky 10 = .ok (.iconst 1, 1) := by decide +kernel
theorem dX10_isLucky_11 : decode cX10_isLucky 11 = .ok (.if_icmp .ne 7, 3) := by decide +kernel
theorem dX10_isLucky_14 : decode cX10_isLucky 14 = .ok (.iconst 1, 1) := by decide +kernel
theorem dX10_isLucky_15 : decode cX10_isLucky 15 = .ok (.goto 4, 3) := by decide +kernel
theorem dX10_isLucky_18 : decode cX10_isLucky 18 = .ok (.iconst 0, 1) := by decide +kernel
theorem dX10_isLucky_19 : decode cX10_isLucky 19 = .ok (.ireturn, 1) := by decide +kernel
def uX10_isLucky : List Cond := .code yX10_isLucky cX10_isLucky 3 (some .boolean) :: ([.fieldLink RX10 20 "LuckyTicketModel" "luck" "[I"] ++ wsX100)
theorem iX10_isLucky_X10 : ∀ w ∈ wsX100, w ∈ uX10_isLucky := fun _ h => List.mem_cons_of_mem _ (List.mem_append_right _ h)
set_option maxHeartbeats 4000000 in
set_option maxRecDepth 100000 in
theorem kX10_isLucky (l : Launch) (dC : Nat → ClassId) (dI : Nat → Nat → Nat) (o0 : Nat) (x_th : Int32) (mwo : Nat) (mim : Nat) (mhi : Nat) (mlu : Nat) (mtp : Nat) (x_td : Int32) (mfv : Nat) (x_sz : Int32) (x_at : Int32) (x_fr : Int32) (x_to : Int32) (x_va : Int32) (x_fk : Int32) (x_fp : Int32) (mfr : Nat) (mwt : Nat) (x_wt : Int32) (x_op : Int32) (x_jo : Int32) (mfg : Nat) (mpl : Nat) (x_dr : Int64) (mtm : Nat) (mfa : Nat) (mqu : Nat) (mmo : Nat) (mwy : Nat) (mwn : Nat) (mma : Nat) (mwi : Nat) (mnu : Nat) (mmv : Nat) (c_wo : ClassId) (c_lu : ClassId) (w_wo : Nat → Int32) (w_lu : Nat → Int32) (ln : Int32) (bs : Int32) (tk : Int32) (lw : Int32) (li : Int32) (a1 : Int32) (a2 : Int32) (b_ln : (0 : Int) ≤ ln.toInt ∧ ln.toInt ≤ 12) (b_bs : (0 : Int) ≤ bs.toInt ∧ bs.toInt ≤ 16) (b_tk : (0 : Int) ≤ tk.toInt ∧ tk.toInt ≤ 20000) (b_lw : (0 : Int) ≤ lw.toInt ∧ lw.toInt ≤ 9) (b_a2 : (0 : Int) ≤ a2.toInt ∧ a2.toInt ≤ 19999) (hw0 : w_wo 0 = ln) (hw1 : w_wo 1 = bs) (hw2 : w_wo 2 = tk) (hw3 : w_wo 3 = lw) (hw4 : w_wo 4 = li) (hwz : (ln.toInt = 0 ∧ bs.toInt = 0 ∧ tk.toInt = 0 ∧ lw.toInt = 0) ∨ (1 ≤ ln.toInt ∧ 2 ≤ bs.toInt ∧ 1 ≤ tk.toInt)) : Met l yX10_isLucky uX10_isLucky ({ frames := 0, cells := 0, slots := 0, locals := 0 }) (va_Pc [.ref o0, .int a1, .int a2] (pw (dC, dI) vwCl [(o0, .inr (8, [.int x_th, .ref mwo, .ref mim, .ref mhi, .ref mlu, .ref mtp, .int x_td, .ref mfv, .int x_sz, .int x_at, .int x_fr, .int x_to, .int x_va, .int x_fk, .int x_fp, .ref mfr, .ref mwt, .int x_wt, .int x_op, .int x_jo, .ref mfg, .ref mpl, .long x_dr, .ref mtm, .ref mfa, .ref mqu, .ref mmo, .ref mwy, .ref mwn, .ref mma, .ref mwi, .ref mnu, .ref mmv])), (mwo, .inl (c_wo, 1875, .inl w_wo)), (mlu, .inl (c_lu, 20000, .inl w_lu))] [(c_wo, .int), (c_lu, .int)])) (vp_Si (fun r => ((0 : Int) ≤ r.toInt ∧ r.toInt ≤ 1))) 0 0 (fun _ => False) := by
  refine Met.ofW (cc := cX10_isLucky) (maxL := 3) (ret := (some .boolean)) (by decide) rfl ?_
  intro p e s m args below meth c s₁ B hml hv
  obtain ⟨rfl, hP, hK, hN⟩ := hv
  have hx := B.exec
  have hb := B.bytes
  have hr := B.returns
  have hts := atoms_spec (ws := uX10_isLucky) B.pre
  have hown : s.vm.findClass RX10 = some m.cls := findClass_of_methodNamed B.named
  have hlocks := B.notSynchronized
  have hl := lv_entry ([.ref o0, .int a1, .int a2]) (n := 3) (Nat.le_of_ble_eq_true rfl)
  rw [lg_entry_eq]
  generalize (lg_sl ([.ref o0, .int a1, .int a2]) ++ List.replicate (3 - (lg_sl ([.ref o0, .int a1, .int a2])).length) Slot.unset).toArray = ls at hl ⊢
  have hl : lv_has ls 3 [(0, .ref o0), (1, .int a1), (2, .int a2)] := hl
  refine lv_aload_n hx hb dX10_isLucky_0 rfl (lv_at hl 0 rfl) ?_
  refine va_get (D := (dC, dI)) (ci := 8) (v := .ref mlu) (C := RX10) (T := TX10) (N := 33) hx hb hts iX10_isLucky_X10 hown hK hP 0 rfl rfl 4 (by decide) (hts (.fieldLink RX10 20 "LuckyTicketModel" "luck" "[I") (List.mem_of_getElem? (i := 1) rfl)) (fun _ h9 => h9) rfl dX10_isLucky_1 ?_
  refine lv_iload_n hx hb dX10_isLucky_4 rfl (lv_at hl 2 rfl) ?_
  refine va_iald hx hb hK hP 2 1 rfl rfl (vp_in_b b_a2 (by decide) (by decide)) dX10_isLucky_5 ?_
  refine lv_topi (fun z_5 e_z_5 => ?_)
  refine lv_iload_n hx hb dX10_isLucky_6 rfl (lv_at hl 1 rfl) ?_
  refine lv_ishr hx hb dX10_isLucky_7 ?_
  refine lv_topi (fun z_6 e_z_6 => ?_)
  refine lv_iconst (v := 1) hx hb dX10_isLucky_8 (by decide) ?_
  refine lv_iand hx hb dX10_isLucky_9 ?_
  refine lv_topi (fun z_7 e_z_7 => ?_)
  have b_z_7 : (0 : Int) ≤ z_7.toInt ∧ z_7.toInt ≤ 1 := ti_and (k := 1) e_z_7 (by decide) (by decide) (by decide)
  refine lv_iconst (v := 1) hx hb dX10_isLucky_10 (by decide) ?_
  refine lv_icmp_ne (tgt := 18) hx hb dX10_isLucky_11 (by decide) (fun c_8 => ?_) (fun c_8 => ?_)
  ·
    have n_c_8 : (z_7.toInt : Int) ≠ 1 := c_ne rfl (by decide) c_8
    have b_z_7 : (0 : Int) ≤ z_7.toInt ∧ z_7.toInt ≤ 0 := r_ne2 b_z_7 (by decide : (1 : Int) ≤ (1 : Int32).toInt ∧ (1 : Int32).toInt ≤ 1) n_c_8 (by decide)
    refine lv_iconst (v := 0) hx hb dX10_isLucky_18 (by decide) ?_
    exact W.zret (v := 0) hx hb hr rfl (fun t ht hW => ⟨0, rfl, (rg_w (by decide : (0 : Int) ≤ (0 : Int32).toInt ∧ (0 : Int32).toInt ≤ 0) (by decide) (by decide)), ht⟩) t_nil dX10_isLucky_19
  ·
    have n_c_8 : (z_7.toInt : Int) = 1 := c_eq rfl (by decide) c_8
    have b_z_7 : (1 : Int) ≤ z_7.toInt ∧ z_7.toInt ≤ 1 := r_eq1 b_z_7 (by decide : (1 : Int) ≤ (1 : Int32).toInt ∧ (1 : Int32).toInt ≤ 1) n_c_8 (by decide)
    refine lv_iconst (v := 1) hx hb dX10_isLucky_14 (by decide) ?_
    refine lv_goto (tgt := 19) hx hb dX10_isLucky_15 (by decide) ?_
    exact W.zret (v := 1) hx hb hr rfl (fun t ht hW => ⟨1, rfl, (rg_w (by decide : (1 : Int) ≤ (1 : Int32).toInt ∧ (1 : Int32).toInt ≤ 1) (by decide) (by decide)), ht⟩) t_nil dX10_isLucky_19
theorem dX10_isStep_0 : decode cX10_isStep 0 = .ok (.iload_n 0, 1) := by decide +kernel
theorem dX10_isStep_1 : decode cX10_isStep 1 = .ok (.i2l, 1) := by decide +kernel
theorem dX10_isStep_2 : decode cX10_isStep 2 = .ok (.lconst 1, 1) := by decide +kernel
theorem dX10_isStep_3 : decode cX10_isStep 3 = .ok (.ldc2_w 334, 3) := by decide +kernel
theorem dX10_isStep_6 : decode cX10_isStep 6 = .ok (.invokestatic 82, 3) := by decide +kernel
theorem dX10_isStep_9 : decode cX10_isStep 9 = .ok (.ireturn, 1) := by decide +kernel
def uX10_isStep : List Cond := .code yX10_isStep cX10_isStep 1 (some .boolean) :: ([.constantLong RX10 334 (9999), .methodLink RX10 82 yX10_in, .static yX10_in, .initialized RX10, .code yX10_in cX10_in 6 (some .boolean)])
set_option maxRecDepth 20000 in
theorem gX10_isStep__X10_in_S82 : GoodIn uX10_isStep (va_wsS RX10 82 yX10_in uX10_in) := goodIn_p _ [5] rfl (by decide +kernel)
set_option maxHeartbeats 4000000 in
set_option maxRecDepth 100000 in
theorem kX10_isStep (l : Launch) (dC : Nat → ClassId) (dI : Nat → Nat → Nat) (a1 : Int32) : Met l yX10_isStep uX10_isStep ({ frames := 1, cells := 0, slots := 0, locals := 25 }) (va_Pc [.int a1] (fun _ => True)) (vp_Si (fun r => ((0 : Int) ≤ r.toInt ∧ r.toInt ≤ 1) ∧ (r ≠ 0 → ((1 : Int) ≤ a1.toInt ∧ a1.toInt ≤ 9999) ∧ (True)))) 0 0 (fun _ => False) := by
  refine Met.ofW (cc := cX10_isStep) (maxL := 1) (ret := (some .boolean)) (by decide) rfl ?_
  intro p e s m args below meth c s₁ B hml hv
  obtain ⟨rfl, _⟩ := hv
  have hx := B.exec
  have hb := B.bytes
  have hr := B.returns
  have hts := atoms_spec (ws := uX10_isStep) B.pre
  have hown : s.vm.findClass RX10 = some m.cls := findClass_of_methodNamed B.named
  have hlocks := B.notSynchronized
  have hl := lv_entry ([.int a1]) (n := 1) (Nat.le_of_ble_eq_true rfl)
  rw [lg_entry_eq]
  generalize (lg_sl ([.int a1]) ++ List.replicate (1 - (lg_sl ([.int a1])).length) Slot.unset).toArray = ls at hl ⊢
  have hl : lv_has ls 1 [(0, .int a1)] := hl
  refine lv_iload_n hx hb dX10_isStep_0 rfl (lv_at hl 0 rfl) ?_
  obtain ⟨z_3, e_z_3⟩ : ∃ y : Int64, y = a1.toInt64 := ⟨_, rfl⟩
  refine lv_i2l (v := z_3) hx hb dX10_isStep_1 e_z_3.symm ?_
  obtain ⟨q_z_3, b_z_3⟩ := ti_i2l e_z_3 (ti_rng a1)
  refine lv_lconst (v := 1) hx hb dX10_isStep_2 (by decide) ?_
  refine lv_ldc2 (v := 9999) hx hb hown (hts (.constantLong RX10 334 (9999)) (List.mem_of_getElem? (i := 1) rfl)) dX10_isStep_3 ?_
  refine vp_callSi (W.runS (As := [.long z_3, .long 1, .long 9999]) (rest := []) ⟨hx, hb, hml, hown, hts⟩ (kX10_in l dC dI z_3 1 9999 ) (va_cwS 3 hts gX10_isStep__X10_in_S82 rfl rfl rfl (by decide +kernel) ⟨lel 1 1 rfl, lel 25 25 rfl⟩) ⟨pn_fb, pn_use⟩ rfl rfl hl.1 rfl (lv_room (Nat.le_of_ble_eq_true rfl)) dX10_isStep_6 ⟨lel 0 0 rfl, lel 0 0 rfl⟩) (fun r_4 h_r_4 => ?_)
  obtain ⟨b_r_4, nz_r_4⟩ := h_r_4
  have b_r_4 : (0 : Int) ≤ r_4.toInt ∧ r_4.toInt ≤ 1 := b_r_4
  exact W.zret (v := r_4) hx hb hr (zn_b b_r_4) (fun t ht hW => ⟨r_4, rfl, ⟨b_r_4, (fun h9 => by have h8 := nz_r_4 h9; have h7 := (by decide : (1 : Int64).toInt = 1); have h7 := (by decide : (9999 : Int64).toInt = 9999); exact ⟨⟨by omega, by omega⟩, trivial⟩)⟩, ht⟩) t_nil dX10_isStep_9
theorem dX10_isSeed_0 : decode cX10_isSeed 0 = .ok (.iload_n 0, 1) := by decide +kernel
theorem dX10_isSeed_1 : decode cX10_isSeed 1 = .ok (.i2l, 1) := by decide +kernel
theorem dX10_isSeed_2 : decode cX10_isSeed 2 = .ok (.lconst 0, 1) := by decide +kernel
theorem dX10_isSeed_3 : decode cX10_isSeed 3 = .ok (.ldc2_w 402, 3) := by decide +kernel
theorem dX10_isSeed_6 : decode cX10_isSeed 6 = .ok (.invokestatic 82, 3) := by decide +kernel
theorem dX10_isSeed_9 : decode cX10_isSeed 9 = .ok (.ireturn, 1) := by decide +kernel
def uX10_isSeed : List Cond := .code yX10_isSeed cX10_isSeed 1 (some .boolean) :: ([.constantLong RX10 402 (2000000000), .methodLink RX10 82 yX10_in, .static yX10_in, .initialized RX10, .code yX10_in cX10_in 6 (some .boolean)])
set_option maxRecDepth 20000 in
theorem gX10_isSeed__X10_in_S82 : GoodIn uX10_isSeed (va_wsS RX10 82 yX10_in uX10_in) := goodIn_p _ [5] rfl (by decide +kernel)
set_option maxHeartbeats 4000000 in
set_option maxRecDepth 100000 in
theorem kX10_isSeed (l : Launch) (dC : Nat → ClassId) (dI : Nat → Nat → Nat) (a1 : Int32) : Met l yX10_isSeed uX10_isSeed ({ frames := 1, cells := 0, slots := 0, locals := 25 }) (va_Pc [.int a1] (fun _ => True)) (vp_Si (fun r => ((0 : Int) ≤ r.toInt ∧ r.toInt ≤ 1) ∧ (r ≠ 0 → ((0 : Int) ≤ a1.toInt ∧ a1.toInt ≤ 2000000000) ∧ (True)))) 0 0 (fun _ => False) := by
  refine Met.ofW (cc := cX10_isSeed) (maxL := 1) (ret := (some .boolean)) (by decide) rfl ?_
  intro p e s m args below meth c s₁ B hml hv
  obtain ⟨rfl, _⟩ := hv
  have hx := B.exec
  have hb := B.bytes
  have hr := B.returns
  have hts := atoms_spec (ws := uX10_isSeed) B.pre
  have hown : s.vm.findClass RX10 = some m.cls := findClass_of_methodNamed B.named
  have hlocks := B.notSynchronized
  have hl := lv_entry ([.int a1]) (n := 1) (Nat.le_of_ble_eq_true rfl)
  rw [lg_entry_eq]
  generalize (lg_sl ([.int a1]) ++ List.replicate (1 - (lg_sl ([.int a1])).length) Slot.unset).toArray = ls at hl ⊢
  have hl : lv_has ls 1 [(0, .int a1)] := hl
  refine lv_iload_n hx hb dX10_isSeed_0 rfl (lv_at hl 0 rfl) ?_
  obtain ⟨z_3, e_z_3⟩ : ∃ y : Int64, y = a1.toInt64 := ⟨_, rfl⟩
  refine lv_i2l (v := z_3) hx hb dX10_isSeed_1 e_z_3.symm ?_
  obtain ⟨q_z_3, b_z_3⟩ := ti_i2l e_z_3 (ti_rng a1)
  refine lv_lconst (v := 0) hx hb dX10_isSeed_2 (by decide) ?_
  refine lv_ldc2 (v := 2000000000) hx hb hown (hts (.constantLong RX10 402 (2000000000)) (List.mem_of_getElem? (i := 1) rfl)) dX10_isSeed_3 ?_
  refine vp_callSi (W.runS (As := [.long z_3, .long 0, .long 2000000000]) (rest := []) ⟨hx, hb, hml, hown, hts⟩ (kX10_in l dC dI z_3 0 2000000000 ) (va_cwS 3 hts gX10_isSeed__X10_in_S82 rfl rfl rfl (by decide +kernel) ⟨lel 1 1 rfl, lel 25 25 rfl⟩) ⟨pn_fb, pn_use⟩ rfl rfl hl.1 rfl (lv_room (Nat.le_of_ble_eq_true rfl)) dX10_isSeed_6 ⟨lel 0 0 rfl, lel 0 0 rfl⟩) (fun r_4 h_r_4 => ?_)
  obtain ⟨b_r_4, nz_r_4⟩ := h_r_4
  have b_r_4 : (0 : Int) ≤ r_4.toInt ∧ r_4.toInt ≤ 1 := b_r_4
  exact W.zret (v := r_4) hx hb hr (zn_b b_r_4) (fun t ht hW => ⟨r_4, rfl, ⟨b_r_4, (fun h9 => by have h8 := nz_r_4 h9; have h7 := (by decide : (0 : Int64).toInt = 0); have h7 := (by decide : (2000000000 : Int64).toInt = 2000000000); exact ⟨⟨by omega, by omega⟩, trivial⟩)⟩, ht⟩) t_nil dX10_isSeed_9
theorem dX10_isSlot_0 : decode cX10_isSlot 0 = .ok (.iload_n 0, 1) := by decide +kernel
theorem dX10_isSlot_1 : decode cX10_isSlot 1 = .ok (.i2l, 1) := by decide +kernel
theorem dX10_isSlot_2 : decode cX10_isSlot 2 = .ok (.lconst 0, 1) := by decide +kernel
theorem dX10_isSlot_3 : decode cX10_isSlot 3 = .ok (.ldc2_w 375, 3) := by decide +kernel
theorem dX10_isSlot_6 : decode cX10_isSlot 6 = .ok (.invokestatic 82, 3) := by decide +kernel
theorem dX10_isSlot_9 : decode cX10_isSlot 9 = .ok (.ireturn, 1) := by decide +kernel
def uX10_isSlot : List Cond := .code yX10_isSlot cX10_isSlot 1 (some .boolean) :: ([.constantLong RX10 375 (3), .methodLink RX10 82 yX10_in, .static yX10_in, .initialized RX10, .code yX10_in cX10_in 6 (some .boolean)])
set_option maxRecDepth 20000 in
theorem gX10_isSlot__X10_in_S82 : GoodIn uX10_isSlot (va_wsS RX10 82 yX10_in uX10_in) := goodIn_p _ [5] rfl (by decide +kernel)
set_option maxHeartbeats 4000000 in
set_option maxRecDepth 100000 in
theorem kX10_isSlot (l : Launch) (dC : Nat → ClassId) (dI : Nat → Nat → Nat) (a1 : Int32) : Met l yX10_isSlot uX10_isSlot ({ frames := 1, cells := 0, slots := 0, locals := 25 }) (va_Pc [.int a1] (fun _ => True)) (vp_Si (fun r => ((0 : Int) ≤ r.toInt ∧ r.toInt ≤ 1) ∧ (r ≠ 0 → ((0 : Int) ≤ a1.toInt ∧ a1.toInt ≤ 3) ∧ (True)))) 0 0 (fun _ => False) := by
  refine Met.ofW (cc := cX10_isSlot) (maxL := 1) (ret := (some .boolean)) (by decide) rfl ?_
  intro p e s m args below meth c s₁ B hml hv
  obtain ⟨rfl, _⟩ := hv
  have hx := B.exec
  have hb := B.bytes
  have hr := B.returns
  have hts := atoms_spec (ws := uX10_isSlot) B.pre
  have hown : s.vm.findClass RX10 = some m.cls := findClass_of_methodNamed B.named
  have hlocks := B.notSynchronized
  have hl := lv_entry ([.int a1]) (n := 1) (Nat.le_of_ble_eq_true rfl)
  rw [lg_entry_eq]
  generalize (lg_sl ([.int a1]) ++ List.replicate (1 - (lg_sl ([.int a1])).length) Slot.unset).toArray = ls at hl ⊢
  have hl : lv_has ls 1 [(0, .int a1)] := hl
  refine lv_iload_n hx hb dX10_isSlot_0 rfl (lv_at hl 0 rfl) ?_
  obtain ⟨z_3, e_z_3⟩ : ∃ y : Int64, y = a1.toInt64 := ⟨_, rfl⟩
  refine lv_i2l (v := z_3) hx hb dX10_isSlot_1 e_z_3.symm ?_
  obtain ⟨q_z_3, b_z_3⟩ := ti_i2l e_z_3 (ti_rng a1)
  refine lv_lconst (v := 0) hx hb dX10_isSlot_2 (by decide) ?_
  refine lv_ldc2 (v := 3) hx hb hown (hts (.constantLong RX10 375 (3)) (List.mem_of_getElem? (i := 1) rfl)) dX10_isSlot_3 ?_
  refine vp_callSi (W.runS (As := [.long z_3, .long 0, .long 3]) (rest := []) ⟨hx, hb, hml, hown, hts⟩ (kX10_in l dC dI z_3 0 3 ) (va_cwS 3 hts gX10_isSlot__X10_in_S82 rfl rfl rfl (by decide +kernel) ⟨lel 1 1 rfl, lel 25 25 rfl⟩) ⟨pn_fb, pn_use⟩ rfl rfl hl.1 rfl (lv_room (Nat.le_of_ble_eq_true rfl)) dX10_isSlot_6 ⟨lel 0 0 rfl, lel 0 0 rfl⟩) (fun r_4 h_r_4 => ?_)
  obtain ⟨b_r_4, nz_r_4⟩ := h_r_4
  have b_r_4 : (0 : Int) ≤ r_4.toInt ∧ r_4.toInt ≤ 1 := b_r_4
  exact W.zret (v := r_4) hx hb hr (zn_b b_r_4) (fun t ht hW => ⟨r_4, rfl, ⟨b_r_4, (fun h9 => by have h8 := nz_r_4 h9; have h7 := (by decide : (0 : Int64).toInt = 0); have h7 := (by decide : (3 : Int64).toInt = 3); exact ⟨⟨by omega, by omega⟩, trivial⟩)⟩, ht⟩) t_nil dX10_isSlot_9
theorem dX10_isDay_0 : decode cX10_isDay 0 = .ok (.iload_n 0, 1) := by decide +kernel
theorem dX10_isDay_1 : decode cX10_isDay 1 = .ok (.i2l, 1) := by decide +kernel
theorem dX10_isDay_2 : decode cX10_isDay 2 = .ok (.lconst 1, 1) := by decide +kernel
theorem dX10_isDay_3 : decode cX10_isDay 3 = .ok (.ldc2_w 442, 3) := by decide +kernel
theorem dX10_isDay_6 : decode cX10_isDay 6 = .ok (.invokestatic 82, 3) := by decide +kernel
theorem dX10_isDay_9 : decode cX10_isDay 9 = .ok (.ireturn, 1) := by decide +kernel
def uX10_isDay : List Cond := .code yX10_isDay cX10_isDay 1 (some .boolean) :: ([.constantLong RX10 442 (365), .methodLink RX10 82 yX10_in, .static yX10_in, .initialized RX10, .code yX10_in cX10_in 6 (some .boolean)])
set_option maxRecDepth 20000 in
theorem gX10_isDay__X10_in_S82 : GoodIn uX10_isDay (va_wsS RX10 82 yX10_in uX10_in) := goodIn_p _ [5] rfl (by decide +kernel)
set_option maxHeartbeats 4000000 in
set_option maxRecDepth 100000 in
theorem kX10_isDay (l : Launch) (dC : Nat → ClassId) (dI : Nat → Nat → Nat) (a1 : Int32) : Met l yX10_isDay uX10_isDay ({ frames := 1, cells := 0, slots := 0, locals := 25 }) (va_Pc [.int a1] (fun _ => True)) (vp_Si (fun r => ((0 : Int) ≤ r.toInt ∧ r.toInt ≤ 1) ∧ (r ≠ 0 → ((1 : Int) ≤ a1.toInt ∧ a1.toInt ≤ 365) ∧ (True)))) 0 0 (fun _ => False) := by
  refine Met.ofW (cc := cX10_isDay) (maxL := 1) (ret := (some .boolean)) (by decide) rfl ?_
  intro p e s m args below meth c s₁ B hml hv
  obtain ⟨rfl, _⟩ := hv
  have hx := B.exec
  have hb := B.bytes
  have hr := B.returns
  have hts := atoms_spec (ws := uX10_isDay) B.pre
  have hown : s.vm.findClass RX10 = some m.cls := findClass_of_methodNamed B.named
  have hlocks := B.notSynchronized
  have hl := lv_entry ([.int a1]) (n := 1) (Nat.le_of_ble_eq_true rfl)
  rw [lg_entry_eq]
  generalize (lg_sl ([.int a1]) ++ List.replicate (1 - (lg_sl ([.int a1])).length) Slot.unset).toArray = ls at hl ⊢
  have hl : lv_has ls 1 [(0, .int a1)] := hl
  refine lv_iload_n hx hb dX10_isDay_0 rfl (lv_at hl 0 rfl) ?_
  obtain ⟨z_3, e_z_3⟩ : ∃ y : Int64, y = a1.toInt64 := ⟨_, rfl⟩
  refine lv_i2l (v := z_3) hx hb dX10_isDay_1 e_z_3.symm ?_
  obtain ⟨q_z_3, b_z_3⟩ := ti_i2l e_z_3 (ti_rng a1)
  refine lv_lconst (v := 1) hx hb dX10_isDay_2 (by decide) ?_
  refine lv_ldc2 (v := 365) hx hb hown (hts (.constantLong RX10 442 (365)) (List.mem_of_getElem? (i := 1) rfl)) dX10_isDay_3 ?_
  refine vp_callSi (W.runS (As := [.long z_3, .long 1, .long 365]) (rest := []) ⟨hx, hb, hml, hown, hts⟩ (kX10_in l dC dI z_3 1 365 ) (va_cwS 3 hts gX10_isDay__X10_in_S82 rfl rfl rfl (by decide +kernel) ⟨lel 1 1 rfl, lel 25 25 rfl⟩) ⟨pn_fb, pn_use⟩ rfl rfl hl.1 rfl (lv_room (Nat.le_of_ble_eq_true rfl)) dX10_isDay_6 ⟨lel 0 0 rfl, lel 0 0 rfl⟩) (fun r_4 h_r_4 => ?_)
  obtain ⟨b_r_4, nz_r_4⟩ := h_r_4
  have b_r_4 : (0 : Int) ≤ r_4.toInt ∧ r_4.toInt ≤ 1 := b_r_4
  exact W.zret (v := r_4) hx hb hr (zn_b b_r_4) (fun t ht hW => ⟨r_4, rfl, ⟨b_r_4, (fun h9 => by have h8 := nz_r_4 h9; have h7 := (by decide : (1 : Int64).toInt = 1); have h7 := (by decide : (365 : Int64).toInt = 365); exact ⟨⟨by omega, by omega⟩, trivial⟩)⟩, ht⟩) t_nil dX10_isDay_9
theorem dX10_isLong_0 : decode cX10_isLong 0 = .ok (.iload_n 0, 1) := by decide +kernel
theorem dX10_isLong_1 : decode cX10_isLong 1 = .ok (.i2l, 1) := by decide +kernel
theorem dX10_isLong_2 : decode cX10_isLong 2 = .ok (.lconst 1, 1) := by decide +kernel
theorem dX10_isLong_3 : decode cX10_isLong 3 = .ok (.ldc2_w 453, 3) := by decide +kernel
theorem dX10_isLong_6 : decode cX10_isLong 6 = .ok (.invokestatic 82, 3) := by decide +kernel
theorem dX10_isLong_9 : decode cX10_isLong 9 = .ok (.ifCond .eq 21, 3) := by decide +kernel
theorem dX10_isLong_12 : decode cX10_isLong 12 = .ok (.iload_n 1, 1) := by decide +kernel
theorem dX10_isLong_13 : decode cX10_isLong 13 = .ok (.i2l, 1) := by decide +kernel
theorem dX10_isLong_14 : decode cX10_isLong 14 = .ok (.ldc2_w 80, 3) := by decide +kernel
theorem dX10_isLong_17 : decode cX10_isLong 17 = .ok (.ldc2_w 455, 3) := by decide +kernel
theorem dX10_isLong_20 : decode cX10_isLong 20 = .ok (.invokestatic 82, 3) := by decide +kernel
theorem dX10_isLong_23 : decode cX10_isLong 23 = .ok (.ifCond .eq 7, 3) := by decide +kernel
theorem dX10_isLong_26 : decode cX10_isLong 26 = .ok (.iconst 1, 1) := by decide +kernel
theorem dX10_isLong_27 : decode cX10_isLong 27 = .ok (.goto 4, 3) := by decide +kernel
theorem dX10_isLong_30 : decode cX10_isLong 30 = .ok (.iconst 0, 1) := by decide +kernel
theorem dX10_isLong_31 : decode cX10_isLong 31 = .ok (.ireturn, 1) := by decide +kernel
def uX10_isLong : List Cond := .code yX10_isLong cX10_isLong 2 (some .boolean) :: ([.constantLong RX10 453 (12), .methodLink RX10 82 yX10_in, .static yX10_in, .initialized RX10, .code yX10_in cX10_in 6 (some .boolean), .constantLong RX10 80 (2), .constantLong RX10 455 (16)])
set_option maxRecDepth 20000 in
theorem gX10_isLong__X10_in_S82 : GoodIn uX10_isLong (va_wsS RX10 82 yX10_in uX10_in) := goodIn_p _ [5] rfl (by decide +kernel)
set_option maxHeartbeats 4000000 in
set_option maxRecDepth 100000 in
theorem kX10_isLong (l : Launch) (dC : Nat → ClassId) (dI : Nat → Nat → Nat) (a1 : Int32) (a2 : Int32) : Met l yX10_isLong uX10_isLong ({ frames := 1, cells := 0, slots := 0, locals := 25 }) (va_Pc [.int a1, .int a2] (fun _ => True)) (vp_Si (fun r => ((0 : Int) ≤ r.toInt ∧ r.toInt ≤ 1) ∧ (r ≠ 0 → ((1 : Int) ≤ a1.toInt ∧ a1.toInt ≤ 12) ∧ ((2 : Int) ≤ a2.toInt ∧ a2.toInt ≤ 16) ∧ (True)))) 0 0 (fun _ => False) := by
  refine Met.ofW (cc := cX10_isLong) (maxL := 2) (ret := (some .boolean)) (by decide) rfl ?_
  intro p e s m args below meth c s₁ B hml hv
  obtain ⟨rfl, _⟩ := hv
  have hx := B.exec
  have hb := B.bytes
  have hr := B.returns
  have hts := atoms_spec (ws := uX10_isLong) B.pre
  have hown : s.vm.findClass RX10 = some m.cls := findClass_of_methodNamed B.named
  have hlocks := B.notSynchronized
  have hl := lv_entry ([.int a1, .int a2]) (n := 2) (Nat.le_of_ble_eq_true rfl)
  rw [lg_entry_eq]
  generalize (lg_sl ([.int a1, .int a2]) ++ List.replicate (2 - (lg_sl ([.int a1, .int a2])).length) Slot.unset).toArray = ls at hl ⊢
  have hl : lv_has ls 2 [(0, .int a1), (1, .int a2)] := hl
  refine lv_iload_n hx hb dX10_isLong_0 rfl (lv_at hl 0 rfl) ?_
  obtain ⟨z_9, e_z_9⟩ : ∃ y : Int64, y = a1.toInt64 := ⟨_, rfl⟩
  refine lv_i2l (v := z_9) hx hb dX10_isLong_1 e_z_9.symm ?_
  obtain ⟨q_z_9, b_z_9⟩ := ti_i2l e_z_9 (ti_rng a1)
  refine lv_lconst (v := 1) hx hb dX10_isLong_2 (by decide) ?_
  refine lv_ldc2 (v := 12) hx hb hown (hts (.constantLong RX10 453 (12)) (List.mem_of_getElem? (i := 1) rfl)) dX10_isLong_3 ?_
  refine vp_callSi (W.runS (As := [.long z_9, .long 1, .long 12]) (rest := []) ⟨hx, hb, hml, hown, hts⟩ (kX10_in l dC dI z_9 1 12 ) (va_cwS 3 hts gX10_isLong__X10_in_S82 rfl rfl rfl (by decide +kernel) ⟨lel 1 1 rfl, lel 25 25 rfl⟩) ⟨pn_fb, pn_use⟩ rfl rfl hl.1 rfl (lv_room (Nat.le_of_ble_eq_true rfl)) dX10_isLong_6 ⟨lel 0 0 rfl, lel 0 0 rfl⟩) (fun r_10 h_r_10 => ?_)
  obtain ⟨b_r_10, nz_r_10⟩ := h_r_10
  have b_r_10 : (0 : Int) ≤ r_10.toInt ∧ r_10.toInt ≤ 1 := b_r_10
  refine lv_if_eq (tgt := 30) hx hb dX10_isLong_9 (by decide) (fun c_11 => ?_) (fun c_11 => ?_)
  ·
    have n_c_11 : (r_10.toInt : Int) = 0 := c_eq rfl (by decide) c_11
    have b_r_10 : (0 : Int) ≤ r_10.toInt ∧ r_10.toInt ≤ 0 := r_eq1 b_r_10 (by decide : (0 : Int) ≤ (0 : Int32).toInt ∧ (0 : Int32).toInt ≤ 0) n_c_11 (by decide)
    refine lv_iconst (v := 0) hx hb dX10_isLong_30 (by decide) ?_
    exact W.zret (v := 0) hx hb hr rfl (fun t ht hW => ⟨0, rfl, ⟨(rg_w (by decide : (0 : Int) ≤ (0 : Int32).toInt ∧ (0 : Int32).toInt ≤ 0) (by decide) (by decide)), (fun h9 => absurd rfl h9)⟩, ht⟩) t_nil dX10_isLong_31
  ·
    have n_c_11 : (r_10.toInt : Int) ≠ 0 := c_ne rfl (by decide) c_11
    have b_r_10 : (1 : Int) ≤ r_10.toInt ∧ r_10.toInt ≤ 1 := r_ne1 b_r_10 (by decide : (0 : Int) ≤ (0 : Int32).toInt ∧ (0 : Int32).toInt ≤ 0) n_c_11 (by decide)
    have g_12 := nz_r_10 c_11
    have lt0_g_12 := (by decide : (1 : Int64).toInt = 1)
    have lt1_g_12 := (by decide : (12 : Int64).toInt = 12)
    have b_z_9 : (1 : Int) ≤ z_9.toInt ∧ z_9.toInt ≤ 12 := by
      have q0 := b_z_9
      have q1 := (by decide : (1 : Int) ≤ (1 : Int64).toInt ∧ (1 : Int64).toInt ≤ 1)
      have q2 := (by decide : (12 : Int) ≤ (12 : Int64).toInt ∧ (12 : Int64).toInt ≤ 12)
      omega
    have b_a1 : (1 : Int) ≤ a1.toInt ∧ a1.toInt ≤ 12 := by
      have q0 := b_z_9; have q1 := q_z_9; have q2 := (ti_rng a1); omega
    refine lv_iload_n hx hb dX10_isLong_12 rfl (lv_at hl 1 rfl) ?_
    obtain ⟨z_13, e_z_13⟩ : ∃ y : Int64, y = a2.toInt64 := ⟨_, rfl⟩
    refine lv_i2l (v := z_13) hx hb dX10_isLong_13 e_z_13.symm ?_
    obtain ⟨q_z_13, b_z_13⟩ := ti_i2l e_z_13 (ti_rng a2)
    refine lv_ldc2 (v := 2) hx hb hown (hts (.constantLong RX10 80 (2)) (List.mem_of_getElem? (i := 6) rfl)) dX10_isLong_14 ?_
    refine lv_ldc2 (v := 16) hx hb hown (hts (.constantLong RX10 455 (16)) (List.mem_of_getElem? (i := 7) rfl)) dX10_isLong_17 ?_
    refine vp_callSi (W.runS (As := [.long z_13, .long 2, .long 16]) (rest := []) ⟨hx, hb, hml, hown, hts⟩ (kX10_in l dC dI z_13 2 16 ) (va_cwS 3 hts gX10_isLong__X10_in_S82 rfl rfl rfl (by decide +kernel) ⟨lel 1 1 rfl, lel 25 25 rfl⟩) ⟨pn_fb, pn_use⟩ rfl rfl hl.1 rfl (lv_room (Nat.le_of_ble_eq_true rfl)) dX10_isLong_20 ⟨lel 0 0 rfl, lel 0 0 rfl⟩) (fun r_14 h_r_14 => ?_)
    obtain ⟨b_r_14, nz_r_14⟩ := h_r_14
    have b_r_14 : (0 : Int) ≤ r_14.toInt ∧ r_14.toInt ≤ 1 := b_r_14
    refine lv_if_eq (tgt := 30) hx hb dX10_isLong_23 (by decide) (fun c_15 => ?_) (fun c_15 => ?_)
    ·
      have n_c_15 : (r_14.toInt : Int) = 0 := c_eq rfl (by decide) c_15
      have b_r_14 : (0 : Int) ≤ r_14.toInt ∧ r_14.toInt ≤ 0 := r_eq1 b_r_14 (by decide : (0 : Int) ≤ (0 : Int32).toInt ∧ (0 : Int32).toInt ≤ 0) n_c_15 (by decide)
      refine lv_iconst (v := 0) hx hb dX10_isLong_30 (by decide) ?_
      exact W.zret (v := 0) hx hb hr rfl (fun t ht hW => ⟨0, rfl, ⟨(rg_w (by decide : (0 : Int) ≤ (0 : Int32).toInt ∧ (0 : Int32).toInt ≤ 0) (by decide) (by decide)), (fun h9 => absurd rfl h9)⟩, ht⟩) t_nil dX10_isLong_31
    ·
      have n_c_15 : (r_14.toInt : Int) ≠ 0 := c_ne rfl (by decide) c_15
      have b_r_14 : (1 : Int) ≤ r_14.toInt ∧ r_14.toInt ≤ 1 := r_ne1 b_r_14 (by decide : (0 : Int) ≤ (0 : Int32).toInt ∧ (0 : Int32).toInt ≤ 0) n_c_15 (by decide)
      have g_16 := nz_r_14 c_15
      have lt0_g_16 := (by decide : (2 : Int64).toInt = 2)
      have lt1_g_16 := (by decide : (16 : Int64).toInt = 16)
      have b_z_13 : (2 : Int) ≤ z_13.toInt ∧ z_13.toInt ≤ 16 := by
        have q0 := b_z_13
        have q1 := (by decide : (2 : Int) ≤ (2 : Int64).toInt ∧ (2 : Int64).toInt ≤ 2)
        have q2 := (by decide : (16 : Int) ≤ (16 : Int64).toInt ∧ (16 : Int64).toInt ≤ 16)
        omega
      have b_a2 : (2 : Int) ≤ a2.toInt ∧ a2.toInt ≤ 16 := by
        have q0 := b_z_13; have q1 := q_z_13; have q2 := (ti_rng a2); omega
      refine lv_iconst (v := 1) hx hb dX10_isLong_26 (by decide) ?_
      refine lv_goto (tgt := 31) hx hb dX10_isLong_27 (by decide) ?_
      exact W.zret (v := 1) hx hb hr rfl (fun t ht hW => ⟨1, rfl, ⟨(rg_w (by decide : (1 : Int) ≤ (1 : Int32).toInt ∧ (1 : Int32).toInt ≤ 1) (by decide) (by decide)), (fun _ => ⟨⟨by omega, by omega⟩, ⟨by omega, by omega⟩, trivial⟩)⟩, ht⟩) t_nil dX10_isLong_31
theorem dX10_isSquare_0 : decode cX10_isSquare 0 = .ok (.iconst 0, 1) := by decide +kernel
theorem dX10_isSquare_1 : decode cX10_isSquare 1 = .ok (.istore_n 1, 1) := by decide +kernel
theorem dX10_isSquare_2 : decode cX10_isSquare 2 = .ok (.iload_n 1, 1) := by decide +kernel
theorem dX10_isSquare_3 : decode cX10_isSquare 3 = .ok (.iload_n 1, 1) := by decide +kernel
theorem dX10_isSquare_4 : decode cX10_isSquare 4 = .ok (.imul, 1) := by decide +kernel
theorem dX10_isSquare_5 : decode cX10_isSquare 5 = .ok (.iload_n 0, 1) := by decide +kernel
theorem dX10_isSquare_6 : decode cX10_isSquare 6 = .ok (.if_icmp .ge 9, 3) := by decide +kernel
theorem dX10_isSquare_9 : decode cX10_isSquare 9 = .ok (.iinc 1 1, 3) := by decide +kernel
theorem dX10_isSquare_12 : decode cX10_isSquare 12 = .ok (.goto (-10), 3) := by decide +kernel
theorem dX10_isSquare_15 : decode cX10_isSquare 15 = .ok (.iload_n 1, 1) := by decide +kernel
theorem dX10_isSquare_16 : decode cX10_isSquare 16 = .ok (.iload_n 1, 1) := by decide +kernel
theorem dX10_isSquare_17 : decode cX10_isSquare 17 = .ok (.imul, 1) := by decide +kernel
theorem dX10_isSquare_18 : decode cX10_isSquare 18 = .ok (.iload_n 0, 1) := by decide +kernel
theorem dX10_isSquare_19 : decode cX10_isSquare 19 = .ok (.if_icmp .ne 7, 3) := by decide +kernel
theorem dX10_isSquare_22 : decode cX10_isSquare 22 = .ok (.iconst 1, 1) := by decide +kernel
theorem dX10_isSquare_23 : decode cX10_isSquare 23 = .ok (.goto 4, 3) := by decide +kernel
theorem dX10_isSquare_26 : decode cX10_isSquare 26 = .ok (.iconst 0, 1) := by decide +kernel
theorem dX10_isSquare_27 : decode cX10_isSquare 27 = .ok (.ireturn, 1) := by decide +kernel
def uX10_isSquare : List Cond := .code yX10_isSquare cX10_isSquare 2 (some .boolean) :: ([])
set_option maxHeartbeats 4000000 in
set_option maxRecDepth 100000 in
theorem kX10_isSquare (l : Launch) (dC : Nat → ClassId) (dI : Nat → Nat → Nat) (a1 : Int32) (b_a1 : (0 : Int) ≤ a1.toInt ∧ a1.toInt ≤ 2000) : Met l yX10_isSquare uX10_isSquare ({ frames := 0, cells := 0, slots := 0, locals := 0 }) (va_Pc [.int a1] (fun _ => True)) (vp_Si (fun r => ((0 : Int) ≤ r.toInt ∧ r.toInt ≤ 1))) 0 0 (fun _ => False) := by
  refine Met.ofW (cc := cX10_isSquare) (maxL := 2) (ret := (some .boolean)) (by decide) rfl ?_
  intro p e s m args below meth c s₁ B hml hv
  obtain ⟨rfl, _⟩ := hv
  have hx := B.exec
  have hb := B.bytes
  have hr := B.returns
  have hts := atoms_spec (ws := uX10_isSquare) B.pre
  have hown : s.vm.findClass RX10 = some m.cls := findClass_of_methodNamed B.named
  have hlocks := B.notSynchronized
  have hl := lv_entry ([.int a1]) (n := 2) (Nat.le_of_ble_eq_true rfl)
  rw [lg_entry_eq]
  generalize (lg_sl ([.int a1]) ++ List.replicate (2 - (lg_sl ([.int a1])).length) Slot.unset).toArray = ls at hl ⊢
  have hl : lv_has ls 2 [(0, .int a1)] := hl
  refine lv_iconst (v := 0) hx hb dX10_isSquare_0 (by decide) ?_
  refine lv_istore_n (lv' := [(1, .int 0), (0, .int a1)]) hx hb dX10_isSquare_1 rfl hl (by decide) rfl (fun ls hl => ?_)
  refine loopP (σ := Int32) (fun v => (45 - v.toInt).toNat) (fun v ls => ((0 : Int) ≤ v.toInt ∧ v.toInt ≤ 45) ∧ lv_has ls 2 [(1, .int v), (0, .int a1)]) (fun v ls hI ih_2_44 => ?_) (0 : Int32) ⟨(show (0 : Int) ≤ (0 : Int32).toInt ∧ (0 : Int32).toInt ≤ 45 from (rg_w (by decide : (0 : Int) ≤ (0 : Int32).toInt ∧ (0 : Int32).toInt ≤ 0) (by decide) (by decide))), lv_sub hl [0, 1] rfl⟩
  obtain ⟨y_32, rfl⟩ : ∃ z, z = v := ⟨_, rfl⟩
  obtain ⟨b_y_32, hl⟩ := hI
  have b_y_32 : (0 : Int) ≤ y_32.toInt ∧ y_32.toInt ≤ 45 := b_y_32
  have hl : lv_has ls 2 [(1, .int y_32), (0, .int a1)] := hl
  refine lv_iload_n hx hb dX10_isSquare_2 rfl (lv_at hl 0 rfl) ?_
  refine lv_iload_n hx hb dX10_isSquare_3 rfl (lv_at hl 0 rfl) ?_
  refine lv_imul hx hb dX10_isSquare_4 ?_
  refine lv_topi (fun z_45 e_z_45 => ?_)
  obtain ⟨q_z_45, b_z_45⟩ := ti_mul (lo := 0) (hi := 2025) e_z_45 rfl rfl b_y_32 b_y_32 (by decide)
  refine lv_iload_n hx hb dX10_isSquare_5 rfl (lv_at hl 1 rfl) ?_
  refine lv_icmp_ge (tgt := 15) hx hb dX10_isSquare_6 (by decide) (fun c_46 => ?_) (fun c_46 => ?_)
  ·
    have n_c_46 : (a1.toInt : Int) ≤ z_45.toInt := c_ge rfl rfl c_46
    refine lv_iload_n hx hb dX10_isSquare_15 rfl (lv_at hl 0 rfl) ?_
    refine lv_iload_n hx hb dX10_isSquare_16 rfl (lv_at hl 0 rfl) ?_
    refine lv_imul hx hb dX10_isSquare_17 ?_
    refine lv_topi (fun z_48 e_z_48 => ?_)
    obtain ⟨q_z_48, b_z_48⟩ := ti_mul (lo := 0) (hi := 2025) e_z_48 rfl rfl b_y_32 b_y_32 (by decide)
    refine lv_iload_n hx hb dX10_isSquare_18 rfl (lv_at hl 1 rfl) ?_
    refine lv_icmp_ne (tgt := 26) hx hb dX10_isSquare_19 (by decide) (fun c_49 => ?_) (fun c_49 => ?_)
    ·
      have n_c_49 : (z_48.toInt : Int) ≠ a1.toInt := c_ne rfl rfl c_49
      refine lv_iconst (v := 0) hx hb dX10_isSquare_26 (by decide) ?_
      exact W.zret (v := 0) hx hb hr rfl (fun t ht hW => ⟨0, rfl, (rg_w (by decide : (0 : Int) ≤ (0 : Int32).toInt ∧ (0 : Int32).toInt ≤ 0) (by decide) (by decide)), ht⟩) t_nil dX10_isSquare_27
    ·
      have n_c_49 : (z_48.toInt : Int) = a1.toInt := c_eq rfl rfl c_49
      have b_z_48 : (0 : Int) ≤ z_48.toInt ∧ z_48.toInt ≤ 2000 := r_eq1 b_z_48 b_a1 n_c_49 (by decide)
      have b_y_32 : (0 : Int) ≤ y_32.toInt ∧ y_32.toInt ≤ 44 := ⟨(b_y_32).1, sq_bd (h := 2000) (by have q0 := b_y_32; omega) (by have q0 := b_z_48; have q1 := q_z_48; omega) (by decide)⟩
      refine lv_iconst (v := 1) hx hb dX10_isSquare_22 (by decide) ?_
      refine lv_goto (tgt := 27) hx hb dX10_isSquare_23 (by decide) ?_
      exact W.zret (v := 1) hx hb hr rfl (fun t ht hW => ⟨1, rfl, (rg_w (by decide : (1 : Int) ≤ (1 : Int32).toInt ∧ (1 : Int32).toInt ≤ 1) (by decide) (by decide)), ht⟩) t_nil dX10_isSquare_27
  ·
    have n_c_46 : (z_45.toInt : Int) < a1.toInt := c_nge rfl rfl c_46
    have b_z_45 : (0 : Int) ≤ z_45.toInt ∧ z_45.toInt ≤ 1999 := r_lt1 b_z_45 b_a1 n_c_46 (by decide)
    have b_y_32 : (0 : Int) ≤ y_32.toInt ∧ y_32.toInt ≤ 44 := ⟨(b_y_32).1, sq_bd (h := 1999) (by have q0 := b_y_32; omega) (by have q0 := b_z_45; have q1 := q_z_45; omega) (by decide)⟩
    have b_a1 : (1 : Int) ≤ a1.toInt ∧ a1.toInt ≤ 2000 := r_lt2 b_z_45 b_a1 n_c_46 (by decide)
    obtain ⟨z_50, e_z_50⟩ : ∃ y : Int32, y = y_32 + 1 := ⟨_, rfl⟩
    refine lv_iinc (v := z_50) (lv' := [(1, .int z_50), (0, .int a1)]) hx hb dX10_isSquare_9 hl (k := 0) rfl (by rw [e_z_50]; rfl) (by decide) rfl (fun ls hl => ?_)
    obtain ⟨q_z_50, b_z_50⟩ := ti_add (lo := 1) (hi := 45) e_z_50 rfl (by decide : (1 : Int32).toInt = 1) b_y_32 (by decide : (1 : Int) ≤ (1 : Int32).toInt ∧ (1 : Int32).toInt ≤ 1) (by decide)
    refine lv_goto (tgt := 2) hx hb dX10_isSquare_12 (by decide) ?_
    exact ih_2_44 z_50 _ ⟨(show (0 : Int) ≤ z_50.toInt ∧ z_50.toInt ≤ 45 from (rg_w b_z_50 (by decide) (by decide))), lv_sub hl [0, 1] rfl⟩ (show (45 - z_50.toInt).toNat < (45 - y_32.toInt).toNat by omega)
theorem dX10_powerOf_0 : decode cX10_powerOf 0 = .ok (.lconst 1, 1) := by decide +kernel
theorem dX10_powerOf_1 : decode cX10_powerOf 1 = .ok (.lstore_n 3, 1) := by decide +kernel
theorem dX10_powerOf_2 : decode cX10_powerOf 2 = .ok (.iconst 0, 1) := by decide +kernel
theorem dX10_powerOf_3 : decode cX10_powerOf 3 = .ok (.istore 5, 2) := by decide +kernel
theorem dX10_powerOf_5 : decode cX10_powerOf 5 = .ok (.iload 5, 2) := by decide +kernel
theorem dX10_powerOf_7 : decode cX10_powerOf 7 = .ok (.iload_n 2, 1) := by decide +kernel
theorem dX10_powerOf_8 : decode cX10_powerOf 8 = .ok (.if_icmp .ge 13, 3) := by decide +kernel
theorem dX10_powerOf_11 : decode cX10_powerOf 11 = .ok (.lload_n 3, 1) := by decide +kernel
theorem dX10_powerOf_12 : decode cX10_powerOf 12 = .ok (.lload_n 0, 1) := by decide +kernel
theorem dX10_powerOf_13 : decode cX10_powerOf 13 = .ok (.lmul, 1) := by decide +kernel
theorem dX10_powerOf_14 : decode cX10_powerOf 14 = .ok (.lstore_n 3, 1) := by decide +kernel
theorem dX10_powerOf_15 : decode cX10_powerOf 15 = .ok (.iinc 5 1, 3) := by decide +kernel
theorem dX10_powerOf_18 : decode cX10_powerOf 18 = .ok (.goto (-13), 3) := by decide +kernel
theorem dX10_powerOf_21 : decode cX10_powerOf 21 = .ok (.lload_n 3, 1) := by decide +kernel
theorem dX10_powerOf_22 : decode cX10_powerOf 22 = .ok (.lreturn, 1) := by decide +kernel
def uX10_powerOf : List Cond := .code yX10_powerOf cX10_powerOf 6 (some .long) :: ([])
set_option maxHeartbeats 4000000 in
set_option maxRecDepth 100000 in
theorem kX10_powerOf (l : Launch) (dC : Nat → ClassId) (dI : Nat → Nat → Nat) (a1 : Int64) (a2 : Int32) : Met l yX10_powerOf uX10_powerOf ({ frames := 0, cells := 0, slots := 0, locals := 0 }) (va_Pc [.long a1, .int a2] (fun _ => True)) (vp_Sl (fun r => True)) 0 0 (fun _ => False) := by
  refine Met.ofW (cc := cX10_powerOf) (maxL := 6) (ret := (some .long)) (by decide) rfl ?_
  intro p e s m args below meth c s₁ B hml hv
  obtain ⟨rfl, _⟩ := hv
  have hx := B.exec
  have hb := B.bytes
  have hr := B.returns
  have hts := atoms_spec (ws := uX10_powerOf) B.pre
  have hown : s.vm.findClass RX10 = some m.cls := findClass_of_methodNamed B.named
  have hlocks := B.notSynchronized
  have hl := lv_entry ([.long a1, .int a2]) (n := 6) (Nat.le_of_ble_eq_true rfl)
  rw [lg_entry_eq]
  generalize (lg_sl ([.long a1, .int a2]) ++ List.replicate (6 - (lg_sl ([.long a1, .int a2])).length) Slot.unset).toArray = ls at hl ⊢
  have hl : lv_has ls 6 [(0, .long a1), (2, .int a2)] := hl
  refine lv_lconst (v := 1) hx hb dX10_powerOf_0 (by decide) ?_
  refine lv_lstore_n (lv' := [(3, .long 1), (0, .long a1), (2, .int a2)]) hx hb dX10_powerOf_1 rfl hl (by decide) rfl (fun ls hl => ?_)
  refine lv_iconst (v := 0) hx hb dX10_powerOf_2 (by decide) ?_
  refine lv_istore (lv' := [(5, .int 0), (3, .long 1), (0, .long a1), (2, .int a2)]) hx hb dX10_powerOf_3 hl (by decide) rfl (fun ls hl => ?_)
  refine loopP (σ := Int32 × Int64) (fun v => (2147483647 - v.1.toInt).toNat) (fun v ls => ((0 : Int) ≤ v.1.toInt ∧ v.1.toInt ≤ 2147483647) ∧ lv_has ls 6 [(5, .int v.1), (3, .long v.2), (0, .long a1), (2, .int a2)]) (fun v ls hI ih_5_97 => ?_) ((0 : Int32), (1 : Int64)) ⟨(show (0 : Int) ≤ (0 : Int32).toInt ∧ (0 : Int32).toInt ≤ 2147483647 from (rg_w (by decide : (0 : Int) ≤ (0 : Int32).toInt ∧ (0 : Int32).toInt ≤ 0) (by decide) (by decide))), lv_sub hl [0, 1, 2, 3] rfl⟩
  obtain ⟨y_54, y_55⟩ := v
  obtain ⟨b_y_54, hl⟩ := hI
  have b_y_54 : (0 : Int) ≤ y_54.toInt ∧ y_54.toInt ≤ 2147483647 := b_y_54
  have hl : lv_has ls 6 [(5, .int y_54), (3, .long y_55), (0, .long a1), (2, .int a2)] := hl
  refine lv_iload hx hb dX10_powerOf_5 (lv_at hl 0 rfl) ?_
  refine lv_iload_n hx hb dX10_powerOf_7 rfl (lv_at hl 3 rfl) ?_
  refine lv_icmp_ge (tgt := 21) hx hb dX10_powerOf_8 (by decide) (fun c_98 => ?_) (fun c_98 => ?_)
  ·
    have n_c_98 : (a2.toInt : Int) ≤ y_54.toInt := c_ge rfl rfl c_98
    refine lv_lload_n hx hb dX10_powerOf_21 rfl (lv_at hl 1 rfl) ?_
    exact W.lret (v := y_55) hx hb hr (fun t ht hW => ⟨y_55, rfl, trivial, ht⟩) t_nil dX10_powerOf_22
  ·
    have n_c_98 : (y_54.toInt : Int) < a2.toInt := c_nge rfl rfl c_98
    have b_y_54 : (0 : Int) ≤ y_54.toInt ∧ y_54.toInt ≤ 2147483646 := r_lt1 b_y_54 (ti_rng a2) n_c_98 (by decide)
    have b_a2 : (1 : Int) ≤ a2.toInt ∧ a2.toInt ≤ 2147483647 := r_lt2 b_y_54 (ti_rng a2) n_c_98 (by decide)
    refine lv_lload_n hx hb dX10_powerOf_11 rfl (lv_at hl 1 rfl) ?_
    refine lv_lload_n hx hb dX10_powerOf_12 rfl (lv_at hl 2 rfl) ?_
    refine lv_lmul hx hb dX10_powerOf_13 ?_
    refine lv_topl (fun z_99 e_z_99 => ?_)
    refine lv_lstore_n (lv' := [(3, .long z_99), (5, .int y_54), (0, .long a1), (2, .int a2)]) hx hb dX10_powerOf_14 rfl hl (by decide) rfl (fun ls hl => ?_)
    obtain ⟨z_100, e_z_100⟩ : ∃ y : Int32, y = y_54 + 1 := ⟨_, rfl⟩
    refine lv_iinc (v := z_100) (lv' := [(5, .int z_100), (3, .long z_99), (0, .long a1), (2, .int a2)]) hx hb dX10_powerOf_15 hl (k := 1) rfl (by rw [e_z_100]; rfl) (by decide) rfl (fun ls hl => ?_)
    obtain ⟨q_z_100, b_z_100⟩ := ti_add (lo := 1) (hi := 2147483647) e_z_100 rfl (by decide : (1 : Int32).toInt = 1) b_y_54 (by decide : (1 : Int) ≤ (1 : Int32).toInt ∧ (1 : Int32).toInt ≤ 1) (by decide)
    refine lv_goto (tgt := 5) hx hb dX10_powerOf_18 (by decide) ?_
    exact ih_5_97 (z_100, z_99) _ ⟨(show (0 : Int) ≤ z_100.toInt ∧ z_100.toInt ≤ 2147483647 from (rg_w b_z_100 (by decide) (by decide))), lv_sub hl [0, 1, 2, 3] rfl⟩ (show (2147483647 - z_100.toInt).toNat < (2147483647 - y_54.toInt).toNat by omega)
theorem dX10_bits_0 : decode cX10_bits 0 = .ok (.iconst 0, 1) := by decide +kernel
theorem dX10_bits_1 : decode cX10_bits 1 = .ok (.istore_n 1, 1) := by decide +kernel
theorem dX10_bits_2 : decode cX10_bits 2 = .ok (.iconst 0, 1) := by decide +kernel
theorem dX10_bits_3 : decode cX10_bits 3 = .ok (.istore_n 2, 1) := by decide +kernel
theorem dX10_bits_4 : decode cX10_bits 4 = .ok (.iload_n 2, 1) := by decide +kernel
theorem dX10_bits_5 : decode cX10_bits 5 = .ok (.bipush 12, 2) := by decide +kernel
theorem dX10_bits_7 : decode cX10_bits 7 = .ok (.if_icmp .ge 17, 3) := by decide +kernel
theorem dX10_bits_10 : decode cX10_bits 10 = .ok (.iload_n 1, 1) := by decide +kernel
theorem dX10_bits_11 : decode cX10_bits 11 = .ok (.iload_n 0, 1) := by decide +kernel
theorem dX10_bits_12 : decode cX10_bits 12 = .ok (.iload_n 2, 1) := by decide +kernel
theorem dX10_bits_13 : decode cX10_bits 13 = .ok (.ishr, 1) := by decide +kernel
theorem dX10_bits_14 : decode cX10_bits 14 = .ok (.iconst 1, 1) := by decide +kernel
theorem dX10_bits_15 : decode cX10_bits 15 = .ok (.iand, 1) := by decide +kernel
theorem dX10_bits_16 : decode cX10_bits 16 = .ok (.iadd, 1) := by decide +kernel
theorem dX10_bits_17 : decode cX10_bits 17 = .ok (.istore_n 1, 1) := by decide +kernel
theorem dX10_bits_18 : decode cX10_bits 18 = .ok (.iinc 2 1, 3) := by decide +kernel
theorem dX10_bits_21 : decode cX10_bits 21 = .ok (.goto (-17), 3) := by decide +kernel
theorem dX10_bits_24 : decode cX10_bits 24 = .ok (.iload_n 1, 1) := by decide +kernel
theorem dX10_bits_25 : decode cX10_bits 25 = .ok (.ireturn, 1) := by decide +kernel
def uX10_bits : List Cond := .code yX10_bits cX10_bits 3 (some .int) :: ([])
set_option maxHeartbeats 4000000 in
set_option maxRecDepth 100000 in
theorem kX10_bits (l : Launch) (dC : Nat → ClassId) (dI : Nat → Nat → Nat) (a1 : Int32) : Met l yX10_bits uX10_bits ({ frames := 0, cells := 0, slots := 0, locals := 0 }) (va_Pc [.int a1] (fun _ => True)) (vp_Si (fun r => True)) 0 0 (fun _ => False) := by
  refine Met.ofW (cc := cX10_bits) (maxL := 3) (ret := (some .int)) (by decide) rfl ?_
  intro p e s m args below meth c s₁ B hml hv
  obtain ⟨rfl, _⟩ := hv
  have hx := B.exec
  have hb := B.bytes
  have hr := B.returns
  have hts := atoms_spec (ws := uX10_bits) B.pre
  have hown : s.vm.findClass RX10 = some m.cls := findClass_of_methodNamed B.named
  have hlocks := B.notSynchronized
  have hl := lv_entry ([.int a1]) (n := 3) (Nat.le_of_ble_eq_true rfl)
  rw [lg_entry_eq]
  generalize (lg_sl ([.int a1]) ++ List.replicate (3 - (lg_sl ([.int a1])).length) Slot.unset).toArray = ls at hl ⊢
  have hl : lv_has ls 3 [(0, .int a1)] := hl
  refine lv_iconst (v := 0) hx hb dX10_bits_0 (by decide) ?_
  refine lv_istore_n (lv' := [(1, .int 0), (0, .int a1)]) hx hb dX10_bits_1 rfl hl (by decide) rfl (fun ls hl => ?_)
  refine lv_iconst (v := 0) hx hb dX10_bits_2 (by decide) ?_
  refine lv_istore_n (lv' := [(2, .int 0), (1, .int 0), (0, .int a1)]) hx hb dX10_bits_3 rfl hl (by decide) rfl (fun ls hl => ?_)
  refine loopP (σ := Int32 × Int32) (fun v => (12 - v.1.toInt).toNat) (fun v ls => ((0 : Int) ≤ v.1.toInt ∧ v.1.toInt ≤ 12) ∧ lv_has ls 3 [(2, .int v.1), (1, .int v.2), (0, .int a1)]) (fun v ls hI ih_4_169 => ?_) ((0 : Int32), (0 : Int32)) ⟨(show (0 : Int) ≤ (0 : Int32).toInt ∧ (0 : Int32).toInt ≤ 12 from (rg_w (by decide : (0 : Int) ≤ (0 : Int32).toInt ∧ (0 : Int32).toInt ≤ 0) (by decide) (by decide))), lv_sub hl [0, 1, 2] rfl⟩
  obtain ⟨y_93, y_94⟩ := v
  obtain ⟨b_y_93, hl⟩ := hI
  have b_y_93 : (0 : Int) ≤ y_93.toInt ∧ y_93.toInt ≤ 12 := b_y_93
  have hl : lv_has ls 3 [(2, .int y_93), (1, .int y_94), (0, .int a1)] := hl
  refine lv_iload_n hx hb dX10_bits_4 rfl (lv_at hl 0 rfl) ?_
  refine lv_bipush (v := 12) hx hb dX10_bits_5 (by decide) ?_
  refine lv_icmp_ge (tgt := 24) hx hb dX10_bits_7 (by decide) (fun c_170 => ?_) (fun c_170 => ?_)
  ·
    have n_c_170 : (12 : Int) ≤ y_93.toInt := c_ge rfl (by decide) c_170
    have b_y_93 : (12 : Int) ≤ y_93.toInt ∧ y_93.toInt ≤ 12 := r_le2 (by decide : (12 : Int) ≤ (12 : Int32).toInt ∧ (12 : Int32).toInt ≤ 12) b_y_93 n_c_170 (by decide)
    refine lv_iload_n hx hb dX10_bits_24 rfl (lv_at hl 1 rfl) ?_
    exact W.iret (v := y_94) hx hb hr (fun t ht hW => ⟨y_94, rfl, trivial, ht⟩) t_nil dX10_bits_25
  ·
    have n_c_170 : (y_93.toInt : Int) < 12 := c_nge rfl (by decide) c_170
    have b_y_93 : (0 : Int) ≤ y_93.toInt ∧ y_93.toInt ≤ 11 := r_lt1 b_y_93 (by decide : (12 : Int) ≤ (12 : Int32).toInt ∧ (12 : Int32).toInt ≤ 12) n_c_170 (by decide)
    refine lv_iload_n hx hb dX10_bits_10 rfl (lv_at hl 1 rfl) ?_
    refine lv_iload_n hx hb dX10_bits_11 rfl (lv_at hl 2 rfl) ?_
    refine lv_iload_n hx hb dX10_bits_12 rfl (lv_at hl 0 rfl) ?_
    refine lv_ishr hx hb dX10_bits_13 ?_
    refine lv_topi (fun z_171 e_z_171 => ?_)
    refine lv_iconst (v := 1) hx hb dX10_bits_14 (by decide) ?_
    refine lv_iand hx hb dX10_bits_15 ?_
    refine lv_topi (fun z_172 e_z_172 => ?_)
    have b_z_172 : (0 : Int) ≤ z_172.toInt ∧ z_172.toInt ≤ 1 := ti_and (k := 1) e_z_172 (by decide) (by decide) (by decide)
    refine lv_iadd hx hb dX10_bits_16 ?_
    refine lv_topi (fun z_173 e_z_173 => ?_)
    refine lv_istore_n (lv' := [(1, .int z_173), (2, .int y_93), (0, .int a1)]) hx hb dX10_bits_17 rfl hl (by decide) rfl (fun ls hl => ?_)
    obtain ⟨z_174, e_z_174⟩ : ∃ y : Int32, y = y_93 + 1 := ⟨_, rfl⟩
    refine lv_iinc (v := z_174) (lv' := [(2, .int z_174), (1, .int z_173), (0, .int a1)]) hx hb dX10_bits_18 hl (k := 1) rfl (by rw [e_z_174]; rfl) (by decide) rfl (fun ls hl => ?_)
    obtain ⟨q_z_174, b_z_174⟩ := ti_add (lo := 1) (hi := 12) e_z_174 rfl (by decide : (1 : Int32).toInt = 1) b_y_93 (by decide : (1 : Int) ≤ (1 : Int32).toInt ∧ (1 : Int32).toInt ≤ 1) (by decide)
    refine lv_goto (tgt := 4) hx hb dX10_bits_21 (by decide) ?_
    exact ih_4_169 (z_174, z_173) _ ⟨(show (0 : Int) ≤ z_174.toInt ∧ z_174.toInt ≤ 12 from (rg_w b_z_174 (by decide) (by decide))), lv_sub hl [0, 1, 2] rfl⟩ (show (12 - z_174.toInt).toNat < (12 - y_93.toInt).toNat by omega)
theorem dX10_cut_0 : decode cX10_cut 0 = .ok (.bipush 64, 2) := by decide +kernel
theorem dX10_cut_2 : decode cX10_cut 2 = .ok (.bipush 8, 2) := by decide +kernel
theorem dX10_cut_4 : decode cX10_cut 4 = .ok (.iload_n 2, 1) := by decide +kernel
theorem dX10_cut_5 : decode cX10_cut 5 = .ok (.ishl, 1) := by decide +kernel
theorem dX10_cut_6 : decode cX10_cut 6 = .ok (.isub, 1) := by decide +kernel
theorem dX10_cut_7 : decode cX10_cut 7 = .ok (.istore_n 3, 1) := by decide +kernel
theorem dX10_cut_8 : decode cX10_cut 8 = .ok (.lload_n 0, 1) := by decide +kernel
theorem dX10_cut_9 : decode cX10_cut 9 = .ok (.iload_n 3, 1) := by decide +kernel
theorem dX10_cut_10 : decode cX10_cut 10 = .ok (.lshl, 1) := by decide +kernel
theorem dX10_cut_11 : decode cX10_cut 11 = .ok (.iload_n 3, 1) := by decide +kernel
theorem dX10_cut_12 : decode cX10_cut 12 = .ok (.lshr, 1) := by decide +kernel
theorem dX10_cut_13 : decode cX10_cut 13 = .ok (.lreturn, 1) := by decide +kernel
def uX10_cut : List Cond := .code yX10_cut cX10_cut 4 (some .long) :: ([])
set_option maxHeartbeats 4000000 in
set_option maxRecDepth 100000 in
theorem kX10_cut (l : Launch) (dC : Nat → ClassId) (dI : Nat → Nat → Nat) (a1 : Int64) (a2 : Int32) : Met l yX10_cut uX10_cut ({ frames := 0, cells := 0, slots := 0, locals := 0 }) (va_Pc [.long a1, .int a2] (fun _ => True)) (vp_Sl (fun r => True)) 0 0 (fun _ => False) := by
  refine Met.ofW (cc := cX10_cut) (maxL := 4) (ret := (some .long)) (by decide) rfl ?_
  intro p e s m args below meth c s₁ B hml hv
  obtain ⟨rfl, _⟩ := hv
  have hx := B.exec
  have hb := B.bytes
  have hr := B.returns
  have hts := atoms_spec (ws := uX10_cut) B.pre
  have hown : s.vm.findClass RX10 = some m.cls := findClass_of_methodNamed B.named
  have hlocks := B.notSynchronized
  have hl := lv_entry ([.long a1, .int a2]) (n := 4) (Nat.le_of_ble_eq_true rfl)
  rw [lg_entry_eq]
  generalize (lg_sl ([.long a1, .int a2]) ++ List.replicate (4 - (lg_sl ([.long a1, .int a2])).length) Slot.unset).toArray = ls at hl ⊢
  have hl : lv_has ls 4 [(0, .long a1), (2, .int a2)] := hl
  refine lv_bipush (v := 64) hx hb dX10_cut_0 (by decide) ?_
  refine lv_bipush (v := 8) hx hb dX10_cut_2 (by decide) ?_
  refine lv_iload_n hx hb dX10_cut_4 rfl (lv_at hl 1 rfl) ?_
  refine lv_ishl hx hb dX10_cut_5 ?_
  refine lv_topi (fun z_5 e_z_5 => ?_)
  refine lv_isub hx hb dX10_cut_6 ?_
  refine lv_topi (fun z_6 e_z_6 => ?_)
  refine lv_istore_n (lv' := [(3, .int z_6), (0, .long a1), (2, .int a2)]) hx hb dX10_cut_7 rfl hl (by decide) rfl (fun ls hl => ?_)
  refine lv_lload_n hx hb dX10_cut_8 rfl (lv_at hl 1 rfl) ?_
  refine lv_iload_n hx hb dX10_cut_9 rfl (lv_at hl 0 rfl) ?_
  obtain ⟨z_7, e_z_7⟩ : ∃ y : Int64, y = (a1 : Int64) <<< ((z_6 : Int32).toInt64 &&& 63) := ⟨_, rfl⟩
  refine lv_lshl (v := z_7) hx hb dX10_cut_10 e_z_7.symm ?_
  refine lv_iload_n hx hb dX10_cut_11 rfl (lv_at hl 0 rfl) ?_
  obtain ⟨z_8, e_z_8⟩ : ∃ y : Int64, y = (z_7 : Int64) >>> ((z_6 : Int32).toInt64 &&& 63) := ⟨_, rfl⟩
  refine lv_lshr (v := z_8) hx hb dX10_cut_12 e_z_8.symm ?_
  exact W.lret (v := z_8) hx hb hr (fun t ht hW => ⟨z_8, rfl, trivial, ht⟩) t_nil dX10_cut_13
theorem dX10_lucky_0 : decode cX10_lucky 0 = .ok (.aload_n 0, 1) := by decide +kernel
theorem dX10_lucky_1 : decode cX10_lucky 1 = .ok (.iload_n 1, 1) := by decide +kernel
theorem dX10_lucky_2 : decode cX10_lucky 2 = .ok (.iload_n 2, 1) := by decide +kernel
theorem dX10_lucky_3 : decode cX10_lucky 3 = .ok (.invokevirtual 313, 3) := by decide +kernel
theorem dX10_lucky_6 : decode cX10_lucky 6 = .ok (.ifCond .ne 8, 3) := by decide +kernel
theorem dX10_lucky_9 : decode cX10_lucky 9 = .ok (.bipush (-2), 2) := by decide +kernel
theorem dX10_lucky_11 : decode cX10_lucky 11 = .ok (.goto 17, 3) := by decide +kernel
theorem dX10_lucky_14 : decode cX10_lucky 14 = .ok (.aload_n 0, 1) := by decide +kernel
theorem dX10_lucky_15 : decode cX10_lucky 15 = .ok (.iload_n 1, 1) := by decide +kernel
theorem dX10_lucky_16 : decode cX10_lucky 16 = .ok (.iload_n 2, 1) := by decide +kernel
theorem dX10_lucky_17 : decode cX10_lucky 17 = .ok (.invokevirtual 316, 3) := by decide +kernel
theorem dX10_lucky_20 : decode cX10_lucky 20 = .ok (.ifCond .eq 7, 3) := by decide +kernel
theorem dX10_lucky_23 : decode cX10_lucky 23 = .ok (.iconst 1, 1) := by decide +kernel
theorem dX10_lucky_24 : decode cX10_lucky 24 = .ok (.goto 4, 3) := by decide +kernel
theorem dX10_lucky_27 : decode cX10_lucky 27 = .ok (.iconst 0, 1) := by decide +kernel
theorem dX10_lucky_28 : decode cX10_lucky 28 = .ok (.ireturn, 1) := by decide +kernel
def uX10_lucky : List Cond := .code yX10_lucky cX10_lucky 3 (some .int) :: ([.methodLink RX10 313 yX10_isBoth, .instanceMethod yX10_isBoth, .selects RX10 yX10_isBoth yX10_isBoth, .initialized RX10, .code yX10_isBoth cX10_isBoth 3 (some .boolean), .methodLink RX10 89 yX10_isLaw, .instanceMethod yX10_isLaw, .selects RX10 yX10_isLaw yX10_isLaw, .code yX10_isLaw cX10_isLaw 2 (some .boolean), .fieldLink RX10 9 "LuckyTicketModel" "world" "[I", .methodLink RX10 82 yX10_in, .static yX10_in, .code yX10_in cX10_in 6 (some .boolean), .methodLink RX10 93 yX10_isTicket, .instanceMethod yX10_isTicket, .selects RX10 yX10_isTicket yX10_isTicket, .code yX10_isTicket cX10_isTicket 3 (some .boolean), .methodLink RX10 316 yX10_isLucky, .instanceMethod yX10_isLucky, .selects RX10 yX10_isLucky yX10_isLucky, .code yX10_isLucky cX10_isLucky 3 (some .boolean), .fieldLink RX10 20 "LuckyTicketModel" "luck" "[I"] ++ wsX100)
theorem iX10_lucky_X10 : ∀ w ∈ wsX100, w ∈ uX10_lucky := fun _ h => List.mem_cons_of_mem _ (List.mem_append_right _ h)
set_option maxRecDepth 20000 in
theorem gX10_lucky__X10_isBoth_V313 : GoodIn uX10_lucky (wsV RX10 313 RX10 yX10_isBoth uX10_isBoth) := goodIn_p _ [5, 9, 13, 17] rfl (by decide +kernel)
set_option maxRecDepth 20000 in
theorem gX10_lucky__X10_isLucky_V316 : GoodIn uX10_lucky (wsV RX10 316 RX10 yX10_isLucky uX10_isLucky) := goodIn_p _ [21] rfl (by decide +kernel)
set_option maxHeartbeats 4000000 in
set_option maxRecDepth 100000 in
theorem kX10_lucky (l : Launch) (dC : Nat → ClassId) (dI : Nat → Nat → Nat) (o0 : Nat) (x_th : Int32) (mwo : Nat) (mim : Nat) (mhi : Nat) (mlu : Nat) (mtp : Nat) (x_td : Int32) (mfv : Nat) (x_sz : Int32) (x_at : Int32) (x_fr : Int32) (x_to : Int32) (x_va : Int32) (x_fk : Int32) (x_fp : Int32) (mfr : Nat) (mwt : Nat) (x_wt : Int32) (x_op : Int32) (x_jo : Int32) (mfg : Nat) (mpl : Nat) (x_dr : Int64) (mtm : Nat) (mfa : Nat) (mqu : Nat) (mmo : Nat) (mwy : Nat) (mwn : Nat) (mma : Nat) (mwi : Nat) (mnu : Nat) (mmv : Nat) (c_wo : ClassId) (c_lu : ClassId) (w_wo : Nat → Int32) (w_lu : Nat → Int32) (ln : Int32) (bs : Int32) (tk : Int32) (lw : Int32) (li : Int32) (a1 : Int32) (a2 : Int32) (b_ln : (0 : Int) ≤ ln.toInt ∧ ln.toInt ≤ 12) (b_bs : (0 : Int) ≤ bs.toInt ∧ bs.toInt ≤ 16) (b_tk : (0 : Int) ≤ tk.toInt ∧ tk.toInt ≤ 20000) (b_lw : (0 : Int) ≤ lw.toInt ∧ lw.toInt ≤ 9) (hw0 : w_wo 0 = ln) (hw1 : w_wo 1 = bs) (hw2 : w_wo 2 = tk) (hw3 : w_wo 3 = lw) (hw4 : w_wo 4 = li) (hwz : (ln.toInt = 0 ∧ bs.toInt = 0 ∧ tk.toInt = 0 ∧ lw.toInt = 0) ∨ (1 ≤ ln.toInt ∧ 2 ≤ bs.toInt ∧ 1 ≤ tk.toInt)) : Met l yX10_lucky uX10_lucky ({ frames := 3, cells := 0, slots := 0, locals := 69 }) (va_Pc [.ref o0, .int a1, .int a2] (pw (dC, dI) vwCl [(o0, .inr (8, [.int x_th, .ref mwo, .ref mim, .ref mhi, .ref mlu, .ref mtp, .int x_td, .ref mfv, .int x_sz, .int x_at, .int x_fr, .int x_to, .int x_va, .int x_fk, .int x_fp, .ref mfr, .ref mwt, .int x_wt, .int x_op, .int x_jo, .ref mfg, .ref mpl, .long x_dr, .ref mtm, .ref mfa, .ref mqu, .ref mmo, .ref mwy, .ref mwn, .ref mma, .ref mwi, .ref mnu, .ref mmv])), (mwo, .inl (c_wo, 1875, .inl w_wo)), (mlu, .inl (c_lu, 20000, .inl w_lu))] [(c_wo, .int), (c_lu, .int)])) (vp_Si (fun r => ((-2 : Int) ≤ r.toInt ∧ r.toInt ≤ 1))) 0 0 (fun _ => False) := by
  refine Met.ofW (cc := cX10_lucky) (maxL := 3) (ret := (some .int)) (by decide) rfl ?_
  intro p e s m args below meth c s₁ B hml hv
  obtain ⟨rfl, hP, hK, hN⟩ := hv
  have hx := B.exec
  have hb := B.bytes
  have hr := B.returns
  have hts := atoms_spec (ws := uX10_lucky) B.pre
  have hown : s.vm.findClass RX10 = some m.cls := findClass_of_methodNamed B.named
  have hlocks := B.notSynchronized
  have hl := lv_entry ([.ref o0, .int a1, .int a2]) (n := 3) (Nat.le_of_ble_eq_true rfl)
  rw [lg_entry_eq]
  generalize (lg_sl ([.ref o0, .int a1, .int a2]) ++ List.replicate (3 - (lg_sl ([.ref o0, .int a1, .int a2])).length) Slot.unset).toArray = ls at hl ⊢
  have hl : lv_has ls 3 [(0, .ref o0), (1, .int a1), (2, .int a2)] := hl
  refine lv_aload_n hx hb dX10_lucky_0 rfl (lv_at hl 0 rfl) ?_
  refine lv_iload_n hx hb dX10_lucky_1 rfl (lv_at hl 1 rfl) ?_
  refine lv_iload_n hx hb dX10_lucky_2 rfl (lv_at hl 2 rfl) ?_
  refine vp_callSi (W.runV (As := [.int a1, .int a2]) (rest := []) ⟨hx, hb, hml, hown, hts⟩ (kX10_isBoth l dC dI o0 x_th mwo mim mhi mlu mtp x_td mfv x_sz x_at x_fr x_to x_va x_fk x_fp mfr mwt x_wt x_op x_jo mfg mpl x_dr mtm mfa mqu mmo mwy mwn mma mwi mnu mmv c_wo w_wo ln bs tk lw li a1 a2 b_ln b_bs b_tk b_lw (hw0) (hw1) (hw2) (hw3) (hw4) (hwz)) (cwV 2 hts gX10_lucky__X10_isBoth_V313 rfl rfl rfl (by decide +kernel) ⟨lel 3 3 rfl, lel 69 69 rfl⟩) ⟨pw_fb, va_recv hK hP (ci := 8) (q0 := 0) rfl rfl, (pw_use hP hK hN [0, 1] rfl [0] rfl)⟩ rfl rfl hl.1 rfl (lv_room (Nat.le_of_ble_eq_true rfl)) dX10_lucky_3 ⟨lel 0 0 rfl, lel 0 0 rfl⟩) (fun r_6 h_r_6 => ?_)
  obtain ⟨b_r_6, nz_r_6⟩ := h_r_6
  have b_r_6 : (0 : Int) ≤ r_6.toInt ∧ r_6.toInt ≤ 1 := b_r_6
  refine lv_if_ne (tgt := 14) hx hb dX10_lucky_6 (by decide) (fun c_7 => ?_) (fun c_7 => ?_)
  ·
    have n_c_7 : (r_6.toInt : Int) ≠ 0 := c_ne rfl (by decide) c_7
    have b_r_6 : (1 : Int) ≤ r_6.toInt ∧ r_6.toInt ≤ 1 := r_ne1 b_r_6 (by decide : (0 : Int) ≤ (0 : Int32).toInt ∧ (0 : Int32).toInt ≤ 0) n_c_7 (by decide)
    obtain ⟨b_a1, b_a2, g_8⟩ := nz_r_6 c_7
    refine lv_aload_n hx hb dX10_lucky_14 rfl (lv_at hl 0 rfl) ?_
    refine lv_iload_n hx hb dX10_lucky_15 rfl (lv_at hl 1 rfl) ?_
    refine lv_iload_n hx hb dX10_lucky_16 rfl (lv_at hl 2 rfl) ?_
    refine vp_callSi (W.runV (As := [.int a1, .int a2]) (rest := []) ⟨hx, hb, hml, hown, hts⟩ (kX10_isLucky l dC dI o0 x_th mwo mim mhi mlu mtp x_td mfv x_sz x_at x_fr x_to x_va x_fk x_fp mfr mwt x_wt x_op x_jo mfg mpl x_dr mtm mfa mqu mmo mwy mwn mma mwi mnu mmv c_wo c_lu w_wo w_lu ln bs tk lw li a1 a2 b_ln b_bs b_tk b_lw b_a2 (hw0) (hw1) (hw2) (hw3) (hw4) (hwz)) (cwV 2 hts gX10_lucky__X10_isLucky_V316 rfl rfl rfl (by decide +kernel) ⟨lel 1 3 rfl, lel 22 69 rfl⟩) ⟨pw_fb, va_recv hK hP (ci := 8) (q0 := 0) rfl rfl, (pw_use hP hK hN [0, 1, 2] rfl [0, 1] rfl)⟩ rfl rfl hl.1 rfl (lv_room (Nat.le_of_ble_eq_true rfl)) dX10_lucky_17 ⟨lel 0 0 rfl, lel 0 0 rfl⟩) (fun r_9 h_r_9 => ?_)
    have b_r_9 := h_r_9
    have b_r_9 : (0 : Int) ≤ r_9.toInt ∧ r_9.toInt ≤ 1 := b_r_9
    refine lv_if_eq (tgt := 27) hx hb dX10_lucky_20 (by decide) (fun c_10 => ?_) (fun c_10 => ?_)
    ·
      have n_c_10 : (r_9.toInt : Int) = 0 := c_eq rfl (by decide) c_10
      have b_r_9 : (0 : Int) ≤ r_9.toInt ∧ r_9.toInt ≤ 0 := r_eq1 b_r_9 (by decide : (0 : Int) ≤ (0 : Int32).toInt ∧ (0 : Int32).toInt ≤ 0) n_c_10 (by decide)
      refine lv_iconst (v := 0) hx hb dX10_lucky_27 (by decide) ?_
      exact W.iret (v := 0) hx hb hr (fun t ht hW => ⟨0, rfl, (rg_w (by decide : (0 : Int) ≤ (0 : Int32).toInt ∧ (0 : Int32).toInt ≤ 0) (by decide) (by decide)), ht⟩) t_nil dX10_lucky_28
    ·
      have n_c_10 : (r_9.toInt : Int) ≠ 0 := c_ne rfl (by decide) c_10
      have b_r_9 : (1 : Int) ≤ r_9.toInt ∧ r_9.toInt ≤ 1 := r_ne1 b_r_9 (by decide : (0 : Int) ≤ (0 : Int32).toInt ∧ (0 : Int32).toInt ≤ 0) n_c_10 (by decide)
      refine lv_iconst (v := 1) hx hb dX10_lucky_23 (by decide) ?_
      refine lv_goto (tgt := 28) hx hb dX10_lucky_24 (by decide) ?_
      exact W.iret (v := 1) hx hb hr (fun t ht hW => ⟨1, rfl, (rg_w (by decide : (1 : Int) ≤ (1 : Int32).toInt ∧ (1 : Int32).toInt ≤ 1) (by decide) (by decide)), ht⟩) t_nil dX10_lucky_28
  ·
    have n_c_7 : (r_6.toInt : Int) = 0 := c_eq rfl (by decide) c_7
    have b_r_6 : (0 : Int) ≤ r_6.toInt ∧ r_6.toInt ≤ 0 := r_eq1 b_r_6 (by decide : (0 : Int) ≤ (0 : Int32).toInt ∧ (0 : Int32).toInt ≤ 0) n_c_7 (by decide)
    refine lv_bipush (v := (-2)) hx hb dX10_lucky_9 (by decide) ?_
    refine lv_goto (tgt := 28) hx hb dX10_lucky_11 (by decide) ?_
    exact W.iret (v := (-2)) hx hb hr (fun t ht hW => ⟨(-2), rfl, (rg_w (by decide : (-2 : Int) ≤ ((-2) : Int32).toInt ∧ ((-2) : Int32).toInt ≤ -2) (by decide) (by decide)), ht⟩) t_nil dX10_lucky_28
theorem dX10_laws_0 : decode cX10_laws 0 = .ok (.aload_n 0, 1) := by decide +kernel
theorem dX10_laws_1 : decode cX10_laws 1 = .ok (.iload_n 1, 1) := by decide +kernel
theorem dX10_laws_2 : decode cX10_laws 2 = .ok (.i2l, 1) := by decide +kernel
theorem dX10_laws_3 : decode cX10_laws 3 = .ok (.invokevirtual 93, 3) := by decide +kernel
theorem dX10_laws_6 : decode cX10_laws 6 = .ok (.ifCond .eq 12, 3) := by decide +kernel
theorem dX10_laws_9 : decode cX10_laws 9 = .ok (.aload_n 0, 1) := by decide +kernel
theorem dX10_laws_10 : decode cX10_laws 10 = .ok (.getfield 20, 3) := by decide +kernel
theorem dX10_laws_13 : decode cX10_laws 13 = .ok (.iload_n 1, 1) := by decide +kernel
theorem dX10_laws_14 : decode cX10_laws 14 = .ok (.iaload, 1) := by decide +kernel
theorem dX10_laws_15 : decode cX10_laws 15 = .ok (.goto 5, 3) := by decide +kernel
theorem dX10_laws_18 : decode cX10_laws 18 = .ok (.bipush (-2), 2) := by decide +kernel
theorem dX10_laws_20 : decode cX10_laws 20 = .ok (.ireturn, 1) := by decide +kernel
def uX10_laws : List Cond := .code yX10_laws cX10_laws 2 (some .int) :: ([.methodLink RX10 93 yX10_isTicket, .instanceMethod yX10_isTicket, .selects RX10 yX10_isTicket yX10_isTicket, .initialized RX10, .code yX10_isTicket cX10_isTicket 3 (some .boolean), .fieldLink RX10 9 "LuckyTicketModel" "world" "[I", .methodLink RX10 82 yX10_in, .static yX10_in, .code yX10_in cX10_in 6 (some .boolean), .fieldLink RX10 20 "LuckyTicketModel" "luck" "[I"] ++ wsX100)
theorem iX10_laws_X10 : ∀ w ∈ wsX100, w ∈ uX10_laws := fun _ h => List.mem_cons_of_mem _ (List.mem_append_right _ h)
set_option maxRecDepth 20000 in
theorem gX10_laws__X10_isTicket_V93 : GoodIn uX10_laws (wsV RX10 93 RX10 yX10_isTicket uX10_isTicket) := goodIn_p _ [5, 9] rfl (by decide +kernel)
set_option maxHeartbeats 4000000 in
set_option maxRecDepth 100000 in
theorem kX10_laws (l : Launch) (dC : Nat → ClassId) (dI : Nat → Nat → Nat) (o0 : Nat) (x_th : Int32) (mwo : Nat) (mim : Nat) (mhi : Nat) (mlu : Nat) (mtp : Nat) (x_td : Int32) (mfv : Nat) (x_sz : Int32) (x_at : Int32) (x_fr : Int32) (x_to : Int32) (x_va : Int32) (x_fk : Int32) (x_fp : Int32) (mfr : Nat) (mwt : Nat) (x_wt : Int32) (x_op : Int32) (x_jo : Int32) (mfg : Nat) (mpl : Nat) (x_dr : Int64) (mtm : Nat) (mfa : Nat) (mqu : Nat) (mmo : Nat) (mwy : Nat) (mwn : Nat) (mma : Nat) (mwi : Nat) (mnu : Nat) (mmv : Nat) (c_wo : ClassId) (c_lu : ClassId) (w_wo : Nat → Int32) (w_lu : Nat → Int32) (ln : Int32) (bs : Int32) (tk : Int32) (lw : Int32) (li : Int32) (a1 : Int32) (b_ln : (0 : Int) ≤ ln.toInt ∧ ln.toInt ≤ 12) (b_bs : (0 : Int) ≤ bs.toInt ∧ bs.toInt ≤ 16) (b_tk : (0 : Int) ≤ tk.toInt ∧ tk.toInt ≤ 20000) (b_lw : (0 : Int) ≤ lw.toInt ∧ lw.toInt ≤ 9) (hw0 : w_wo 0 = ln) (hw1 : w_wo 1 = bs) (hw2 : w_wo 2 = tk) (hw3 : w_wo 3 = lw) (hw4 : w_wo 4 = li) (hwz : (ln.toInt = 0 ∧ bs.toInt = 0 ∧ tk.toInt = 0 ∧ lw.toInt = 0) ∨ (1 ≤ ln.toInt ∧ 2 ≤ bs.toInt ∧ 1 ≤ tk.toInt)) : Met l yX10_laws uX10_laws ({ frames := 2, cells := 0, slots := 0, locals := 47 }) (va_Pc [.ref o0, .int a1] (pw (dC, dI) vwCl [(o0, .inr (8, [.int x_th, .ref mwo, .ref mim, .ref mhi, .ref mlu, .ref mtp, .int x_td, .ref mfv, .int x_sz, .int x_at, .int x_fr, .int x_to, .int x_va, .int x_fk, .int x_fp, .ref mfr, .ref mwt, .int x_wt, .int x_op, .int x_jo, .ref mfg, .ref mpl, .long x_dr, .ref mtm, .ref mfa, .ref mqu, .ref mmo, .ref mwy, .ref mwn, .ref mma, .ref mwi, .ref mnu, .ref mmv])), (mwo, .inl (c_wo, 1875, .inl w_wo)), (mlu, .inl (c_lu, 20000, .inl w_lu))] [(c_wo, .int), (c_lu, .int)])) (vp_Si (fun r => True)) 0 0 (fun _ => False) := by
  refine Met.ofW (cc := cX10_laws) (maxL := 2) (ret := (some .int)) (by decide) rfl ?_
  intro p e s m args below meth c s₁ B hml hv
  obtain ⟨rfl, hP, hK, hN⟩ := hv
  have hx := B.exec
  have hb := B.bytes
  have hr := B.returns
  have hts := atoms_spec (ws := uX10_laws) B.pre
  have hown : s.vm.findClass RX10 = some m.cls := findClass_of_methodNamed B.named
  have hlocks := B.notSynchronized
  have hl := lv_entry ([.ref o0, .int a1]) (n := 2) (Nat.le_of_ble_eq_true rfl)
  rw [lg_entry_eq]
  generalize (lg_sl ([.ref o0, .int a1]) ++ List.replicate (2 - (lg_sl ([.ref o0, .int a1])).length) Slot.unset).toArray = ls at hl ⊢
  have hl : lv_has ls 2 [(0, .ref o0), (1, .int a1)] := hl
  refine lv_aload_n hx hb dX10_laws_0 rfl (lv_at hl 0 rfl) ?_
  refine lv_iload_n hx hb dX10_laws_1 rfl (lv_at hl 1 rfl) ?_
  obtain ⟨z_6, e_z_6⟩ : ∃ y : Int64, y = a1.toInt64 := ⟨_, rfl⟩
  refine lv_i2l (v := z_6) hx hb dX10_laws_2 e_z_6.symm ?_
  obtain ⟨q_z_6, b_z_6⟩ := ti_i2l e_z_6 (ti_rng a1)
  refine vp_callSi (W.runV (As := [.long z_6]) (rest := []) ⟨hx, hb, hml, hown, hts⟩ (kX10_isTicket l dC dI o0 x_th mwo mim mhi mlu mtp x_td mfv x_sz x_at x_fr x_to x_va x_fk x_fp mfr mwt x_wt x_op x_jo mfg mpl x_dr mtm mfa mqu mmo mwy mwn mma mwi mnu mmv c_wo w_wo ln bs tk lw li z_6 b_ln b_bs b_tk b_lw (hw0) (hw1) (hw2) (hw3) (hw4) (hwz)) (cwV 1 hts gX10_laws__X10_isTicket_V93 rfl rfl rfl (by decide +kernel) ⟨lel 2 2 rfl, lel 47 47 rfl⟩) ⟨pw_fb, va_recv hK hP (ci := 8) (q0 := 0) rfl rfl, (pw_use hP hK hN [0, 1] rfl [0] rfl)⟩ rfl rfl hl.1 rfl (lv_room (Nat.le_of_ble_eq_true rfl)) dX10_laws_3 ⟨lel 0 0 rfl, lel 0 0 rfl⟩) (fun r_7 h_r_7 => ?_)
  obtain ⟨b_r_7, nz_r_7⟩ := h_r_7
  have b_r_7 : (0 : Int) ≤ r_7.toInt ∧ r_7.toInt ≤ 1 := b_r_7
  refine lv_if_eq (tgt := 18) hx hb dX10_laws_6 (by decide) (fun c_8 => ?_) (fun c_8 => ?_)
  ·
    have n_c_8 : (r_7.toInt : Int) = 0 := c_eq rfl (by decide) c_8
    have b_r_7 : (0 : Int) ≤ r_7.toInt ∧ r_7.toInt ≤ 0 := r_eq1 b_r_7 (by decide : (0 : Int) ≤ (0 : Int32).toInt ∧ (0 : Int32).toInt ≤ 0) n_c_8 (by decide)
    refine lv_bipush (v := (-2)) hx hb dX10_laws_18 (by decide) ?_
    exact W.iret (v := (-2)) hx hb hr (fun t ht hW => ⟨(-2), rfl, trivial, ht⟩) t_nil dX10_laws_20
  ·
    have n_c_8 : (r_7.toInt : Int) ≠ 0 := c_ne rfl (by decide) c_8
    have b_r_7 : (1 : Int) ≤ r_7.toInt ∧ r_7.toInt ≤ 1 := r_ne1 b_r_7 (by decide : (0 : Int) ≤ (0 : Int32).toInt ∧ (0 : Int32).toInt ≤ 0) n_c_8 (by decide)
    obtain ⟨b_z_6, g_9⟩ := nz_r_7 c_8
    have b_a1 : (0 : Int) ≤ a1.toInt ∧ a1.toInt ≤ 19999 := by
      have q0 := b_z_6; have q1 := q_z_6; have q2 := (ti_rng a1); omega
    refine lv_aload_n hx hb dX10_laws_9 rfl (lv_at hl 0 rfl) ?_
    refine va_get (D := (dC, dI)) (ci := 8) (v := .ref mlu) (C := RX10) (T := TX10) (N := 33) hx hb hts iX10_laws_X10 hown hK hP 0 rfl rfl 4 (by decide) (hts (.fieldLink RX10 20 "LuckyTicketModel" "luck" "[I") (List.mem_of_getElem? (i := 10) rfl)) (fun _ h9 => h9) rfl dX10_laws_10 ?_
    refine lv_iload_n hx hb dX10_laws_13 rfl (lv_at hl 1 rfl) ?_
    refine va_iald hx hb hK hP 2 1 rfl rfl (vp_in_b b_a1 (by decide) (by decide)) dX10_laws_14 ?_
    refine lv_topi (fun z_10 e_z_10 => ?_)
    refine lv_goto (tgt := 20) hx hb dX10_laws_15 (by decide) ?_
    exact W.iret (v := z_10) hx hb hr (fun t ht hW => ⟨z_10, rfl, trivial, ht⟩) t_nil dX10_laws_20
theorem dX10_rankOf_0 : decode cX10_rankOf 0 = .ok (.iconst 0, 1) := by decide +kernel
theorem dX10_rankOf_1 : decode cX10_rankOf 1 = .ok (.istore_n 3, 1) := by decide +kernel
theorem dX10_rankOf_2 : decode cX10_rankOf 2 = .ok (.iconst 0, 1) := by decide +kernel
theorem dX10_rankOf_3 : decode cX10_rankOf 3 = .ok (.istore 4, 2) := by decide +kernel
theorem dX10_rankOf_5 : decode cX10_rankOf 5 = .ok (.iload 4, 2) := by decide +kernel
theorem dX10_rankOf_7 : decode cX10_rankOf 7 = .ok (.iload_n 2, 1) := by decide +kernel
theorem dX10_rankOf_8 : decode cX10_rankOf 8 = .ok (.if_icmp .ge 23, 3) := by decide +kernel
theorem dX10_rankOf_11 : decode cX10_rankOf 11 = .ok (.iload_n 3, 1) := by decide +kernel
theorem dX10_rankOf_12 : decode cX10_rankOf 12 = .ok (.aload_n 0, 1) := by decide +kernel
theorem dX10_rankOf_13 : decode cX10_rankOf 13 = .ok (.getfield 20, 3) := by decide +kernel
theorem dX10_rankOf_16 : decode cX10_rankOf 16 = .ok (.iload 4, 2) := by decide +kernel
theorem dX10_rankOf_18 : decode cX10_rankOf 18 = .ok (.iaload, 1) := by decide +kernel
theorem dX10_rankOf_19 : decode cX10_rankOf 19 = .ok (.iload_n 1, 1) := by decide +kernel
theorem dX10_rankOf_20 : decode cX10_rankOf 20 = .ok (.ishr, 1) := by decide +kernel
theorem dX10_rankOf_21 : decode cX10_rankOf 21 = .ok (.iconst 1, 1) := by decide +kernel
theorem dX10_rankOf_22 : decode cX10_rankOf 22 = .ok (.iand, 1) := by decide +kernel
theorem dX10_rankOf_23 : decode cX10_rankOf 23 = .ok (.iadd, 1) := by decide +kernel
theorem dX10_rankOf_24 : decode cX10_rankOf 24 = .ok (.istore_n 3, 1) := by decide +kernel
theorem dX10_rankOf_25 : decode cX10_rankOf 25 = .ok (.iinc 4 1, 3) := by decide +kernel
theorem dX10_rankOf_28 : decode cX10_rankOf 28 = .ok (.goto (-23), 3) := by decide +kernel
theorem dX10_rankOf_31 : decode cX10_rankOf 31 = .ok (.iload_n 3, 1) := by decide +kernel
theorem dX10_rankOf_32 : decode cX10_rankOf 32 = .ok (.ireturn, 1) := by decide +kernel
def uX10_rankOf : List Cond := .code yX10_rankOf cX10_rankOf 5 (some .int) :: ([.fieldLink RX10 20 "LuckyTicketModel" "luck" "[I"] ++ wsX100)
theorem iX10_rankOf_X10 : ∀ w ∈ wsX100, w ∈ uX10_rankOf := fun _ h => List.mem_cons_of_mem _ (List.mem_append_right _ h)
set_option maxHeartbeats 4000000 in
set_option maxRecDepth 100000 in
theorem kX10_rankOf (l : Launch) (dC : Nat → ClassId) (dI : Nat → Nat → Nat) (o0 : Nat) (x_th : Int32) (mwo : Nat) (mim : Nat) (mhi : Nat) (mlu : Nat) (mtp : Nat) (x_td : Int32) (mfv : Nat) (x_sz : Int32) (x_at : Int32) (x_fr : Int32) (x_to : Int32) (x_va : Int32) (x_fk : Int32) (x_fp : Int32) (mfr : Nat) (mwt : Nat) (x_wt : Int32) (x_op : Int32) (x_jo : Int32) (mfg : Nat) (mpl : Nat) (x_dr : Int64) (mtm : Nat) (mfa : Nat) (mqu : Nat) (mmo : Nat) (mwy : Nat) (mwn : Nat) (mma : Nat) (mwi : Nat) (mnu : Nat) (mmv : Nat) (c_wo : ClassId) (c_lu : ClassId) (w_wo : Nat → Int32) (w_lu : Nat → Int32) (ln : Int32) (bs : Int32) (tk : Int32) (lw : Int32) (li : Int32) (a1 : Int32) (a2 : Int32) (b_ln : (0 : Int) ≤ ln.toInt ∧ ln.toInt ≤ 12) (b_bs : (0 : Int) ≤ bs.toInt ∧ bs.toInt ≤ 16) (b_tk : (0 : Int) ≤ tk.toInt ∧ tk.toInt ≤ 20000) (b_lw : (0 : Int) ≤ lw.toInt ∧ lw.toInt ≤ 9) (b_a2 : (0 : Int) ≤ a2.toInt ∧ a2.toInt ≤ 20000) (hw0 : w_wo 0 = ln) (hw1 : w_wo 1 = bs) (hw2 : w_wo 2 = tk) (hw3 : w_wo 3 = lw) (hw4 : w_wo 4 = li) (hwz : (ln.toInt = 0 ∧ bs.toInt = 0 ∧ tk.toInt = 0 ∧ lw.toInt = 0) ∨ (1 ≤ ln.toInt ∧ 2 ≤ bs.toInt ∧ 1 ≤ tk.toInt)) : Met l yX10_rankOf uX10_rankOf ({ frames := 0, cells := 0, slots := 0, locals := 0 }) (va_Pc [.ref o0, .int a1, .int a2] (pw (dC, dI) vwCl [(o0, .inr (8, [.int x_th, .ref mwo, .ref mim, .ref mhi, .ref mlu, .ref mtp, .int x_td, .ref mfv, .int x_sz, .int x_at, .int x_fr, .int x_to, .int x_va, .int x_fk, .int x_fp, .ref mfr, .ref mwt, .int x_wt, .int x_op, .int x_jo, .ref mfg, .ref mpl, .long x_dr, .ref mtm, .ref mfa, .ref mqu, .ref mmo, .ref mwy, .ref mwn, .ref mma, .ref mwi, .ref mnu, .ref mmv])), (mwo, .inl (c_wo, 1875, .inl w_wo)), (mlu, .inl (c_lu, 20000, .inl w_lu))] [(c_wo, .int), (c_lu, .int)])) (vp_Si (fun r => ((0 : Int) ≤ r.toInt ∧ r.toInt ≤ 20000) ∧ (r.toInt ≤ a2.toInt))) 0 0 (fun _ => False) := by
  refine Met.ofW (cc := cX10_rankOf) (maxL := 5) (ret := (some .int)) (by decide) rfl ?_
  intro p e s m args below meth c s₁ B hml hv
  obtain ⟨rfl, hP, hK, hN⟩ := hv
  have hx := B.exec
  have hb := B.bytes
  have hr := B.returns
  have hts := atoms_spec (ws := uX10_rankOf) B.pre
  have hown : s.vm.findClass RX10 = some m.cls := findClass_of_methodNamed B.named
  have hlocks := B.notSynchronized
  have hl := lv_entry ([.ref o0, .int a1, .int a2]) (n := 5) (Nat.le_of_ble_eq_true rfl)
  rw [lg_entry_eq]
  generalize (lg_sl ([.ref o0, .int a1, .int a2]) ++ List.replicate (5 - (lg_sl ([.ref o0, .int a1, .int a2])).length) Slot.unset).toArray = ls at hl ⊢
  have hl : lv_has ls 5 [(0, .ref o0), (1, .int a1), (2, .int a2)] := hl
  refine lv_iconst (v := 0) hx hb dX10_rankOf_0 (by decide) ?_
  refine lv_istore_n (lv' := [(3, .int 0), (0, .ref o0), (1, .int a1), (2, .int a2)]) hx hb dX10_rankOf_1 rfl hl (by decide) rfl (fun ls hl => ?_)
  refine lv_iconst (v := 0) hx hb dX10_rankOf_2 (by decide) ?_
  refine lv_istore (lv' := [(4, .int 0), (3, .int 0), (0, .ref o0), (1, .int a1), (2, .int a2)]) hx hb dX10_rankOf_3 hl (by decide) rfl (fun ls hl => ?_)
  refine loopP (σ := Int32 × Int32) (fun v => (20000 - v.1.toInt).toNat) (fun v ls => ((0 : Int) ≤ v.1.toInt ∧ v.1.toInt ≤ 20000) ∧ ((0 : Int) ≤ v.2.toInt ∧ v.2.toInt ≤ 20000) ∧ (0 ≤ v.2.toInt ∧ v.2.toInt ≤ v.1.toInt ∧ v.1.toInt ≤ a2.toInt) ∧ lv_has ls 5 [(4, .int v.1), (3, .int v.2), (0, .ref o0), (1, .int a1), (2, .int a2)]) (fun v ls hI ih_5_154 => ?_) ((0 : Int32), (0 : Int32)) ⟨(show (0 : Int) ≤ (0 : Int32).toInt ∧ (0 : Int32).toInt ≤ 20000 from (rg_w (by decide : (0 : Int) ≤ (0 : Int32).toInt ∧ (0 : Int32).toInt ≤ 0) (by decide) (by decide))), (show (0 : Int) ≤ (0 : Int32).toInt ∧ (0 : Int32).toInt ≤ 20000 from (rg_w (by decide : (0 : Int) ≤ (0 : Int32).toInt ∧ (0 : Int32).toInt ≤ 0) (by decide) (by decide))), (show 0 ≤ (0 : Int32).toInt ∧ (0 : Int32).toInt ≤ (0 : Int32).toInt ∧ (0 : Int32).toInt ≤ a2.toInt from (by omega)), lv_sub hl [0, 1, 2, 3, 4] rfl⟩
  obtain ⟨y_87, y_88⟩ := v
  obtain ⟨b_y_87, b_y_88, hn, hl⟩ := hI
  have b_y_87 : (0 : Int) ≤ y_87.toInt ∧ y_87.toInt ≤ 20000 := b_y_87
  have b_y_88 : (0 : Int) ≤ y_88.toInt ∧ y_88.toInt ≤ 20000 := b_y_88
  have hn : 0 ≤ y_88.toInt ∧ y_88.toInt ≤ y_87.toInt ∧ y_87.toInt ≤ a2.toInt := hn
  have hl : lv_has ls 5 [(4, .int y_87), (3, .int y_88), (0, .ref o0), (1, .int a1), (2, .int a2)] := hl
  refine lv_iload hx hb dX10_rankOf_5 (lv_at hl 0 rfl) ?_
  refine lv_iload_n hx hb dX10_rankOf_7 rfl (lv_at hl 4 rfl) ?_
  refine lv_icmp_ge (tgt := 31) hx hb dX10_rankOf_8 (by decide) (fun c_155 => ?_) (fun c_155 => ?_)
  ·
    have n_c_155 : (a2.toInt : Int) ≤ y_87.toInt := c_ge rfl rfl c_155
    refine lv_iload_n hx hb dX10_rankOf_31 rfl (lv_at hl 1 rfl) ?_
    exact W.iret (v := y_88) hx hb hr (fun t ht hW => ⟨y_88, rfl, ⟨b_y_88, (by omega)⟩, ht⟩) t_nil dX10_rankOf_32
  ·
    have n_c_155 : (y_87.toInt : Int) < a2.toInt := c_nge rfl rfl c_155
    have b_y_87 : (0 : Int) ≤ y_87.toInt ∧ y_87.toInt ≤ 19999 := r_lt1 b_y_87 b_a2 n_c_155 (by decide)
    have b_a2 : (1 : Int) ≤ a2.toInt ∧ a2.toInt ≤ 20000 := r_lt2 b_y_87 b_a2 n_c_155 (by decide)
    refine lv_iload_n hx hb dX10_rankOf_11 rfl (lv_at hl 1 rfl) ?_
    refine lv_aload_n hx hb dX10_rankOf_12 rfl (lv_at hl 2 rfl) ?_
    refine va_get (D := (dC, dI)) (ci := 8) (v := .ref mlu) (C := RX10) (T := TX10) (N := 33) hx hb hts iX10_rankOf_X10 hown hK hP 0 rfl rfl 4 (by decide) (hts (.fieldLink RX10 20 "LuckyTicketModel" "luck" "[I") (List.mem_of_getElem? (i := 1) rfl)) (fun _ h9 => h9) rfl dX10_rankOf_13 ?_
    refine lv_iload hx hb dX10_rankOf_16 (lv_at hl 0 rfl) ?_
    refine va_iald hx hb hK hP 2 1 rfl rfl (vp_in_b b_y_87 (by decide) (by decide)) dX10_rankOf_18 ?_
    refine lv_topi (fun z_156 e_z_156 => ?_)
    refine lv_iload_n hx hb dX10_rankOf_19 rfl (lv_at hl 3 rfl) ?_
    refine lv_ishr hx hb dX10_rankOf_20 ?_
    refine lv_topi (fun z_157 e_z_157 => ?_)
    refine lv_iconst (v := 1) hx hb dX10_rankOf_21 (by decide) ?_
    refine lv_iand hx hb dX10_rankOf_22 ?_
    refine lv_topi (fun z_158 e_z_158 => ?_)
    have b_z_158 : (0 : Int) ≤ z_158.toInt ∧ z_158.toInt ≤ 1 := ti_and (k := 1) e_z_158 (by decide) (by decide) (by decide)
    refine lv_iadd hx hb dX10_rankOf_23 ?_
    refine lv_topi (fun z_159 e_z_159 => ?_)
    obtain ⟨q_z_159, b_z_159⟩ := ti_add (lo := 0) (hi := 20001) e_z_159 rfl rfl b_y_88 b_z_158 (by decide)
    refine lv_istore_n (lv' := [(3, .int z_159), (4, .int y_87), (0, .ref o0), (1, .int a1), (2, .int a2)]) hx hb dX10_rankOf_24 rfl hl (by decide) rfl (fun ls hl => ?_)
    obtain ⟨z_160, e_z_160⟩ : ∃ y : Int32, y = y_87 + 1 := ⟨_, rfl⟩
    refine lv_iinc (v := z_160) (lv' := [(4, .int z_160), (3, .int z_159), (0, .ref o0), (1, .int a1), (2, .int a2)]) hx hb dX10_rankOf_25 hl (k := 1) rfl (by rw [e_z_160]; rfl) (by decide) rfl (fun ls hl => ?_)
    obtain ⟨q_z_160, b_z_160⟩ := ti_add (lo := 1) (hi := 20000) e_z_160 rfl (by decide : (1 : Int32).toInt = 1) b_y_87 (by decide : (1 : Int) ≤ (1 : Int32).toInt ∧ (1 : Int32).toInt ≤ 1) (by decide)
    refine lv_goto (tgt := 5) hx hb dX10_rankOf_28 (by decide) ?_
    exact ih_5_154 (z_160, z_159) _ ⟨(show (0 : Int) ≤ z_160.toInt ∧ z_160.toInt ≤ 20000 from (rg_w b_z_160 (by decide) (by decide))), (show (0 : Int) ≤ z_159.toInt ∧ z_159.toInt ≤ 20000 from ⟨by omega, by omega⟩), (show 0 ≤ z_159.toInt ∧ z_159.toInt ≤ z_160.toInt ∧ z_160.toInt ≤ a2.toInt from (by omega)), lv_sub hl [0, 1, 2, 3, 4] rfl⟩ (show (20000 - z_160.toInt).toNat < (20000 - y_87.toInt).toNat by omega)
theorem dX10_allOf_0 : decode cX10_allOf 0 = .ok (.aload_n 0, 1) := by decide +kernel
theorem dX10_allOf_1 : decode cX10_allOf 1 = .ok (.iload_n 1, 1) := by decide +kernel
theorem dX10_allOf_2 : decode cX10_allOf 2 = .ok (.aload_n 0, 1) := by decide +kernel
theorem dX10_allOf_3 : decode cX10_allOf 3 = .ok (.getfield 9, 3) := by decide +kernel
theorem dX10_allOf_6 : decode cX10_allOf 6 = .ok (.iconst 2, 1) := by decide +kernel
theorem dX10_allOf_7 : decode cX10_allOf 7 = .ok (.iaload, 1) := by decide +kernel
theorem dX10_allOf_8 : decode cX10_allOf 8 = .ok (.invokevirtual 319, 3) := by decide +kernel
theorem dX10_allOf_11 : decode cX10_allOf 11 = .ok (.ireturn, 1) := by decide +kernel
def uX10_allOf : List Cond := .code yX10_allOf cX10_allOf 2 (some .int) :: ([.fieldLink RX10 9 "LuckyTicketModel" "world" "[I", .methodLink RX10 319 yX10_rankOf, .instanceMethod yX10_rankOf, .selects RX10 yX10_rankOf yX10_rankOf, .initialized RX10, .code yX10_rankOf cX10_rankOf 5 (some .int), .fieldLink RX10 20 "LuckyTicketModel" "luck" "[I"] ++ wsX100)
theorem iX10_allOf_X10 : ∀ w ∈ wsX100, w ∈ uX10_allOf := fun _ h => List.mem_cons_of_mem _ (List.mem_append_right _ h)
set_option maxRecDepth 20000 in
theorem gX10_allOf__X10_rankOf_V319 : GoodIn uX10_allOf (wsV RX10 319 RX10 yX10_rankOf uX10_rankOf) := goodIn_p _ [6] rfl (by decide +kernel)
set_option maxHeartbeats 4000000 in
set_option maxRecDepth 100000 in
theorem kX10_allOf (l : Launch) (dC : Nat → ClassId) (dI : Nat → Nat → Nat) (o0 : Nat) (x_th : Int32) (mwo : Nat) (mim : Nat) (mhi : Nat) (mlu : Nat) (mtp : Nat) (x_td : Int32) (mfv : Nat) (x_sz : Int32) (x_at : Int32) (x_fr : Int32) (x_to : Int32) (x_va : Int32) (x_fk : Int32) (x_fp : Int32) (mfr : Nat) (mwt : Nat) (x_wt : Int32) (x_op : Int32) (x_jo : Int32) (mfg : Nat) (mpl : Nat) (x_dr : Int64) (mtm : Nat) (mfa : Nat) (mqu : Nat) (mmo : Nat) (mwy : Nat) (mwn : Nat) (mma : Nat) (mwi : Nat) (mnu : Nat) (mmv : Nat) (c_wo : ClassId) (c_lu : ClassId) (w_wo : Nat → Int32) (w_lu : Nat → Int32) (ln : Int32) (bs : Int32) (tk : Int32) (lw : Int32) (li : Int32) (a1 : Int32) (b_ln : (0 : Int) ≤ ln.toInt ∧ ln.toInt ≤ 12) (b_bs : (0 : Int) ≤ bs.toInt ∧ bs.toInt ≤ 16) (b_tk : (0 : Int) ≤ tk.toInt ∧ tk.toInt ≤ 20000) (b_lw : (0 : Int) ≤ lw.toInt ∧ lw.toInt ≤ 9) (hw0 : w_wo 0 = ln) (hw1 : w_wo 1 = bs) (hw2 : w_wo 2 = tk) (hw3 : w_wo 3 = lw) (hw4 : w_wo 4 = li) (hwz : (ln.toInt = 0 ∧ bs.toInt = 0 ∧ tk.toInt = 0 ∧ lw.toInt = 0) ∨ (1 ≤ ln.toInt ∧ 2 ≤ bs.toInt ∧ 1 ≤ tk.toInt)) : Met l yX10_allOf uX10_allOf ({ frames := 1, cells := 0, slots := 0, locals := 24 }) (va_Pc [.ref o0, .int a1] (pw (dC, dI) vwCl [(o0, .inr (8, [.int x_th, .ref mwo, .ref mim, .ref mhi, .ref mlu, .ref mtp, .int x_td, .ref mfv, .int x_sz, .int x_at, .int x_fr, .int x_to, .int x_va, .int x_fk, .int x_fp, .ref mfr, .ref mwt, .int x_wt, .int x_op, .int x_jo, .ref mfg, .ref mpl, .long x_dr, .ref mtm, .ref mfa, .ref mqu, .ref mmo, .ref mwy, .ref mwn, .ref mma, .ref mwi, .ref mnu, .ref mmv])), (mwo, .inl (c_wo, 1875, .inl w_wo)), (mlu, .inl (c_lu, 20000, .inl w_lu))] [(c_wo, .int), (c_lu, .int)])) (vp_Si (fun r => ((0 : Int) ≤ r.toInt ∧ r.toInt ≤ 20000) ∧ (r.toInt ≤ tk.toInt))) 0 0 (fun _ => False) := by
  refine Met.ofW (cc := cX10_allOf) (maxL := 2) (ret := (some .int)) (by decide) rfl ?_
  intro p e s m args below meth c s₁ B hml hv
  obtain ⟨rfl, hP, hK, hN⟩ := hv
  have hx := B.exec
  have hb := B.bytes
  have hr := B.returns
  have hts := atoms_spec (ws := uX10_allOf) B.pre
  have hown : s.vm.findClass RX10 = some m.cls := findClass_of_methodNamed B.named
  have hlocks := B.notSynchronized
  have hl := lv_entry ([.ref o0, .int a1]) (n := 2) (Nat.le_of_ble_eq_true rfl)
  rw [lg_entry_eq]
  generalize (lg_sl ([.ref o0, .int a1]) ++ List.replicate (2 - (lg_sl ([.ref o0, .int a1])).length) Slot.unset).toArray = ls at hl ⊢
  have hl : lv_has ls 2 [(0, .ref o0), (1, .int a1)] := hl
  refine lv_aload_n hx hb dX10_allOf_0 rfl (lv_at hl 0 rfl) ?_
  refine lv_iload_n hx hb dX10_allOf_1 rfl (lv_at hl 1 rfl) ?_
  refine lv_aload_n hx hb dX10_allOf_2 rfl (lv_at hl 0 rfl) ?_
  refine va_get (D := (dC, dI)) (ci := 8) (v := .ref mwo) (C := RX10) (T := TX10) (N := 33) hx hb hts iX10_allOf_X10 hown hK hP 0 rfl rfl 1 (by decide) (hts (.fieldLink RX10 9 "LuckyTicketModel" "world" "[I") (List.mem_of_getElem? (i := 1) rfl)) (fun _ h9 => h9) rfl dX10_allOf_3 ?_
  refine lv_iconst (v := 2) hx hb dX10_allOf_6 (by decide) ?_
  refine va_iald hx hb hK hP 1 0 rfl rfl (vp_in_b (by decide : (2 : Int) ≤ (2 : Int32).toInt ∧ (2 : Int32).toInt ≤ 2) (by decide) (by decide)) dX10_allOf_7 ?_
  refine lv_topi (fun z_3 e_z_3 => ?_)
  obtain rfl : z_3 = tk := e_z_3.trans hw2
  refine vp_callSi (W.runV (As := [.int a1, .int tk]) (rest := []) ⟨hx, hb, hml, hown, hts⟩ (kX10_rankOf l dC dI o0 x_th mwo mim mhi mlu mtp x_td mfv x_sz x_at x_fr x_to x_va x_fk x_fp mfr mwt x_wt x_op x_jo mfg mpl x_dr mtm mfa mqu mmo mwy mwn mma mwi mnu mmv c_wo c_lu w_wo w_lu ln bs tk lw li a1 tk b_ln b_bs b_tk b_lw b_tk (hw0) (hw1) (hw2) (hw3) (hw4) (hwz)) (cwV 2 hts gX10_allOf__X10_rankOf_V319 rfl rfl rfl (by decide +kernel) ⟨lel 1 1 rfl, lel 24 24 rfl⟩) ⟨pw_fb, va_recv hK hP (ci := 8) (q0 := 0) rfl rfl, (pw_use hP hK hN [0, 1, 2] rfl [0, 1] rfl)⟩ rfl rfl hl.1 rfl (lv_room (Nat.le_of_ble_eq_true rfl)) dX10_allOf_8 ⟨lel 0 0 rfl, lel 0 0 rfl⟩) (fun r_4 h_r_4 => ?_)
  obtain ⟨b_r_4, pr_r_4⟩ := h_r_4
  have b_r_4 : (0 : Int) ≤ r_4.toInt ∧ r_4.toInt ≤ 20000 := b_r_4
  exact W.iret (v := r_4) hx hb hr (fun t ht hW => ⟨r_4, rfl, ⟨b_r_4, (by omega)⟩, ht⟩) t_nil dX10_allOf_11
theorem dX10_many_0 : decode cX10_many 0 = .ok (.aload_n 0, 1) := by decide +kernel
theorem dX10_many_1 : decode cX10_many 1 = .ok (.iload_n 1, 1) := by decide +kernel
theorem dX10_many_2 : decode cX10_many 2 = .ok (.invokevirtual 89, 3) := by decide +kernel
theorem dX10_many_5 : decode cX10_many 5 = .ok (.ifCond .eq 11, 3) := by decide +kernel
theorem dX10_many_8 : decode cX10_many 8 = .ok (.aload_n 0, 1) := by decide +kernel
theorem dX10_many_9 : decode cX10_many 9 = .ok (.iload_n 1, 1) := by decide +kernel
theorem dX10_many_10 : decode cX10_many 10 = .ok (.invokevirtual 322, 3) := by decide +kernel
theorem dX10_many_13 : decode cX10_many 13 = .ok (.goto 5, 3) := by decide +kernel
theorem dX10_many_16 : decode cX10_many 16 = .ok (.bipush (-2), 2) := by decide +kernel
theorem dX10_many_18 : decode cX10_many 18 = .ok (.ireturn, 1) := by decide +kernel
def uX10_many : List Cond := .code yX10_many cX10_many 2 (some .int) :: ([.methodLink RX10 89 yX10_isLaw, .instanceMethod yX10_isLaw, .selects RX10 yX10_isLaw yX10_isLaw, .initialized RX10, .code yX10_isLaw cX10_isLaw 2 (some .boolean), .fieldLink RX10 9 "LuckyTicketModel" "world" "[I", .methodLink RX10 82 yX10_in, .static yX10_in, .code yX10_in cX10_in 6 (some .boolean), .methodLink RX10 322 yX10_allOf, .instanceMethod yX10_allOf, .selects RX10 yX10_allOf yX10_allOf, .code yX10_allOf cX10_allOf 2 (some .int), .methodLink RX10 319 yX10_rankOf, .instanceMethod yX10_rankOf, .selects RX10 yX10_rankOf yX10_rankOf, .code yX10_rankOf cX10_rankOf 5 (some .int), .fieldLink RX10 20 "LuckyTicketModel" "luck" "[I"] ++ wsX100)
theorem iX10_many_X10 : ∀ w ∈ wsX100, w ∈ uX10_many := fun _ h => List.mem_cons_of_mem _ (List.mem_append_right _ h)
set_option maxRecDepth 20000 in
theorem gX10_many__X10_isLaw_V89 : GoodIn uX10_many (wsV RX10 89 RX10 yX10_isLaw uX10_isLaw) := goodIn_p _ [5, 9] rfl (by decide +kernel)
set_option maxRecDepth 20000 in
theorem gX10_many__X10_allOf_V322 : GoodIn uX10_many (wsV RX10 322 RX10 yX10_allOf uX10_allOf) := goodIn_p _ [13, 17] rfl (by decide +kernel)
set_option maxHeartbeats 4000000 in
set_option maxRecDepth 100000 in
theorem kX10_many (l : Launch) (dC : Nat → ClassId) (dI : Nat → Nat → Nat) (o0 : Nat) (x_th : Int32) (mwo : Nat) (mim : Nat) (mhi : Nat) (mlu : Nat) (mtp : Nat) (x_td : Int32) (mfv : Nat) (x_sz : Int32) (x_at : Int32) (x_fr : Int32) (x_to : Int32) (x_va : Int32) (x_fk : Int32) (x_fp : Int32) (mfr : Nat) (mwt : Nat) (x_wt : Int32) (x_op : Int32) (x_jo : Int32) (mfg : Nat) (mpl : Nat) (x_dr : Int64) (mtm : Nat) (mfa : Nat) (mqu : Nat) (mmo : Nat) (mwy : Nat) (mwn : Nat) (mma : Nat) (mwi : Nat) (mnu : Nat) (mmv : Nat) (c_wo : ClassId) (c_lu : ClassId) (w_wo : Nat → Int32) (w_lu : Nat → Int32) (ln : Int32) (bs : Int32) (tk : Int32) (lw : Int32) (li : Int32) (a1 : Int32) (b_ln : (0 : Int) ≤ ln.toInt ∧ ln.toInt ≤ 12) (b_bs : (0 : Int) ≤ bs.toInt ∧ bs.toInt ≤ 16) (b_tk : (0 : Int) ≤ tk.toInt ∧ tk.toInt ≤ 20000) (b_lw : (0 : Int) ≤ lw.toInt ∧ lw.toInt ≤ 9) (hw0 : w_wo 0 = ln) (hw1 : w_wo 1 = bs) (hw2 : w_wo 2 = tk) (hw3 : w_wo 3 = lw) (hw4 : w_wo 4 = li) (hwz : (ln.toInt = 0 ∧ bs.toInt = 0 ∧ tk.toInt = 0 ∧ lw.toInt = 0) ∨ (1 ≤ ln.toInt ∧ 2 ≤ bs.toInt ∧ 1 ≤ tk.toInt)) : Met l yX10_many uX10_many ({ frames := 2, cells := 0, slots := 0, locals := 46 }) (va_Pc [.ref o0, .int a1] (pw (dC, dI) vwCl [(o0, .inr (8, [.int x_th, .ref mwo, .ref mim, .ref mhi, .ref mlu, .ref mtp, .int x_td, .ref mfv, .int x_sz, .int x_at, .int x_fr, .int x_to, .int x_va, .int x_fk, .int x_fp, .ref mfr, .ref mwt, .int x_wt, .int x_op, .int x_jo, .ref mfg, .ref mpl, .long x_dr, .ref mtm, .ref mfa, .ref mqu, .ref mmo, .ref mwy, .ref mwn, .ref mma, .ref mwi, .ref mnu, .ref mmv])), (mwo, .inl (c_wo, 1875, .inl w_wo)), (mlu, .inl (c_lu, 20000, .inl w_lu))] [(c_wo, .int), (c_lu, .int)])) (vp_Si (fun r => ((-2 : Int) ≤ r.toInt ∧ r.toInt ≤ 20000))) 0 0 (fun _ => False) := by
  refine Met.ofW (cc := cX10_many) (maxL := 2) (ret := (some .int)) (by decide) rfl ?_
  intro p e s m args below meth c s₁ B hml hv
  obtain ⟨rfl, hP, hK, hN⟩ := hv
  have hx := B.exec
  have hb := B.bytes
  have hr := B.returns
  have hts := atoms_spec (ws := uX10_many) B.pre
  have hown : s.vm.findClass RX10 = some m.cls := findClass_of_methodNamed B.named
  have hlocks := B.notSynchronized
  have hl := lv_entry ([.ref o0, .int a1]) (n := 2) (Nat.le_of_ble_eq_true rfl)
  rw [lg_entry_eq]
  generalize (lg_sl ([.ref o0, .int a1]) ++ List.replicate (2 - (lg_sl ([.ref o0, .int a1])).length) Slot.unset).toArray = ls at hl ⊢
  have hl : lv_has ls 2 [(0, .ref o0), (1, .int a1)] := hl
  refine lv_aload_n hx hb dX10_many_0 rfl (lv_at hl 0 rfl) ?_
  refine lv_iload_n hx hb dX10_many_1 rfl (lv_at hl 1 rfl) ?_
  refine vp_callSi (W.runV (As := [.int a1]) (rest := []) ⟨hx, hb, hml, hown, hts⟩ (kX10_isLaw l dC dI o0 x_th mwo mim mhi mlu mtp x_td mfv x_sz x_at x_fr x_to x_va x_fk x_fp mfr mwt x_wt x_op x_jo mfg mpl x_dr mtm mfa mqu mmo mwy mwn mma mwi mnu mmv c_wo w_wo ln bs tk lw li a1 b_ln b_bs b_tk b_lw (hw0) (hw1) (hw2) (hw3) (hw4) (hwz)) (cwV 1 hts gX10_many__X10_isLaw_V89 rfl rfl rfl (by decide +kernel) ⟨lel 2 2 rfl, lel 46 46 rfl⟩) ⟨pw_fb, va_recv hK hP (ci := 8) (q0 := 0) rfl rfl, (pw_use hP hK hN [0, 1] rfl [0] rfl)⟩ rfl rfl hl.1 rfl (lv_room (Nat.le_of_ble_eq_true rfl)) dX10_many_2 ⟨lel 0 0 rfl, lel 0 0 rfl⟩) (fun r_5 h_r_5 => ?_)
  obtain ⟨b_r_5, nz_r_5⟩ := h_r_5
  have b_r_5 : (0 : Int) ≤ r_5.toInt ∧ r_5.toInt ≤ 1 := b_r_5
  refine lv_if_eq (tgt := 16) hx hb dX10_many_5 (by decide) (fun c_6 => ?_) (fun c_6 => ?_)
  ·
    have n_c_6 : (r_5.toInt : Int) = 0 := c_eq rfl (by decide) c_6
    have b_r_5 : (0 : Int) ≤ r_5.toInt ∧ r_5.toInt ≤ 0 := r_eq1 b_r_5 (by decide : (0 : Int) ≤ (0 : Int32).toInt ∧ (0 : Int32).toInt ≤ 0) n_c_6 (by decide)
    refine lv_bipush (v := (-2)) hx hb dX10_many_16 (by decide) ?_
    exact W.iret (v := (-2)) hx hb hr (fun t ht hW => ⟨(-2), rfl, (rg_w (by decide : (-2 : Int) ≤ ((-2) : Int32).toInt ∧ ((-2) : Int32).toInt ≤ -2) (by decide) (by decide)), ht⟩) t_nil dX10_many_18
  ·
    have n_c_6 : (r_5.toInt : Int) ≠ 0 := c_ne rfl (by decide) c_6
    have b_r_5 : (1 : Int) ≤ r_5.toInt ∧ r_5.toInt ≤ 1 := r_ne1 b_r_5 (by decide : (0 : Int) ≤ (0 : Int32).toInt ∧ (0 : Int32).toInt ≤ 0) n_c_6 (by decide)
    obtain ⟨b_a1, g_7⟩ := nz_r_5 c_6
    refine lv_aload_n hx hb dX10_many_8 rfl (lv_at hl 0 rfl) ?_
    refine lv_iload_n hx hb dX10_many_9 rfl (lv_at hl 1 rfl) ?_
    refine vp_callSi (W.runV (As := [.int a1]) (rest := []) ⟨hx, hb, hml, hown, hts⟩ (kX10_allOf l dC dI o0 x_th mwo mim mhi mlu mtp x_td mfv x_sz x_at x_fr x_to x_va x_fk x_fp mfr mwt x_wt x_op x_jo mfg mpl x_dr mtm mfa mqu mmo mwy mwn mma mwi mnu mmv c_wo c_lu w_wo w_lu ln bs tk lw li a1 b_ln b_bs b_tk b_lw (hw0) (hw1) (hw2) (hw3) (hw4) (hwz)) (cwV 1 hts gX10_many__X10_allOf_V322 rfl rfl rfl (by decide +kernel) ⟨lel 2 2 rfl, lel 45 46 rfl⟩) ⟨pw_fb, va_recv hK hP (ci := 8) (q0 := 0) rfl rfl, (pw_use hP hK hN [0, 1, 2] rfl [0, 1] rfl)⟩ rfl rfl hl.1 rfl (lv_room (Nat.le_of_ble_eq_true rfl)) dX10_many_10 ⟨lel 0 0 rfl, lel 0 0 rfl⟩) (fun r_8 h_r_8 => ?_)
    obtain ⟨b_r_8, pr_r_8⟩ := h_r_8
    have b_r_8 : (0 : Int) ≤ r_8.toInt ∧ r_8.toInt ≤ 20000 := b_r_8
    refine lv_goto (tgt := 18) hx hb dX10_many_13 (by decide) ?_
    exact W.iret (v := r_8) hx hb hr (fun t ht hW => ⟨r_8, rfl, (rg_w b_r_8 (by decide) (by decide)), ht⟩) t_nil dX10_many_18
theorem dX10_rank_0 : decode cX10_rank 0 = .ok (.aload_n 0, 1) := by decide +kernel
theorem dX10_rank_1 : decode cX10_rank 1 = .ok (.iload_n 1, 1) := by decide +kernel
theorem dX10_rank_2 : decode cX10_rank 2 = .ok (.invokevirtual 89, 3) := by decide +kernel
theorem dX10_rank_5 : decode cX10_rank 5 = .ok (.ifCond .eq 28, 3) := by decide +kernel
theorem dX10_rank_8 : decode cX10_rank 8 = .ok (.iload_n 2, 1) := by decide +kernel
theorem dX10_rank_9 : decode cX10_rank 9 = .ok (.i2l, 1) := by decide +kernel
theorem dX10_rank_10 : decode cX10_rank 10 = .ok (.lconst 0, 1) := by decide +kernel
theorem dX10_rank_11 : decode cX10_rank 11 = .ok (.aload_n 0, 1) := by decide +kernel
theorem dX10_rank_12 : decode cX10_rank 12 = .ok (.getfield 9, 3) := by decide +kernel
theorem dX10_rank_15 : decode cX10_rank 15 = .ok (.iconst 2, 1) := by decide +kernel
theorem dX10_rank_16 : decode cX10_rank 16 = .ok (.iaload, 1) := by decide +kernel
theorem dX10_rank_17 : decode cX10_rank 17 = .ok (.i2l, 1) := by decide +kernel
theorem dX10_rank_18 : decode cX10_rank 18 = .ok (.invokestatic 82, 3) := by decide +kernel
theorem dX10_rank_21 : decode cX10_rank 21 = .ok (.ifCond .eq 12, 3) := by decide +kernel
theorem dX10_rank_24 : decode cX10_rank 24 = .ok (.aload_n 0, 1) := by decide +kernel
theorem dX10_rank_25 : decode cX10_rank 25 = .ok (.iload_n 1, 1) := by decide +kernel
theorem dX10_rank_26 : decode cX10_rank 26 = .ok (.iload_n 2, 1) := by decide +kernel
theorem dX10_rank_27 : decode cX10_rank 27 = .ok (.invokevirtual 319, 3) := by decide +kernel
theorem dX10_rank_30 : decode cX10_rank 30 = .ok (.goto 5, 3) := by decide +kernel
theorem dX10_rank_33 : decode cX10_rank 33 = .ok (.bipush (-2), 2) := by decide +kernel
theorem dX10_rank_35 : decode cX10_rank 35 = .ok (.ireturn, 1) := by decide +kernel
def uX10_rank : List Cond := .code yX10_rank cX10_rank 3 (some .int) :: ([.methodLink RX10 89 yX10_isLaw, .instanceMethod yX10_isLaw, .selects RX10 yX10_isLaw yX10_isLaw, .initialized RX10, .code yX10_isLaw cX10_isLaw 2 (some .boolean), .fieldLink RX10 9 "LuckyTicketModel" "world" "[I", .methodLink RX10 82 yX10_in, .static yX10_in, .code yX10_in cX10_in 6 (some .boolean), .methodLink RX10 319 yX10_rankOf, .instanceMethod yX10_rankOf, .selects RX10 yX10_rankOf yX10_rankOf, .code yX10_rankOf cX10_rankOf 5 (some .int), .fieldLink RX10 20 "LuckyTicketModel" "luck" "[I"] ++ wsX100)
theorem iX10_rank_X10 : ∀ w ∈ wsX100, w ∈ uX10_rank := fun _ h => List.mem_cons_of_mem _ (List.mem_append_right _ h)
set_option maxRecDepth 20000 in
theorem gX10_rank__X10_isLaw_V89 : GoodIn uX10_rank (wsV RX10 89 RX10 yX10_isLaw uX10_isLaw) := goodIn_p _ [5, 9] rfl (by decide +kernel)
set_option maxRecDepth 20000 in
theorem gX10_rank__X10_in_S82 : GoodIn uX10_rank (va_wsS RX10 82 yX10_in uX10_in) := goodIn_p _ [9] rfl (by decide +kernel)
set_option maxRecDepth 20000 in
theorem gX10_rank__X10_rankOf_V319 : GoodIn uX10_rank (wsV RX10 319 RX10 yX10_rankOf uX10_rankOf) := goodIn_p _ [13] rfl (by decide +kernel)
set_option maxHeartbeats 4000000 in
set_option maxRecDepth 100000 in
theorem kX10_rank (l : Launch) (dC : Nat → ClassId) (dI : Nat → Nat → Nat) (o0 : Nat) (x_th : Int32) (mwo : Nat) (mim : Nat) (mhi : Nat) (mlu : Nat) (mtp : Nat) (x_td : Int32) (mfv : Nat) (x_sz : Int32) (x_at : Int32) (x_fr : Int32) (x_to : Int32) (x_va : Int32) (x_fk : Int32) (x_fp : Int32) (mfr : Nat) (mwt : Nat) (x_wt : Int32) (x_op : Int32) (x_jo : Int32) (mfg : Nat) (mpl : Nat) (x_dr : Int64) (mtm : Nat) (mfa : Nat) (mqu : Nat) (mmo : Nat) (mwy : Nat) (mwn : Nat) (mma : Nat) (mwi : Nat) (mnu : Nat) (mmv : Nat) (c_wo : ClassId) (c_lu : ClassId) (w_wo : Nat → Int32) (w_lu : Nat → Int32) (ln : Int32) (bs : Int32) (tk : Int32) (lw : Int32) (li : Int32) (a1 : Int32) (a2 : Int32) (b_ln : (0 : Int) ≤ ln.toInt ∧ ln.toInt ≤ 12) (b_bs : (0 : Int) ≤ bs.toInt ∧ bs.toInt ≤ 16) (b_tk : (0 : Int) ≤ tk.toInt ∧ tk.toInt ≤ 20000) (b_lw : (0 : Int) ≤ lw.toInt ∧ lw.toInt ≤ 9) (hw0 : w_wo 0 = ln) (hw1 : w_wo 1 = bs) (hw2 : w_wo 2 = tk) (hw3 : w_wo 3 = lw) (hw4 : w_wo 4 = li) (hwz : (ln.toInt = 0 ∧ bs.toInt = 0 ∧ tk.toInt = 0 ∧ lw.toInt = 0) ∨ (1 ≤ ln.toInt ∧ 2 ≤ bs.toInt ∧ 1 ≤ tk.toInt)) : Met l yX10_rank uX10_rank ({ frames := 2, cells := 0, slots := 0, locals := 46 }) (va_Pc [.ref o0, .int a1, .int a2] (pw (dC, dI) vwCl [(o0, .inr (8, [.int x_th, .ref mwo, .ref mim, .ref mhi, .ref mlu, .ref mtp, .int x_td, .ref mfv, .int x_sz, .int x_at, .int x_fr, .int x_to, .int x_va, .int x_fk, .int x_fp, .ref mfr, .ref mwt, .int x_wt, .int x_op, .int x_jo, .ref mfg, .ref mpl, .long x_dr, .ref mtm, .ref mfa, .ref mqu, .ref mmo, .ref mwy, .ref mwn, .ref mma, .ref mwi, .ref mnu, .ref mmv])), (mwo, .inl (c_wo, 1875, .inl w_wo)), (mlu, .inl (c_lu, 20000, .inl w_lu))] [(c_wo, .int), (c_lu, .int)])) (vp_Si (fun r => ((-2 : Int) ≤ r.toInt ∧ r.toInt ≤ 20000))) 0 0 (fun _ => False) := by
  refine Met.ofW (cc := cX10_rank) (maxL := 3) (ret := (some .int)) (by decide) rfl ?_
  intro p e s m args below meth c s₁ B hml hv
  obtain ⟨rfl, hP, hK, hN⟩ := hv
  have hx := B.exec
  have hb := B.bytes
  have hr := B.returns
  have hts := atoms_spec (ws := uX10_rank) B.pre
  have hown : s.vm.findClass RX10 = some m.cls := findClass_of_methodNamed B.named
  have hlocks := B.notSynchronized
  have hl := lv_entry ([.ref o0, .int a1, .int a2]) (n := 3) (Nat.le_of_ble_eq_true rfl)
  rw [lg_entry_eq]
  generalize (lg_sl ([.ref o0, .int a1, .int a2]) ++ List.replicate (3 - (lg_sl ([.ref o0, .int a1, .int a2])).length) Slot.unset).toArray = ls at hl ⊢
  have hl : lv_has ls 3 [(0, .ref o0), (1, .int a1), (2, .int a2)] := hl
  refine lv_aload_n hx hb dX10_rank_0 rfl (lv_at hl 0 rfl) ?_
  refine lv_iload_n hx hb dX10_rank_1 rfl (lv_at hl 1 rfl) ?_
  refine vp_callSi (W.runV (As := [.int a1]) (rest := []) ⟨hx, hb, hml, hown, hts⟩ (kX10_isLaw l dC dI o0 x_th mwo mim mhi mlu mtp x_td mfv x_sz x_at x_fr x_to x_va x_fk x_fp mfr mwt x_wt x_op x_jo mfg mpl x_dr mtm mfa mqu mmo mwy mwn mma mwi mnu mmv c_wo w_wo ln bs tk lw li a1 b_ln b_bs b_tk b_lw (hw0) (hw1) (hw2) (hw3) (hw4) (hwz)) (cwV 1 hts gX10_rank__X10_isLaw_V89 rfl rfl rfl (by decide +kernel) ⟨lel 2 2 rfl, lel 46 46 rfl⟩) ⟨pw_fb, va_recv hK hP (ci := 8) (q0 := 0) rfl rfl, (pw_use hP hK hN [0, 1] rfl [0] rfl)⟩ rfl rfl hl.1 rfl (lv_room (Nat.le_of_ble_eq_true rfl)) dX10_rank_2 ⟨lel 0 0 rfl, lel 0 0 rfl⟩) (fun r_11 h_r_11 => ?_)
  obtain ⟨b_r_11, nz_r_11⟩ := h_r_11
  have b_r_11 : (0 : Int) ≤ r_11.toInt ∧ r_11.toInt ≤ 1 := b_r_11
  refine lv_if_eq (tgt := 33) hx hb dX10_rank_5 (by decide) (fun c_12 => ?_) (fun c_12 => ?_)
  ·
    have n_c_12 : (r_11.toInt : Int) = 0 := c_eq rfl (by decide) c_12
    have b_r_11 : (0 : Int) ≤ r_11.toInt ∧ r_11.toInt ≤ 0 := r_eq1 b_r_11 (by decide : (0 : Int) ≤ (0 : Int32).toInt ∧ (0 : Int32).toInt ≤ 0) n_c_12 (by decide)
    refine lv_bipush (v := (-2)) hx hb dX10_rank_33 (by decide) ?_
    exact W.iret (v := (-2)) hx hb hr (fun t ht hW => ⟨(-2), rfl, (rg_w (by decide : (-2 : Int) ≤ ((-2) : Int32).toInt ∧ ((-2) : Int32).toInt ≤ -2) (by decide) (by decide)), ht⟩) t_nil dX10_rank_35
  ·
    have n_c_12 : (r_11.toInt : Int) ≠ 0 := c_ne rfl (by decide) c_12
    have b_r_11 : (1 : Int) ≤ r_11.toInt ∧ r_11.toInt ≤ 1 := r_ne1 b_r_11 (by decide : (0 : Int) ≤ (0 : Int32).toInt ∧ (0 : Int32).toInt ≤ 0) n_c_12 (by decide)
    obtain ⟨b_a1, g_13⟩ := nz_r_11 c_12
    refine lv_iload_n hx hb dX10_rank_8 rfl (lv_at hl 2 rfl) ?_
    obtain ⟨z_14, e_z_14⟩ : ∃ y : Int64, y = a2.toInt64 := ⟨_, rfl⟩
    refine lv_i2l (v := z_14) hx hb dX10_rank_9 e_z_14.symm ?_
    obtain ⟨q_z_14, b_z_14⟩ := ti_i2l e_z_14 (ti_rng a2)
    refine lv_lconst (v := 0) hx hb dX10_rank_10 (by decide) ?_
    refine lv_aload_n hx hb dX10_rank_11 rfl (lv_at hl 0 rfl) ?_
    refine va_get (D := (dC, dI)) (ci := 8) (v := .ref mwo) (C := RX10) (T := TX10) (N := 33) hx hb hts iX10_rank_X10 hown hK hP 0 rfl rfl 1 (by decide) (hts (.fieldLink RX10 9 "LuckyTicketModel" "world" "[I") (List.mem_of_getElem? (i := 6) rfl)) (fun _ h9 => h9) rfl dX10_rank_12 ?_
    refine lv_iconst (v := 2) hx hb dX10_rank_15 (by decide) ?_
    refine va_iald hx hb hK hP 1 0 rfl rfl (vp_in_b (by decide : (2 : Int) ≤ (2 : Int32).toInt ∧ (2 : Int32).toInt ≤ 2) (by decide) (by decide)) dX10_rank_16 ?_
    refine lv_topi (fun z_15 e_z_15 => ?_)
    obtain rfl : z_15 = tk := e_z_15.trans hw2
    obtain ⟨z_16, e_z_16⟩ : ∃ y : Int64, y = tk.toInt64 := ⟨_, rfl⟩
    refine lv_i2l (v := z_16) hx hb dX10_rank_17 e_z_16.symm ?_
    obtain ⟨q_z_16, b_z_16⟩ := ti_i2l e_z_16 b_tk
    refine vp_callSi (W.runS (As := [.long z_14, .long 0, .long z_16]) (rest := []) ⟨hx, hb, hml, hown, hts⟩ (kX10_in l dC dI z_14 0 z_16 ) (va_cwS 3 hts gX10_rank__X10_in_S82 rfl rfl rfl (by decide +kernel) ⟨lel 1 2 rfl, lel 25 46 rfl⟩) ⟨pn_fb, pn_use⟩ rfl rfl hl.1 rfl (lv_room (Nat.le_of_ble_eq_true rfl)) dX10_rank_18 ⟨lel 0 0 rfl, lel 0 0 rfl⟩) (fun r_17 h_r_17 => ?_)
    obtain ⟨b_r_17, nz_r_17⟩ := h_r_17
    have b_r_17 : (0 : Int) ≤ r_17.toInt ∧ r_17.toInt ≤ 1 := b_r_17
    refine lv_if_eq (tgt := 33) hx hb dX10_rank_21 (by decide) (fun c_18 => ?_) (fun c_18 => ?_)
    ·
      have n_c_18 : (r_17.toInt : Int) = 0 := c_eq rfl (by decide) c_18
      have b_r_17 : (0 : Int) ≤ r_17.toInt ∧ r_17.toInt ≤ 0 := r_eq1 b_r_17 (by decide : (0 : Int) ≤ (0 : Int32).toInt ∧ (0 : Int32).toInt ≤ 0) n_c_18 (by decide)
      refine lv_bipush (v := (-2)) hx hb dX10_rank_33 (by decide) ?_
      exact W.iret (v := (-2)) hx hb hr (fun t ht hW => ⟨(-2), rfl, (rg_w (by decide : (-2 : Int) ≤ ((-2) : Int32).toInt ∧ ((-2) : Int32).toInt ≤ -2) (by decide) (by decide)), ht⟩) t_nil dX10_rank_35
    ·
      have n_c_18 : (r_17.toInt : Int) ≠ 0 := c_ne rfl (by decide) c_18
      have b_r_17 : (1 : Int) ≤ r_17.toInt ∧ r_17.toInt ≤ 1 := r_ne1 b_r_17 (by decide : (0 : Int) ≤ (0 : Int32).toInt ∧ (0 : Int32).toInt ≤ 0) n_c_18 (by decide)
      have g_19 := nz_r_17 c_18
      have lt0_g_19 := (by decide : (0 : Int64).toInt = 0)
      have b_z_14 : (0 : Int) ≤ z_14.toInt ∧ z_14.toInt ≤ 20000 := by
        have q0 := b_z_14
        have q1 := (by decide : (0 : Int) ≤ (0 : Int64).toInt ∧ (0 : Int64).toInt ≤ 0)
        have q2 := b_z_16
        omega
      have b_a2 : (0 : Int) ≤ a2.toInt ∧ a2.toInt ≤ 20000 := by
        have q0 := b_z_14; have q1 := q_z_14; have q2 := (ti_rng a2); omega
      refine lv_aload_n hx hb dX10_rank_24 rfl (lv_at hl 0 rfl) ?_
      refine lv_iload_n hx hb dX10_rank_25 rfl (lv_at hl 1 rfl) ?_
      refine lv_iload_n hx hb dX10_rank_26 rfl (lv_at hl 2 rfl) ?_
      refine vp_callSi (W.runV (As := [.int a1, .int a2]) (rest := []) ⟨hx, hb, hml, hown, hts⟩ (kX10_rankOf l dC dI o0 x_th mwo mim mhi mlu mtp x_td mfv x_sz x_at x_fr x_to x_va x_fk x_fp mfr mwt x_wt x_op x_jo mfg mpl x_dr mtm mfa mqu mmo mwy mwn mma mwi mnu mmv c_wo c_lu w_wo w_lu ln bs tk lw li a1 a2 b_ln b_bs b_tk b_lw b_a2 (hw0) (hw1) (hw2) (hw3) (hw4) (hwz)) (cwV 2 hts gX10_rank__X10_rankOf_V319 rfl rfl rfl (by decide +kernel) ⟨lel 1 2 rfl, lel 24 46 rfl⟩) ⟨pw_fb, va_recv hK hP (ci := 8) (q0 := 0) rfl rfl, (pw_use hP hK hN [0, 1, 2] rfl [0, 1] rfl)⟩ rfl rfl hl.1 rfl (lv_room (Nat.le_of_ble_eq_true rfl)) dX10_rank_27 ⟨lel 0 0 rfl, lel 0 0 rfl⟩) (fun r_20 h_r_20 => ?_)
      obtain ⟨b_r_20, pr_r_20⟩ := h_r_20
      have b_r_20 : (0 : Int) ≤ r_20.toInt ∧ r_20.toInt ≤ 20000 := b_r_20
      refine lv_goto (tgt := 35) hx hb dX10_rank_30 (by decide) ?_
      exact W.iret (v := r_20) hx hb hr (fun t ht hW => ⟨r_20, rfl, (rg_w b_r_20 (by decide) (by decide)), ht⟩) t_nil dX10_rank_35
theorem dX10_nextOf_0 : decode cX10_nextOf 0 = .ok (.iload_n 2, 1) := by decide +kernel
theorem dX10_nextOf_1 : decode cX10_nextOf 1 = .ok (.istore_n 3, 1) := by decide +kernel
theorem dX10_nextOf_2 : decode cX10_nextOf 2 = .ok (.iload_n 3, 1) := by decide +kernel
theorem dX10_nextOf_3 : decode cX10_nextOf 3 = .ok (.aload_n 0, 1) := by decide +kernel
theorem dX10_nextOf_4 : decode cX10_nextOf 4 = .ok (.getfield 9, 3) := by decide +kernel
theorem dX10_nextOf_7 : decode cX10_nextOf 7 = .ok (.iconst 2, 1) := by decide +kernel
theorem dX10_nextOf_8 : decode cX10_nextOf 8 = .ok (.iaload, 1) := by decide +kernel
theorem dX10_nextOf_9 : decode cX10_nextOf 9 = .ok (.if_icmp .ge 18, 3) := by decide +kernel
theorem dX10_nextOf_12 : decode cX10_nextOf 12 = .ok (.aload_n 0, 1) := by decide +kernel
theorem dX10_nextOf_13 : decode cX10_nextOf 13 = .ok (.iload_n 1, 1) := by decide +kernel
theorem dX10_nextOf_14 : decode cX10_nextOf 14 = .ok (.iload_n 3, 1) := by decide +kernel
theorem dX10_nextOf_15 : decode cX10_nextOf 15 = .ok (.invokevirtual 316, 3) := by decide +kernel
theorem dX10_nextOf_18 : decode cX10_nextOf 18 = .ok (.ifCond .ne 9, 3) := by decide +kernel
theorem dX10_nextOf_21 : decode cX10_nextOf 21 = .ok (.iinc 3 1, 3) := by decide +kernel
theorem dX10_nextOf_24 : decode cX10_nextOf 24 = .ok (.goto (-22), 3) := by decide +kernel
theorem dX10_nextOf_27 : decode cX10_nextOf 27 = .ok (.iload_n 3, 1) := by decide +kernel
theorem dX10_nextOf_28 : decode cX10_nextOf 28 = .ok (.aload_n 0, 1) := by decide +kernel
theorem dX10_nextOf_29 : decode cX10_nextOf 29 = .ok (.getfield 9, 3) := by decide +kernel
theorem dX10_nextOf_32 : decode cX10_nextOf 32 = .ok (.iconst 2, 1) := by decide +kernel
theorem dX10_nextOf_33 : decode cX10_nextOf 33 = .ok (.iaload, 1) := by decide +kernel
theorem dX10_nextOf_34 : decode cX10_nextOf 34 = .ok (.if_icmp .ge 7, 3) := by decide +kernel
theorem dX10_nextOf_37 : decode cX10_nextOf 37 = .ok (.iload_n 3, 1) := by decide +kernel
theorem dX10_nextOf_38 : decode cX10_nextOf 38 = .ok (.goto 4, 3) := by decide +kernel
theorem dX10_nextOf_41 : decode cX10_nextOf 41 = .ok (.iconst (-1), 1) := by decide +kernel
theorem dX10_nextOf_42 : decode cX10_nextOf 42 = .ok (.ireturn, 1) := by decide +kernel
def uX10_nextOf : List Cond := .code yX10_nextOf cX10_nextOf 4 (some .int) :: ([.fieldLink RX10 9 "LuckyTicketModel" "world" "[I", .methodLink RX10 316 yX10_isLucky, .instanceMethod yX10_isLucky, .selects RX10 yX10_isLucky yX10_isLucky, .initialized RX10, .code yX10_isLucky cX10_isLucky 3 (some .boolean), .fieldLink RX10 20 "LuckyTicketModel" "luck" "[I"] ++ wsX100)
theorem iX10_nextOf_X10 : ∀ w ∈ wsX100, w ∈ uX10_nextOf := fun _ h => List.mem_cons_of_mem _ (List.mem_append_right _ h)
set_option maxRecDepth 20000 in
theorem gX10_nextOf__X10_isLucky_V316 : GoodIn uX10_nextOf (wsV RX10 316 RX10 yX10_isLucky uX10_isLucky) := goodIn_p _ [6] rfl (by decide +kernel)
set_option maxHeartbeats 4000000 in
set_option maxRecDepth 100000 in
theorem kX10_nextOf (l : Launch) (dC : Nat → ClassId) (dI : Nat → Nat → Nat) (o0 : Nat) (x_th : Int32) (mwo : Nat) (mim : Nat) (mhi : Nat) (mlu : Nat) (mtp : Nat) (x_td : Int32) (mfv : Nat) (x_sz : Int32) (x_at : Int32) (x_fr : Int32) (x_to : Int32) (x_va : Int32) (x_fk : Int32) (x_fp : Int32) (mfr : Nat) (mwt : Nat) (x_wt : Int32) (x_op : Int32) (x_jo : Int32) (mfg : Nat) (mpl : Nat) (x_dr : Int64) (mtm : Nat) (mfa : Nat) (mqu : Nat) (mmo : Nat) (mwy : Nat) (mwn : Nat) (mma : Nat) (mwi : Nat) (mnu : Nat) (mmv : Nat) (c_wo : ClassId) (c_lu : ClassId) (w_wo : Nat → Int32) (w_lu : Nat → Int32) (ln : Int32) (bs : Int32) (tk : Int32) (lw : Int32) (li : Int32) (a1 : Int32) (a2 : Int32) (b_ln : (0 : Int) ≤ ln.toInt ∧ ln.toInt ≤ 12) (b_bs : (0 : Int) ≤ bs.toInt ∧ bs.toInt ≤ 16) (b_tk : (0 : Int) ≤ tk.toInt ∧ tk.toInt ≤ 20000) (b_lw : (0 : Int) ≤ lw.toInt ∧ lw.toInt ≤ 9) (b_a2 : (0 : Int) ≤ a2.toInt ∧ a2.toInt ≤ 20000) (hw0 : w_wo 0 = ln) (hw1 : w_wo 1 = bs) (hw2 : w_wo 2 = tk) (hw3 : w_wo 3 = lw) (hw4 : w_wo 4 = li) (hwz : (ln.toInt = 0 ∧ bs.toInt = 0 ∧ tk.toInt = 0 ∧ lw.toInt = 0) ∨ (1 ≤ ln.toInt ∧ 2 ≤ bs.toInt ∧ 1 ≤ tk.toInt)) : Met l yX10_nextOf uX10_nextOf ({ frames := 1, cells := 0, slots := 0, locals := 22 }) (va_Pc [.ref o0, .int a1, .int a2] (pw (dC, dI) vwCl [(o0, .inr (8, [.int x_th, .ref mwo, .ref mim, .ref mhi, .ref mlu, .ref mtp, .int x_td, .ref mfv, .int x_sz, .int x_at, .int x_fr, .int x_to, .int x_va, .int x_fk, .int x_fp, .ref mfr, .ref mwt, .int x_wt, .int x_op, .int x_jo, .ref mfg, .ref mpl, .long x_dr, .ref mtm, .ref mfa, .ref mqu, .ref mmo, .ref mwy, .ref mwn, .ref mma, .ref mwi, .ref mnu, .ref mmv])), (mwo, .inl (c_wo, 1875, .inl w_wo)), (mlu, .inl (c_lu, 20000, .inl w_lu))] [(c_wo, .int), (c_lu, .int)])) (vp_Si (fun r => ((-1 : Int) ≤ r.toInt ∧ r.toInt ≤ 19999) ∧ (r.toInt = -1 ∨ a2.toInt ≤ r.toInt))) 0 0 (fun _ => False) := by
  refine Met.ofW (cc := cX10_nextOf) (maxL := 4) (ret := (some .int)) (by decide) rfl ?_
  intro p e s m args below meth c s₁ B hml hv
  obtain ⟨rfl, hP, hK, hN⟩ := hv
  have hx := B.exec
  have hb := B.bytes
  have hr := B.returns
  have hts := atoms_spec (ws := uX10_nextOf) B.pre
  have hown : s.vm.findClass RX10 = some m.cls := findClass_of_methodNamed B.named
  have hlocks := B.notSynchronized
  have hl := lv_entry ([.ref o0, .int a1, .int a2]) (n := 4) (Nat.le_of_ble_eq_true rfl)
  rw [lg_entry_eq]
  generalize (lg_sl ([.ref o0, .int a1, .int a2]) ++ List.replicate (4 - (lg_sl ([.ref o0, .int a1, .int a2])).length) Slot.unset).toArray = ls at hl ⊢
  have hl : lv_has ls 4 [(0, .ref o0), (1, .int a1), (2, .int a2)] := hl
  refine lv_iload_n hx hb dX10_nextOf_0 rfl (lv_at hl 2 rfl) ?_
  refine lv_istore_n (lv' := [(3, .int a2), (0, .ref o0), (1, .int a1), (2, .int a2)]) hx hb dX10_nextOf_1 rfl hl (by decide) rfl (fun ls hl => ?_)
  refine loopP (σ := Int32) (fun v => (20000 - v.toInt).toNat) (fun v ls => ((0 : Int) ≤ v.toInt ∧ v.toInt ≤ 20000) ∧ (a2.toInt ≤ v.toInt) ∧ lv_has ls 4 [(3, .int v), (0, .ref o0), (1, .int a1), (2, .int a2)]) (fun v ls hI ih_2_52 => ?_) a2 ⟨(show (0 : Int) ≤ a2.toInt ∧ a2.toInt ≤ 20000 from b_a2), (show a2.toInt ≤ a2.toInt from (by omega)), lv_sub hl [0, 1, 2, 3] rfl⟩
  obtain ⟨y_42, rfl⟩ : ∃ z, z = v := ⟨_, rfl⟩
  obtain ⟨b_y_42, hge, hl⟩ := hI
  have b_y_42 : (0 : Int) ≤ y_42.toInt ∧ y_42.toInt ≤ 20000 := b_y_42
  have hge : a2.toInt ≤ y_42.toInt := hge
  have hl : lv_has ls 4 [(3, .int y_42), (0, .ref o0), (1, .int a1), (2, .int a2)] := hl
  refine lv_iload_n hx hb dX10_nextOf_2 rfl (lv_at hl 0 rfl) ?_
  refine lv_aload_n hx hb dX10_nextOf_3 rfl (lv_at hl 1 rfl) ?_
  refine va_get (D := (dC, dI)) (ci := 8) (v := .ref mwo) (C := RX10) (T := TX10) (N := 33) hx hb hts iX10_nextOf_X10 hown hK hP 0 rfl rfl 1 (by decide) (hts (.fieldLink RX10 9 "LuckyTicketModel" "world" "[I") (List.mem_of_getElem? (i := 1) rfl)) (fun _ h9 => h9) rfl dX10_nextOf_4 ?_
  refine lv_iconst (v := 2) hx hb dX10_nextOf_7 (by decide) ?_
  refine va_iald hx hb hK hP 1 0 rfl rfl (vp_in_b (by decide : (2 : Int) ≤ (2 : Int32).toInt ∧ (2 : Int32).toInt ≤ 2) (by decide) (by decide)) dX10_nextOf_8 ?_
  refine lv_topi (fun z_53 e_z_53 => ?_)
  obtain rfl : z_53 = tk := e_z_53.trans hw2
  refine cutP (σ := Unit) (pc2 := 27) (st2 := fun v => []) (cells2 := 0) (slots2 := 0) (fun v ls => lv_has ls 4 [(3, .int y_42), (0, .ref o0), (1, .int a1), (2, .int a2)]) (fun v ls hI => ?_) (fun hj_27_57 => ?_)
  ·
    have hl := hI
    have hl : lv_has ls 4 [(3, .int y_42), (0, .ref o0), (1, .int a1), (2, .int a2)] := hl
    refine lv_iload_n hx hb dX10_nextOf_27 rfl (lv_at hl 0 rfl) ?_
    refine lv_aload_n hx hb dX10_nextOf_28 rfl (lv_at hl 1 rfl) ?_
    refine va_get (D := (dC, dI)) (ci := 8) (v := .ref mwo) (C := RX10) (T := TX10) (N := 33) hx hb hts iX10_nextOf_X10 hown hK hP 0 rfl rfl 1 (by decide) (hts (.fieldLink RX10 9 "LuckyTicketModel" "world" "[I") (List.mem_of_getElem? (i := 1) rfl)) (fun _ h9 => h9) rfl dX10_nextOf_29 ?_
    refine lv_iconst (v := 2) hx hb dX10_nextOf_32 (by decide) ?_
    refine va_iald hx hb hK hP 1 0 rfl rfl (vp_in_b (by decide : (2 : Int) ≤ (2 : Int32).toInt ∧ (2 : Int32).toInt ≤ 2) (by decide) (by decide)) dX10_nextOf_33 ?_
    refine lv_topi (fun z_58 e_z_58 => ?_)
    obtain rfl : z_58 = tk := e_z_58.trans hw2
    refine lv_icmp_ge (tgt := 41) hx hb dX10_nextOf_34 (by decide) (fun c_59 => ?_) (fun c_59 => ?_)
    ·
      have n_c_59 : (tk.toInt : Int) ≤ y_42.toInt := c_ge rfl rfl c_59
      refine lv_iconst (v := (-1)) hx hb dX10_nextOf_41 (by decide) ?_
      exact W.iret (v := (-1)) hx hb hr (fun t ht hW => ⟨(-1), rfl, ⟨(rg_w (by decide : (-1 : Int) ≤ ((-1) : Int32).toInt ∧ ((-1) : Int32).toInt ≤ -1) (by decide) (by decide)), (by first | omega | exact Or.inl (by decide))⟩, ht⟩) t_nil dX10_nextOf_42
    ·
      have n_c_59 : (y_42.toInt : Int) < tk.toInt := c_nge rfl rfl c_59
      have b_y_42 : (0 : Int) ≤ y_42.toInt ∧ y_42.toInt ≤ 19999 := r_lt1 b_y_42 b_tk n_c_59 (by decide)
      have b_tk : (1 : Int) ≤ tk.toInt ∧ tk.toInt ≤ 20000 := r_lt2 b_y_42 b_tk n_c_59 (by decide)
      refine lv_iload_n hx hb dX10_nextOf_37 rfl (lv_at hl 0 rfl) ?_
      refine lv_goto (tgt := 42) hx hb dX10_nextOf_38 (by decide) ?_
      exact W.iret (v := y_42) hx hb hr (fun t ht hW => ⟨y_42, rfl, ⟨(rg_w b_y_42 (by decide) (by decide)), (by first | omega | exact Or.inl (by decide))⟩, ht⟩) t_nil dX10_nextOf_42
  ·
    refine lv_icmp_ge (tgt := 27) hx hb dX10_nextOf_9 (by decide) (fun c_54 => ?_) (fun c_54 => ?_)
    ·
      have n_c_54 : (tk.toInt : Int) ≤ y_42.toInt := c_ge rfl rfl c_54
      exact hj_27_57 () _ (lv_sub hl [0, 1, 2, 3] rfl)
    ·
      have n_c_54 : (y_42.toInt : Int) < tk.toInt := c_nge rfl rfl c_54
      have b_y_42 : (0 : Int) ≤ y_42.toInt ∧ y_42.toInt ≤ 19999 := r_lt1 b_y_42 b_tk n_c_54 (by decide)
      have b_tk : (1 : Int) ≤ tk.toInt ∧ tk.toInt ≤ 20000 := r_lt2 b_y_42 b_tk n_c_54 (by decide)
      refine lv_aload_n hx hb dX10_nextOf_12 rfl (lv_at hl 1 rfl) ?_
      refine lv_iload_n hx hb dX10_nextOf_13 rfl (lv_at hl 2 rfl) ?_
      refine lv_iload_n hx hb dX10_nextOf_14 rfl (lv_at hl 0 rfl) ?_
      refine vp_callSi (W.runV (As := [.int a1, .int y_42]) (rest := []) ⟨hx, hb, hml, hown, hts⟩ (kX10_isLucky l dC dI o0 x_th mwo mim mhi mlu mtp x_td mfv x_sz x_at x_fr x_to x_va x_fk x_fp mfr mwt x_wt x_op x_jo mfg mpl x_dr mtm mfa mqu mmo mwy mwn mma mwi mnu mmv c_wo c_lu w_wo w_lu ln bs tk lw li a1 y_42 b_ln b_bs (rg_w b_tk (by decide) (by decide)) b_lw b_y_42 (hw0) (hw1) (hw2) (hw3) (hw4) (hwz)) (cwV 2 hts gX10_nextOf__X10_isLucky_V316 rfl rfl rfl (by decide +kernel) ⟨lel 1 1 rfl, lel 22 22 rfl⟩) ⟨pw_fb, va_recv hK hP (ci := 8) (q0 := 0) rfl rfl, (pw_use hP hK hN [0, 1, 2] rfl [0, 1] rfl)⟩ rfl rfl hl.1 rfl (lv_room (Nat.le_of_ble_eq_true rfl)) dX10_nextOf_15 ⟨lel 0 0 rfl, lel 0 0 rfl⟩) (fun r_60 h_r_60 => ?_)
      have b_r_60 := h_r_60
      have b_r_60 : (0 : Int) ≤ r_60.toInt ∧ r_60.toInt ≤ 1 := b_r_60
      refine lv_if_ne (tgt := 27) hx hb dX10_nextOf_18 (by decide) (fun c_61 => ?_) (fun c_61 => ?_)
      ·
        have n_c_61 : (r_60.toInt : Int) ≠ 0 := c_ne rfl (by decide) c_61
        have b_r_60 : (1 : Int) ≤ r_60.toInt ∧ r_60.toInt ≤ 1 := r_ne1 b_r_60 (by decide : (0 : Int) ≤ (0 : Int32).toInt ∧ (0 : Int32).toInt ≤ 0) n_c_61 (by decide)
        exact hj_27_57 () _ (lv_sub hl [0, 1, 2, 3] rfl)
      ·
        have n_c_61 : (r_60.toInt : Int) = 0 := c_eq rfl (by decide) c_61
        have b_r_60 : (0 : Int) ≤ r_60.toInt ∧ r_60.toInt ≤ 0 := r_eq1 b_r_60 (by decide : (0 : Int) ≤ (0 : Int32).toInt ∧ (0 : Int32).toInt ≤ 0) n_c_61 (by decide)
        obtain ⟨z_62, e_z_62⟩ : ∃ y : Int32, y = y_42 + 1 := ⟨_, rfl⟩
        refine lv_iinc (v := z_62) (lv' := [(3, .int z_62), (0, .ref o0), (1, .int a1), (2, .int a2)]) hx hb dX10_nextOf_21 hl (k := 0) rfl (by rw [e_z_62]; rfl) (by decide) rfl (fun ls hl => ?_)
        obtain ⟨q_z_62, b_z_62⟩ := ti_add (lo := 1) (hi := 20000) e_z_62 rfl (by decide : (1 : Int32).toInt = 1) b_y_42 (by decide : (1 : Int) ≤ (1 : Int32).toInt ∧ (1 : Int32).toInt ≤ 1) (by decide)
        refine lv_goto (tgt := 2) hx hb dX10_nextOf_24 (by decide) ?_
        exact ih_2_52 z_62 _ ⟨(show (0 : Int) ≤ z_62.toInt ∧ z_62.toInt ≤ 20000 from (rg_w b_z_62 (by decide) (by decide))), (show a2.toInt ≤ z_62.toInt from (by omega)), lv_sub hl [0, 1, 2, 3] rfl⟩ (show (20000 - z_62.toInt).toNat < (20000 - y_42.toInt).toNat by omega)
theorem dX10_lastOf_0 : decode cX10_lastOf 0 = .ok (.iload_n 2, 1) := by decide +kernel
theorem dX10_lastOf_1 : decode cX10_lastOf 1 = .ok (.istore_n 3, 1) := by decide +kernel
theorem dX10_lastOf_2 : decode cX10_lastOf 2 = .ok (.iload_n 3, 1) := by decide +kernel
theorem dX10_lastOf_3 : decode cX10_lastOf 3 = .ok (.ifCond .lt 18, 3) := by decide +kernel
theorem dX10_lastOf_6 : decode cX10_lastOf 6 = .ok (.aload_n 0, 1) := by decide +kernel
theorem dX10_lastOf_7 : decode cX10_lastOf 7 = .ok (.iload_n 1, 1) := by decide +kernel
theorem dX10_lastOf_8 : decode cX10_lastOf 8 = .ok (.iload_n 3, 1) := by decide +kernel
theorem dX10_lastOf_9 : decode cX10_lastOf 9 = .ok (.invokevirtual 316, 3) := by decide +kernel
theorem dX10_lastOf_12 : decode cX10_lastOf 12 = .ok (.ifCond .ne 9, 3) := by decide +kernel
theorem dX10_lastOf_15 : decode cX10_lastOf 15 = .ok (.iinc 3 (-1), 3) := by decide +kernel
theorem dX10_lastOf_18 : decode cX10_lastOf 18 = .ok (.goto (-16), 3) := by decide +kernel
theorem dX10_lastOf_21 : decode cX10_lastOf 21 = .ok (.iload_n 3, 1) := by decide +kernel
theorem dX10_lastOf_22 : decode cX10_lastOf 22 = .ok (.ireturn, 1) := by decide +kernel
def uX10_lastOf : List Cond := .code yX10_lastOf cX10_lastOf 4 (some .int) :: ([.methodLink RX10 316 yX10_isLucky, .instanceMethod yX10_isLucky, .selects RX10 yX10_isLucky yX10_isLucky, .initialized RX10, .code yX10_isLucky cX10_isLucky 3 (some .boolean), .fieldLink RX10 20 "LuckyTicketModel" "luck" "[I"] ++ wsX100)
theorem iX10_lastOf_X10 : ∀ w ∈ wsX100, w ∈ uX10_lastOf := fun _ h => List.mem_cons_of_mem _ (List.mem_append_right _ h)
set_option maxRecDepth 20000 in
theorem gX10_lastOf__X10_isLucky_V316 : GoodIn uX10_lastOf (wsV RX10 316 RX10 yX10_isLucky uX10_isLucky) := goodIn_p _ [5] rfl (by decide +kernel)
set_option maxHeartbeats 4000000 in
set_option maxRecDepth 100000 in
theorem kX10_lastOf (l : Launch) (dC : Nat → ClassId) (dI : Nat → Nat → Nat) (o0 : Nat) (x_th : Int32) (mwo : Nat) (mim : Nat) (mhi : Nat) (mlu : Nat) (mtp : Nat) (x_td : Int32) (mfv : Nat) (x_sz : Int32) (x_at : Int32) (x_fr : Int32) (x_to : Int32) (x_va : Int32) (x_fk : Int32) (x_fp : Int32) (mfr : Nat) (mwt : Nat) (x_wt : Int32) (x_op : Int32) (x_jo : Int32) (mfg : Nat) (mpl : Nat) (x_dr : Int64) (mtm : Nat) (mfa : Nat) (mqu : Nat) (mmo : Nat) (mwy : Nat) (mwn : Nat) (mma : Nat) (mwi : Nat) (mnu : Nat) (mmv : Nat) (c_wo : ClassId) (c_lu : ClassId) (w_wo : Nat → Int32) (w_lu : Nat → Int32) (ln : Int32) (bs : Int32) (tk : Int32) (lw : Int32) (li : Int32) (a1 : Int32) (a2 : Int32) (b_ln : (0 : Int) ≤ ln.toInt ∧ ln.toInt ≤ 12) (b_bs : (0 : Int) ≤ bs.toInt ∧ bs.toInt ≤ 16) (b_tk : (0 : Int) ≤ tk.toInt ∧ tk.toInt ≤ 20000) (b_lw : (0 : Int) ≤ lw.toInt ∧ lw.toInt ≤ 9) (b_a2 : (-1 : Int) ≤ a2.toInt ∧ a2.toInt ≤ 19999) (hw0 : w_wo 0 = ln) (hw1 : w_wo 1 = bs) (hw2 : w_wo 2 = tk) (hw3 : w_wo 3 = lw) (hw4 : w_wo 4 = li) (hwz : (ln.toInt = 0 ∧ bs.toInt = 0 ∧ tk.toInt = 0 ∧ lw.toInt = 0) ∨ (1 ≤ ln.toInt ∧ 2 ≤ bs.toInt ∧ 1 ≤ tk.toInt)) : Met l yX10_lastOf uX10_lastOf ({ frames := 1, cells := 0, slots := 0, locals := 22 }) (va_Pc [.ref o0, .int a1, .int a2] (pw (dC, dI) vwCl [(o0, .inr (8, [.int x_th, .ref mwo, .ref mim, .ref mhi, .ref mlu, .ref mtp, .int x_td, .ref mfv, .int x_sz, .int x_at, .int x_fr, .int x_to, .int x_va, .int x_fk, .int x_fp, .ref mfr, .ref mwt, .int x_wt, .int x_op, .int x_jo, .ref mfg, .ref mpl, .long x_dr, .ref mtm, .ref mfa, .ref mqu, .ref mmo, .ref mwy, .ref mwn, .ref mma, .ref mwi, .ref mnu, .ref mmv])), (mwo, .inl (c_wo, 1875, .inl w_wo)), (mlu, .inl (c_lu, 20000, .inl w_lu))] [(c_wo, .int), (c_lu, .int)])) (vp_Si (fun r => ((-1 : Int) ≤ r.toInt ∧ r.toInt ≤ 19999))) 0 0 (fun _ => False) := by
  refine Met.ofW (cc := cX10_lastOf) (maxL := 4) (ret := (some .int)) (by decide) rfl ?_
  intro p e s m args below meth c s₁ B hml hv
  obtain ⟨rfl, hP, hK, hN⟩ := hv
  have hx := B.exec
  have hb := B.bytes
  have hr := B.returns
  have hts := atoms_spec (ws := uX10_lastOf) B.pre
  have hown : s.vm.findClass RX10 = some m.cls := findClass_of_methodNamed B.named
  have hlocks := B.notSynchronized
  have hl := lv_entry ([.ref o0, .int a1, .int a2]) (n := 4) (Nat.le_of_ble_eq_true rfl)
  rw [lg_entry_eq]
  generalize (lg_sl ([.ref o0, .int a1, .int a2]) ++ List.replicate (4 - (lg_sl ([.ref o0, .int a1, .int a2])).length) Slot.unset).toArray = ls at hl ⊢
  have hl : lv_has ls 4 [(0, .ref o0), (1, .int a1), (2, .int a2)] := hl
  refine lv_iload_n hx hb dX10_lastOf_0 rfl (lv_at hl 2 rfl) ?_
  refine lv_istore_n (lv' := [(3, .int a2), (0, .ref o0), (1, .int a1), (2, .int a2)]) hx hb dX10_lastOf_1 rfl hl (by decide) rfl (fun ls hl => ?_)
  refine loopP (σ := Int32) (fun v => (v.toInt - (-1)).toNat) (fun v ls => ((-1 : Int) ≤ v.toInt ∧ v.toInt ≤ 19999) ∧ lv_has ls 4 [(3, .int v), (0, .ref o0), (1, .int a1), (2, .int a2)]) (fun v ls hI ih_2_22 => ?_) a2 ⟨(show (-1 : Int) ≤ a2.toInt ∧ a2.toInt ≤ 19999 from b_a2), lv_sub hl [0, 1, 2, 3] rfl⟩
  obtain ⟨y_18, rfl⟩ : ∃ z, z = v := ⟨_, rfl⟩
  obtain ⟨b_y_18, hl⟩ := hI
  have b_y_18 : (-1 : Int) ≤ y_18.toInt ∧ y_18.toInt ≤ 19999 := b_y_18
  have hl : lv_has ls 4 [(3, .int y_18), (0, .ref o0), (1, .int a1), (2, .int a2)] := hl
  refine lv_iload_n hx hb dX10_lastOf_2 rfl (lv_at hl 0 rfl) ?_
  refine lv_if_lt (tgt := 21) hx hb dX10_lastOf_3 (by decide) (fun c_23 => ?_) (fun c_23 => ?_)
  ·
    have n_c_23 : (y_18.toInt : Int) < 0 := c_lt rfl (by decide) c_23
    have b_y_18 : (-1 : Int) ≤ y_18.toInt ∧ y_18.toInt ≤ -1 := r_lt1 b_y_18 (by decide : (0 : Int) ≤ (0 : Int32).toInt ∧ (0 : Int32).toInt ≤ 0) n_c_23 (by decide)
    refine lv_iload_n hx hb dX10_lastOf_21 rfl (lv_at hl 0 rfl) ?_
    exact W.iret (v := y_18) hx hb hr (fun t ht hW => ⟨y_18, rfl, (rg_w b_y_18 (by decide) (by decide)), ht⟩) t_nil dX10_lastOf_22
  ·
    have n_c_23 : (0 : Int) ≤ y_18.toInt := c_nlt rfl (by decide) c_23
    have b_y_18 : (0 : Int) ≤ y_18.toInt ∧ y_18.toInt ≤ 19999 := r_le2 (by decide : (0 : Int) ≤ (0 : Int32).toInt ∧ (0 : Int32).toInt ≤ 0) b_y_18 n_c_23 (by decide)
    refine lv_aload_n hx hb dX10_lastOf_6 rfl (lv_at hl 1 rfl) ?_
    refine lv_iload_n hx hb dX10_lastOf_7 rfl (lv_at hl 2 rfl) ?_
    refine lv_iload_n hx hb dX10_lastOf_8 rfl (lv_at hl 0 rfl) ?_
    refine vp_callSi (W.runV (As := [.int a1, .int y_18]) (rest := []) ⟨hx, hb, hml, hown, hts⟩ (kX10_isLucky l dC dI o0 x_th mwo mim mhi mlu mtp x_td mfv x_sz x_at x_fr x_to x_va x_fk x_fp mfr mwt x_wt x_op x_jo mfg mpl x_dr mtm mfa mqu mmo mwy mwn mma mwi mnu mmv c_wo c_lu w_wo w_lu ln bs tk lw li a1 y_18 b_ln b_bs b_tk b_lw b_y_18 (hw0) (hw1) (hw2) (hw3) (hw4) (hwz)) (cwV 2 hts gX10_lastOf__X10_isLucky_V316 rfl rfl rfl (by decide +kernel) ⟨lel 1 1 rfl, lel 22 22 rfl⟩) ⟨pw_fb, va_recv hK hP (ci := 8) (q0 := 0) rfl rfl, (pw_use hP hK hN [0, 1, 2] rfl [0, 1] rfl)⟩ rfl rfl hl.1 rfl (lv_room (Nat.le_of_ble_eq_true rfl)) dX10_lastOf_9 ⟨lel 0 0 rfl, lel 0 0 rfl⟩) (fun r_24 h_r_24 => ?_)
    have b_r_24 := h_r_24
    have b_r_24 : (0 : Int) ≤ r_24.toInt ∧ r_24.toInt ≤ 1 := b_r_24
    refine lv_if_ne (tgt := 21) hx hb dX10_lastOf_12 (by decide) (fun c_25 => ?_) (fun c_25 => ?_)
    ·
      have n_c_25 : (r_24.toInt : Int) ≠ 0 := c_ne rfl (by decide) c_25
      have b_r_24 : (1 : Int) ≤ r_24.toInt ∧ r_24.toInt ≤ 1 := r_ne1 b_r_24 (by decide : (0 : Int) ≤ (0 : Int32).toInt ∧ (0 : Int32).toInt ≤ 0) n_c_25 (by decide)
      refine lv_iload_n hx hb dX10_lastOf_21 rfl (lv_at hl 0 rfl) ?_
      exact W.iret (v := y_18) hx hb hr (fun t ht hW => ⟨y_18, rfl, (rg_w b_y_18 (by decide) (by decide)), ht⟩) t_nil dX10_lastOf_22
    ·
      have n_c_25 : (r_24.toInt : Int) = 0 := c_eq rfl (by decide) c_25
      have b_r_24 : (0 : Int) ≤ r_24.toInt ∧ r_24.toInt ≤ 0 := r_eq1 b_r_24 (by decide : (0 : Int) ≤ (0 : Int32).toInt ∧ (0 : Int32).toInt ≤ 0) n_c_25 (by decide)
      obtain ⟨z_26, e_z_26⟩ : ∃ y : Int32, y = y_18 + (-1) := ⟨_, rfl⟩
      refine lv_iinc (v := z_26) (lv' := [(3, .int z_26), (0, .ref o0), (1, .int a1), (2, .int a2)]) hx hb dX10_lastOf_15 hl (k := 0) rfl (by rw [e_z_26]; rfl) (by decide) rfl (fun ls hl => ?_)
      obtain ⟨q_z_26, b_z_26⟩ := ti_add (lo := -1) (hi := 19998) e_z_26 rfl (by decide : ((-1) : Int32).toInt = -1) b_y_18 (by decide : (-1 : Int) ≤ ((-1) : Int32).toInt ∧ ((-1) : Int32).toInt ≤ -1) (by decide)
      refine lv_goto (tgt := 2) hx hb dX10_lastOf_18 (by decide) ?_
      exact ih_2_22 z_26 _ ⟨(show (-1 : Int) ≤ z_26.toInt ∧ z_26.toInt ≤ 19999 from (rg_w b_z_26 (by decide) (by decide))), lv_sub hl [0, 1, 2, 3] rfl⟩ (show (z_26.toInt - (-1)).toNat < (y_18.toInt - (-1)).toNat by omega)
theorem dX10_next_0 : decode cX10_next 0 = .ok (.aload_n 0, 1) := by decide +kernel
theorem dX10_next_1 : decode cX10_next 1 = .ok (.iload_n 1, 1) := by decide +kernel
theorem dX10_next_2 : decode cX10_next 2 = .ok (.iload_n 2, 1) := by decide +kernel
theorem dX10_next_3 : decode cX10_next 3 = .ok (.invokevirtual 313, 3) := by decide +kernel
theorem dX10_next_6 : decode cX10_next 6 = .ok (.ifCond .eq 14, 3) := by decide +kernel
theorem dX10_next_9 : decode cX10_next 9 = .ok (.aload_n 0, 1) := by decide +kernel
theorem dX10_next_10 : decode cX10_next 10 = .ok (.iload_n 1, 1) := by decide +kernel
theorem dX10_next_11 : decode cX10_next 11 = .ok (.iload_n 2, 1) := by decide +kernel
theorem dX10_next_12 : decode cX10_next 12 = .ok (.iconst 1, 1) := by decide +kernel
theorem dX10_next_13 : decode cX10_next 13 = .ok (.iadd, 1) := by decide +kernel
theorem dX10_next_14 : decode cX10_next 14 = .ok (.invokevirtual 325, 3) := by decide +kernel
theorem dX10_next_17 : decode cX10_next 17 = .ok (.goto 5, 3) := by decide +kernel
theorem dX10_next_20 : decode cX10_next 20 = .ok (.bipush (-2), 2) := by decide +kernel
theorem dX10_next_22 : decode cX10_next 22 = .ok (.ireturn, 1) := by decide +kernel
def uX10_next : List Cond := .code yX10_next cX10_next 3 (some .int) :: ([.methodLink RX10 313 yX10_isBoth, .instanceMethod yX10_isBoth, .selects RX10 yX10_isBoth yX10_isBoth, .initialized RX10, .code yX10_isBoth cX10_isBoth 3 (some .boolean), .methodLink RX10 89 yX10_isLaw, .instanceMethod yX10_isLaw, .selects RX10 yX10_isLaw yX10_isLaw, .code yX10_isLaw cX10_isLaw 2 (some .boolean), .fieldLink RX10 9 "LuckyTicketModel" "world" "[I", .methodLink RX10 82 yX10_in, .static yX10_in, .code yX10_in cX10_in 6 (some .boolean), .methodLink RX10 93 yX10_isTicket, .instanceMethod yX10_isTicket, .selects RX10 yX10_isTicket yX10_isTicket, .code yX10_isTicket cX10_isTicket 3 (some .boolean), .methodLink RX10 325 yX10_nextOf, .instanceMethod yX10_nextOf, .selects RX10 yX10_nextOf yX10_nextOf, .code yX10_nextOf cX10_nextOf 4 (some .int), .methodLink RX10 316 yX10_isLucky, .instanceMethod yX10_isLucky, .selects RX10 yX10_isLucky yX10_isLucky, .code yX10_isLucky cX10_isLucky 3 (some .boolean), .fieldLink RX10 20 "LuckyTicketModel" "luck" "[I"] ++ wsX100)
theorem iX10_next_X10 : ∀ w ∈ wsX100, w ∈ uX10_next := fun _ h => List.mem_cons_of_mem _ (List.mem_append_right _ h)
set_option maxRecDepth 20000 in
theorem gX10_next__X10_isBoth_V313 : GoodIn uX10_next (wsV RX10 313 RX10 yX10_isBoth uX10_isBoth) := goodIn_p _ [5, 9, 13, 17] rfl (by decide +kernel)
set_option maxRecDepth 20000 in
theorem gX10_next__X10_nextOf_V325 : GoodIn uX10_next (wsV RX10 325 RX10 yX10_nextOf uX10_nextOf) := goodIn_p _ [21, 25] rfl (by decide +kernel)
set_option maxHeartbeats 4000000 in
set_option maxRecDepth 100000 in
theorem kX10_next (l : Launch) (dC : Nat → ClassId) (dI : Nat → Nat → Nat) (o0 : Nat) (x_th : Int32) (mwo : Nat) (mim : Nat) (mhi : Nat) (mlu : Nat) (mtp : Nat) (x_td : Int32) (mfv : Nat) (x_sz : Int32) (x_at : Int32) (x_fr : Int32) (x_to : Int32) (x_va : Int32) (x_fk : Int32) (x_fp : Int32) (mfr : Nat) (mwt : Nat) (x_wt : Int32) (x_op : Int32) (x_jo : Int32) (mfg : Nat) (mpl : Nat) (x_dr : Int64) (mtm : Nat) (mfa : Nat) (mqu : Nat) (mmo : Nat) (mwy : Nat) (mwn : Nat) (mma : Nat) (mwi : Nat) (mnu : Nat) (mmv : Nat) (c_wo : ClassId) (c_lu : ClassId) (w_wo : Nat → Int32) (w_lu : Nat → Int32) (ln : Int32) (bs : Int32) (tk : Int32) (lw : Int32) (li : Int32) (a1 : Int32) (a2 : Int32) (b_ln : (0 : Int) ≤ ln.toInt ∧ ln.toInt ≤ 12) (b_bs : (0 : Int) ≤ bs.toInt ∧ bs.toInt ≤ 16) (b_tk : (0 : Int) ≤ tk.toInt ∧ tk.toInt ≤ 20000) (b_lw : (0 : Int) ≤ lw.toInt ∧ lw.toInt ≤ 9) (hw0 : w_wo 0 = ln) (hw1 : w_wo 1 = bs) (hw2 : w_wo 2 = tk) (hw3 : w_wo 3 = lw) (hw4 : w_wo 4 = li) (hwz : (ln.toInt = 0 ∧ bs.toInt = 0 ∧ tk.toInt = 0 ∧ lw.toInt = 0) ∨ (1 ≤ ln.toInt ∧ 2 ≤ bs.toInt ∧ 1 ≤ tk.toInt)) : Met l yX10_next uX10_next ({ frames := 3, cells := 0, slots := 0, locals := 69 }) (va_Pc [.ref o0, .int a1, .int a2] (pw (dC, dI) vwCl [(o0, .inr (8, [.int x_th, .ref mwo, .ref mim, .ref mhi, .ref mlu, .ref mtp, .int x_td, .ref mfv, .int x_sz, .int x_at, .int x_fr, .int x_to, .int x_va, .int x_fk, .int x_fp, .ref mfr, .ref mwt, .int x_wt, .int x_op, .int x_jo, .ref mfg, .ref mpl, .long x_dr, .ref mtm, .ref mfa, .ref mqu, .ref mmo, .ref mwy, .ref mwn, .ref mma, .ref mwi, .ref mnu, .ref mmv])), (mwo, .inl (c_wo, 1875, .inl w_wo)), (mlu, .inl (c_lu, 20000, .inl w_lu))] [(c_wo, .int), (c_lu, .int)])) (vp_Si (fun r => ((-2 : Int) ≤ r.toInt ∧ r.toInt ≤ 19999))) 0 0 (fun _ => False) := by
  refine Met.ofW (cc := cX10_next) (maxL := 3) (ret := (some .int)) (by decide) rfl ?_
  intro p e s m args below meth c s₁ B hml hv
  obtain ⟨rfl, hP, hK, hN⟩ := hv
  have hx := B.exec
  have hb := B.bytes
  have hr := B.returns
  have hts := atoms_spec (ws := uX10_next) B.pre
  have hown : s.vm.findClass RX10 = some m.cls := findClass_of_methodNamed B.named
  have hlocks := B.notSynchronized
  have hl := lv_entry ([.ref o0, .int a1, .int a2]) (n := 3) (Nat.le_of_ble_eq_true rfl)
  rw [lg_entry_eq]
  generalize (lg_sl ([.ref o0, .int a1, .int a2]) ++ List.replicate (3 - (lg_sl ([.ref o0, .int a1, .int a2])).length) Slot.unset).toArray = ls at hl ⊢
  have hl : lv_has ls 3 [(0, .ref o0), (1, .int a1), (2, .int a2)] := hl
  refine lv_aload_n hx hb dX10_next_0 rfl (lv_at hl 0 rfl) ?_
  refine lv_iload_n hx hb dX10_next_1 rfl (lv_at hl 1 rfl) ?_
  refine lv_iload_n hx hb dX10_next_2 rfl (lv_at hl 2 rfl) ?_
  refine vp_callSi (W.runV (As := [.int a1, .int a2]) (rest := []) ⟨hx, hb, hml, hown, hts⟩ (kX10_isBoth l dC dI o0 x_th mwo mim mhi mlu mtp x_td mfv x_sz x_at x_fr x_to x_va x_fk x_fp mfr mwt x_wt x_op x_jo mfg mpl x_dr mtm mfa mqu mmo mwy mwn mma mwi mnu mmv c_wo w_wo ln bs tk lw li a1 a2 b_ln b_bs b_tk b_lw (hw0) (hw1) (hw2) (hw3) (hw4) (hwz)) (cwV 2 hts gX10_next__X10_isBoth_V313 rfl rfl rfl (by decide +kernel) ⟨lel 3 3 rfl, lel 69 69 rfl⟩) ⟨pw_fb, va_recv hK hP (ci := 8) (q0 := 0) rfl rfl, (pw_use hP hK hN [0, 1] rfl [0] rfl)⟩ rfl rfl hl.1 rfl (lv_room (Nat.le_of_ble_eq_true rfl)) dX10_next_3 ⟨lel 0 0 rfl, lel 0 0 rfl⟩) (fun r_6 h_r_6 => ?_)
  obtain ⟨b_r_6, nz_r_6⟩ := h_r_6
  have b_r_6 : (0 : Int) ≤ r_6.toInt ∧ r_6.toInt ≤ 1 := b_r_6
  refine lv_if_eq (tgt := 20) hx hb dX10_next_6 (by decide) (fun c_7 => ?_) (fun c_7 => ?_)
  ·
    have n_c_7 : (r_6.toInt : Int) = 0 := c_eq rfl (by decide) c_7
    have b_r_6 : (0 : Int) ≤ r_6.toInt ∧ r_6.toInt ≤ 0 := r_eq1 b_r_6 (by decide : (0 : Int) ≤ (0 : Int32).toInt ∧ (0 : Int32).toInt ≤ 0) n_c_7 (by decide)
    refine lv_bipush (v := (-2)) hx hb dX10_next_20 (by decide) ?_
    exact W.iret (v := (-2)) hx hb hr (fun t ht hW => ⟨(-2), rfl, (rg_w (by decide : (-2 : Int) ≤ ((-2) : Int32).toInt ∧ ((-2) : Int32).toInt ≤ -2) (by decide) (by decide)), ht⟩) t_nil dX10_next_22
  ·
    have n_c_7 : (r_6.toInt : Int) ≠ 0 := c_ne rfl (by decide) c_7
    have b_r_6 : (1 : Int) ≤ r_6.toInt ∧ r_6.toInt ≤ 1 := r_ne1 b_r_6 (by decide : (0 : Int) ≤ (0 : Int32).toInt ∧ (0 : Int32).toInt ≤ 0) n_c_7 (by decide)
    obtain ⟨b_a1, b_a2, g_8⟩ := nz_r_6 c_7
    refine lv_aload_n hx hb dX10_next_9 rfl (lv_at hl 0 rfl) ?_
    refine lv_iload_n hx hb dX10_next_10 rfl (lv_at hl 1 rfl) ?_
    refine lv_iload_n hx hb dX10_next_11 rfl (lv_at hl 2 rfl) ?_
    refine lv_iconst (v := 1) hx hb dX10_next_12 (by decide) ?_
    refine lv_iadd hx hb dX10_next_13 ?_
    refine lv_topi (fun z_9 e_z_9 => ?_)
    obtain ⟨q_z_9, b_z_9⟩ := ti_add (lo := 1) (hi := 20000) e_z_9 rfl (by decide : (1 : Int32).toInt = 1) b_a2 (by decide : (1 : Int) ≤ (1 : Int32).toInt ∧ (1 : Int32).toInt ≤ 1) (by decide)
    refine vp_callSi (W.runV (As := [.int a1, .int z_9]) (rest := []) ⟨hx, hb, hml, hown, hts⟩ (kX10_nextOf l dC dI o0 x_th mwo mim mhi mlu mtp x_td mfv x_sz x_at x_fr x_to x_va x_fk x_fp mfr mwt x_wt x_op x_jo mfg mpl x_dr mtm mfa mqu mmo mwy mwn mma mwi mnu mmv c_wo c_lu w_wo w_lu ln bs tk lw li a1 z_9 b_ln b_bs b_tk b_lw (rg_w b_z_9 (by decide) (by decide)) (hw0) (hw1) (hw2) (hw3) (hw4) (hwz)) (cwV 2 hts gX10_next__X10_nextOf_V325 rfl rfl rfl (by decide +kernel) ⟨lel 2 3 rfl, lel 45 69 rfl⟩) ⟨pw_fb, va_recv hK hP (ci := 8) (q0 := 0) rfl rfl, (pw_use hP hK hN [0, 1, 2] rfl [0, 1] rfl)⟩ rfl rfl hl.1 rfl (lv_room (Nat.le_of_ble_eq_true rfl)) dX10_next_14 ⟨lel 0 0 rfl, lel 0 0 rfl⟩) (fun r_10 h_r_10 => ?_)
    obtain ⟨b_r_10, pr_r_10⟩ := h_r_10
    have b_r_10 : (-1 : Int) ≤ r_10.toInt ∧ r_10.toInt ≤ 19999 := b_r_10
    refine lv_goto (tgt := 22) hx hb dX10_next_17 (by decide) ?_
    exact W.iret (v := r_10) hx hb hr (fun t ht hW => ⟨r_10, rfl, (rg_w b_r_10 (by decide) (by decide)), ht⟩) t_nil dX10_next_22
theorem dX10_last_0 : decode cX10_last 0 = .ok (.aload_n 0, 1) := by decide +kernel
theorem dX10_last_1 : decode cX10_last 1 = .ok (.iload_n 1, 1) := by decide +kernel
theorem dX10_last_2 : decode cX10_last 2 = .ok (.iload_n 2, 1) := by decide +kernel
theorem dX10_last_3 : decode cX10_last 3 = .ok (.invokevirtual 313, 3) := by decide +kernel
theorem dX10_last_6 : decode cX10_last 6 = .ok (.ifCond .eq 14, 3) := by decide +kernel
theorem dX10_last_9 : decode cX10_last 9 = .ok (.aload_n 0, 1) := by decide +kernel
theorem dX10_last_10 : decode cX10_last 10 = .ok (.iload_n 1, 1) := by decide +kernel
theorem dX10_last_11 : decode cX10_last 11 = .ok (.iload_n 2, 1) := by decide +kernel
theorem dX10_last_12 : decode cX10_last 12 = .ok (.iconst 1, 1) := by decide +kernel
theorem dX10_last_13 : decode cX10_last 13 = .ok (.isub, 1) := by decide +kernel
theorem dX10_last_14 : decode cX10_last 14 = .ok (.invokevirtual 328, 3) := by decide +kernel
theorem dX10_last_17 : decode cX10_last 17 = .ok (.goto 5, 3) := by decide +kernel
theorem dX10_last_20 : decode cX10_last 20 = .ok (.bipush (-2), 2) := by decide +kernel
theorem dX10_last_22 : decode cX10_last 22 = .ok (.ireturn, 1) := by decide +kernel
def uX10_last : List Cond := .code yX10_last cX10_last 3 (some .int) :: ([.methodLink RX10 313 yX10_isBoth, .instanceMethod yX10_isBoth, .selects RX10 yX10_isBoth yX10_isBoth, .initialized RX10, .code yX10_isBoth cX10_isBoth 3 (some .boolean), .methodLink RX10 89 yX10_isLaw, .instanceMethod yX10_isLaw, .selects RX10 yX10_isLaw yX10_isLaw, .code yX10_isLaw cX10_isLaw 2 (some .boolean), .fieldLink RX10 9 "LuckyTicketModel" "world" "[I", .methodLink RX10 82 yX10_in, .static yX10_in, .code yX10_in cX10_in 6 (some .boolean), .methodLink RX10 93 yX10_isTicket, .instanceMethod yX10_isTicket, .selects RX10 yX10_isTicket yX10_isTicket, .code yX10_isTicket cX10_isTicket 3 (some .boolean), .methodLink RX10 328 yX10_lastOf, .instanceMethod yX10_lastOf, .selects RX10 yX10_lastOf yX10_lastOf, .code yX10_lastOf cX10_lastOf 4 (some .int), .methodLink RX10 316 yX10_isLucky, .instanceMethod yX10_isLucky, .selects RX10 yX10_isLucky yX10_isLucky, .code yX10_isLucky cX10_isLucky 3 (some .boolean), .fieldLink RX10 20 "LuckyTicketModel" "luck" "[I"] ++ wsX100)
theorem iX10_last_X10 : ∀ w ∈ wsX100, w ∈ uX10_last := fun _ h => List.mem_cons_of_mem _ (List.mem_append_right _ h)
set_option maxRecDepth 20000 in
theorem gX10_last__X10_isBoth_V313 : GoodIn uX10_last (wsV RX10 313 RX10 yX10_isBoth uX10_isBoth) := goodIn_p _ [5, 9, 13, 17] rfl (by decide +kernel)
set_option maxRecDepth 20000 in
theorem gX10_last__X10_lastOf_V328 : GoodIn uX10_last (wsV RX10 328 RX10 yX10_lastOf uX10_lastOf) := goodIn_p _ [21, 25] rfl (by decide +kernel)
set_option maxHeartbeats 4000000 in
set_option maxRecDepth 100000 in
theorem kX10_last (l : Launch) (dC : Nat → ClassId) (dI : Nat → Nat → Nat) (o0 : Nat) (x_th : Int32) (mwo : Nat) (mim : Nat) (mhi : Nat) (mlu : Nat) (mtp : Nat) (x_td : Int32) (mfv : Nat) (x_sz : Int32) (x_at : Int32) (x_fr : Int32) (x_to : Int32) (x_va : Int32) (x_fk : Int32) (x_fp : Int32) (mfr : Nat) (mwt : Nat) (x_wt : Int32) (x_op : Int32) (x_jo : Int32) (mfg : Nat) (mpl : Nat) (x_dr : Int64) (mtm : Nat) (mfa : Nat) (mqu : Nat) (mmo : Nat) (mwy : Nat) (mwn : Nat) (mma : Nat) (mwi : Nat) (mnu : Nat) (mmv : Nat) (c_wo : ClassId) (c_lu : ClassId) (w_wo : Nat → Int32) (w_lu : Nat → Int32) (ln : Int32) (bs : Int32) (tk : Int32) (lw : Int32) (li : Int32) (a1 : Int32) (a2 : Int32) (b_ln : (0 : Int) ≤ ln.toInt ∧ ln.toInt ≤ 12) (b_bs : (0 : Int) ≤ bs.toInt ∧ bs.toInt ≤ 16) (b_tk : (0 : Int) ≤ tk.toInt ∧ tk.toInt ≤ 20000) (b_lw : (0 : Int) ≤ lw.toInt ∧ lw.toInt ≤ 9) (hw0 : w_wo 0 = ln) (hw1 : w_wo 1 = bs) (hw2 : w_wo 2 = tk) (hw3 : w_wo 3 = lw) (hw4 : w_wo 4 = li) (hwz : (ln.toInt = 0 ∧ bs.toInt = 0 ∧ tk.toInt = 0 ∧ lw.toInt = 0) ∨ (1 ≤ ln.toInt ∧ 2 ≤ bs.toInt ∧ 1 ≤ tk.toInt)) : Met l yX10_last uX10_last ({ frames := 3, cells := 0, slots := 0, locals := 69 }) (va_Pc [.ref o0, .int a1, .int a2] (pw (dC, dI) vwCl [(o0, .inr (8, [.int x_th, .ref mwo, .ref mim, .ref mhi, .ref mlu, .ref mtp, .int x_td, .ref mfv, .int x_sz, .int x_at, .int x_fr, .int x_to, .int x_va, .int x_fk, .int x_fp, .ref mfr, .ref mwt, .int x_wt, .int x_op, .int x_jo, .ref mfg, .ref mpl, .long x_dr, .ref mtm, .ref mfa, .ref mqu, .ref mmo, .ref mwy, .ref mwn, .ref mma, .ref mwi, .ref mnu, .ref mmv])), (mwo, .inl (c_wo, 1875, .inl w_wo)), (mlu, .inl (c_lu, 20000, .inl w_lu))] [(c_wo, .int), (c_lu, .int)])) (vp_Si (fun r => ((-2 : Int) ≤ r.toInt ∧ r.toInt ≤ 19999))) 0 0 (fun _ => False) := by
  refine Met.ofW (cc := cX10_last) (maxL := 3) (ret := (some .int)) (by decide) rfl ?_
  intro p e s m args below meth c s₁ B hml hv
  obtain ⟨rfl, hP, hK, hN⟩ := hv
  have hx := B.exec
  have hb := B.bytes
  have hr := B.returns
  have hts := atoms_spec (ws := uX10_last) B.pre
  have hown : s.vm.findClass RX10 = some m.cls := findClass_of_methodNamed B.named
  have hlocks := B.notSynchronized
  have hl := lv_entry ([.ref o0, .int a1, .int a2]) (n := 3) (Nat.le_of_ble_eq_true rfl)
  rw [lg_entry_eq]
  generalize (lg_sl ([.ref o0, .int a1, .int a2]) ++ List.replicate (3 - (lg_sl ([.ref o0, .int a1, .int a2])).length) Slot.unset).toArray = ls at hl ⊢
  have hl : lv_has ls 3 [(0, .ref o0), (1, .int a1), (2, .int a2)] := hl
  refine lv_aload_n hx hb dX10_last_0 rfl (lv_at hl 0 rfl) ?_
  refine lv_iload_n hx hb dX10_last_1 rfl (lv_at hl 1 rfl) ?_
  refine lv_iload_n hx hb dX10_last_2 rfl (lv_at hl 2 rfl) ?_
  refine vp_callSi (W.runV (As := [.int a1, .int a2]) (rest := []) ⟨hx, hb, hml, hown, hts⟩ (kX10_isBoth l dC dI o0 x_th mwo mim mhi mlu mtp x_td mfv x_sz x_at x_fr x_to x_va x_fk x_fp mfr mwt x_wt x_op x_jo mfg mpl x_dr mtm mfa mqu mmo mwy mwn mma mwi mnu mmv c_wo w_wo ln bs tk lw li a1 a2 b_ln b_bs b_tk b_lw (hw0) (hw1) (hw2) (hw3) (hw4) (hwz)) (cwV 2 hts gX10_last__X10_isBoth_V313 rfl rfl rfl (by decide +kernel) ⟨lel 3 3 rfl, lel 69 69 rfl⟩) ⟨pw_fb, va_recv hK hP (ci := 8) (q0 := 0) rfl rfl, (pw_use hP hK hN [0, 1] rfl [0] rfl)⟩ rfl rfl hl.1 rfl (lv_room (Nat.le_of_ble_eq_true rfl)) dX10_last_3 ⟨lel 0 0 rfl, lel 0 0 rfl⟩) (fun r_6 h_r_6 => ?_)
  obtain ⟨b_r_6, nz_r_6⟩ := h_r_6
  have b_r_6 : (0 : Int) ≤ r_6.toInt ∧ r_6.toInt ≤ 1 := b_r_6
  refine lv_if_eq (tgt := 20) hx hb dX10_last_6 (by decide) (fun c_7 => ?_) (fun c_7 => ?_)
  ·
    have n_c_7 : (r_6.toInt : Int) = 0 := c_eq rfl (by decide) c_7
    have b_r_6 : (0 : Int) ≤ r_6.toInt ∧ r_6.toInt ≤ 0 := r_eq1 b_r_6 (by decide : (0 : Int) ≤ (0 : Int32).toInt ∧ (0 : Int32).toInt ≤ 0) n_c_7 (by decide)
    refine lv_bipush (v := (-2)) hx hb dX10_last_20 (by decide) ?_
    exact W.iret (v := (-2)) hx hb hr (fun t ht hW => ⟨(-2), rfl, (rg_w (by decide : (-2 : Int) ≤ ((-2) : Int32).toInt ∧ ((-2) : Int32).toInt ≤ -2) (by decide) (by decide)), ht⟩) t_nil dX10_last_22
  ·
    have n_c_7 : (r_6.toInt : Int) ≠ 0 := c_ne rfl (by decide) c_7
    have b_r_6 : (1 : Int) ≤ r_6.toInt ∧ r_6.toInt ≤ 1 := r_ne1 b_r_6 (by decide : (0 : Int) ≤ (0 : Int32).toInt ∧ (0 : Int32).toInt ≤ 0) n_c_7 (by decide)
    obtain ⟨b_a1, b_a2, g_8⟩ := nz_r_6 c_7
    refine lv_aload_n hx hb dX10_last_9 rfl (lv_at hl 0 rfl) ?_
    refine lv_iload_n hx hb dX10_last_10 rfl (lv_at hl 1 rfl) ?_
    refine lv_iload_n hx hb dX10_last_11 rfl (lv_at hl 2 rfl) ?_
    refine lv_iconst (v := 1) hx hb dX10_last_12 (by decide) ?_
    refine lv_isub hx hb dX10_last_13 ?_
    refine lv_topi (fun z_9 e_z_9 => ?_)
    obtain ⟨q_z_9, b_z_9⟩ := ti_sub (lo := -1) (hi := 19998) e_z_9 rfl (by decide : (1 : Int32).toInt = 1) b_a2 (by decide : (1 : Int) ≤ (1 : Int32).toInt ∧ (1 : Int32).toInt ≤ 1) (by decide)
    refine vp_callSi (W.runV (As := [.int a1, .int z_9]) (rest := []) ⟨hx, hb, hml, hown, hts⟩ (kX10_lastOf l dC dI o0 x_th mwo mim mhi mlu mtp x_td mfv x_sz x_at x_fr x_to x_va x_fk x_fp mfr mwt x_wt x_op x_jo mfg mpl x_dr mtm mfa mqu mmo mwy mwn mma mwi mnu mmv c_wo c_lu w_wo w_lu ln bs tk lw li a1 z_9 b_ln b_bs b_tk b_lw (rg_w b_z_9 (by decide) (by decide)) (hw0) (hw1) (hw2) (hw3) (hw4) (hwz)) (cwV 2 hts gX10_last__X10_lastOf_V328 rfl rfl rfl (by decide +kernel) ⟨lel 2 3 rfl, lel 45 69 rfl⟩) ⟨pw_fb, va_recv hK hP (ci := 8) (q0 := 0) rfl rfl, (pw_use hP hK hN [0, 1, 2] rfl [0, 1] rfl)⟩ rfl rfl hl.1 rfl (lv_room (Nat.le_of_ble_eq_true rfl)) dX10_last_14 ⟨lel 0 0 rfl, lel 0 0 rfl⟩) (fun r_10 h_r_10 => ?_)
    have b_r_10 := h_r_10
    have b_r_10 : (-1 : Int) ≤ r_10.toInt ∧ r_10.toInt ≤ 19999 := b_r_10
    refine lv_goto (tgt := 22) hx hb dX10_last_17 (by decide) ?_
    exact W.iret (v := r_10) hx hb hr (fun t ht hW => ⟨r_10, rfl, (rg_w b_r_10 (by decide) (by decide)), ht⟩) t_nil dX10_last_22
theorem dX10_nthOf_0 : decode cX10_nthOf 0 = .ok (.iconst 0, 1) := by decide +kernel
theorem dX10_nthOf_1 : decode cX10_nthOf 1 = .ok (.istore_n 3, 1) := by decide +kernel
theorem dX10_nthOf_2 : decode cX10_nthOf 2 = .ok (.iconst 0, 1) := by decide +kernel
theorem dX10_nthOf_3 : decode cX10_nthOf 3 = .ok (.istore 4, 2) := by decide +kernel
theorem dX10_nthOf_5 : decode cX10_nthOf 5 = .ok (.iload 4, 2) := by decide +kernel
theorem dX10_nthOf_7 : decode cX10_nthOf 7 = .ok (.aload_n 0, 1) := by decide +kernel
theorem dX10_nthOf_8 : decode cX10_nthOf 8 = .ok (.getfield 9, 3) := by decide +kernel
theorem dX10_nthOf_11 : decode cX10_nthOf 11 = .ok (.iconst 2, 1) := by decide +kernel
theorem dX10_nthOf_12 : decode cX10_nthOf 12 = .ok (.iaload, 1) := by decide +kernel
theorem dX10_nthOf_13 : decode cX10_nthOf 13 = .ok (.if_icmp .ge 33, 3) := by decide +kernel
theorem dX10_nthOf_16 : decode cX10_nthOf 16 = .ok (.aload_n 0, 1) := by decide +kernel
theorem dX10_nthOf_17 : decode cX10_nthOf 17 = .ok (.iload_n 1, 1) := by decide +kernel
theorem dX10_nthOf_18 : decode cX10_nthOf 18 = .ok (.iload 4, 2) := by decide +kernel
theorem dX10_nthOf_20 : decode cX10_nthOf 20 = .ok (.invokevirtual 316, 3) := by decide +kernel
theorem dX10_nthOf_23 : decode cX10_nthOf 23 = .ok (.ifCond .ne 6, 3) := by decide +kernel
theorem dX10_nthOf_26 : decode cX10_nthOf 26 = .ok (.goto 14, 3) := by decide +kernel
theorem dX10_nthOf_29 : decode cX10_nthOf 29 = .ok (.iload_n 3, 1) := by decide +kernel
theorem dX10_nthOf_30 : decode cX10_nthOf 30 = .ok (.iload_n 2, 1) := by decide +kernel
theorem dX10_nthOf_31 : decode cX10_nthOf 31 = .ok (.if_icmp .ne 6, 3) := by decide +kernel
theorem dX10_nthOf_34 : decode cX10_nthOf 34 = .ok (.iload 4, 2) := by decide +kernel
theorem dX10_nthOf_36 : decode cX10_nthOf 36 = .ok (.ireturn, 1) := by decide +kernel
theorem dX10_nthOf_37 : decode cX10_nthOf 37 = .ok (.iinc 3 1, 3) := by decide +kernel
theorem dX10_nthOf_40 : decode cX10_nthOf 40 = .ok (.iinc 4 1, 3) := by decide +kernel
theorem dX10_nthOf_43 : decode cX10_nthOf 43 = .ok (.goto (-38), 3) := by decide +kernel
theorem dX10_nthOf_46 : decode cX10_nthOf 46 = .ok (.iconst (-1), 1) := by decide +kernel
theorem dX10_nthOf_47 : decode cX10_nthOf 47 = .ok (.ireturn, 1) := by decide +kernel
def uX10_nthOf : List Cond := .code yX10_nthOf cX10_nthOf 5 (some .int) :: ([.fieldLink RX10 9 "LuckyTicketModel" "world" "[I", .methodLink RX10 316 yX10_isLucky, .instanceMethod yX10_isLucky, .selects RX10 yX10_isLucky yX10_isLucky, .initialized RX10, .code yX10_isLucky cX10_isLucky 3 (some .boolean), .fieldLink RX10 20 "LuckyTicketModel" "luck" "[I"] ++ wsX100)
theorem iX10_nthOf_X10 : ∀ w ∈ wsX100, w ∈ uX10_nthOf := fun _ h => List.mem_cons_of_mem _ (List.mem_append_right _ h)
set_option maxRecDepth 20000 in
theorem gX10_nthOf__X10_isLucky_V316 : GoodIn uX10_nthOf (wsV RX10 316 RX10 yX10_isLucky uX10_isLucky) := goodIn_p _ [6] rfl (by decide +kernel)
set_option maxHeartbeats 4000000 in
set_option maxRecDepth 100000 in
theorem kX10_nthOf (l : Launch) (dC : Nat → ClassId) (dI : Nat → Nat → Nat) (o0 : Nat) (x_th : Int32) (mwo : Nat) (mim : Nat) (mhi : Nat) (mlu : Nat) (mtp : Nat) (x_td : Int32) (mfv : Nat) (x_sz : Int32) (x_at : Int32) (x_fr : Int32) (x_to : Int32) (x_va : Int32) (x_fk : Int32) (x_fp : Int32) (mfr : Nat) (mwt : Nat) (x_wt : Int32) (x_op : Int32) (x_jo : Int32) (mfg : Nat) (mpl : Nat) (x_dr : Int64) (mtm : Nat) (mfa : Nat) (mqu : Nat) (mmo : Nat) (mwy : Nat) (mwn : Nat) (mma : Nat) (mwi : Nat) (mnu : Nat) (mmv : Nat) (c_wo : ClassId) (c_lu : ClassId) (w_wo : Nat → Int32) (w_lu : Nat → Int32) (ln : Int32) (bs : Int32) (tk : Int32) (lw : Int32) (li : Int32) (a1 : Int32) (a2 : Int32) (b_ln : (0 : Int) ≤ ln.toInt ∧ ln.toInt ≤ 12) (b_bs : (0 : Int) ≤ bs.toInt ∧ bs.toInt ≤ 16) (b_tk : (0 : Int) ≤ tk.toInt ∧ tk.toInt ≤ 20000) (b_lw : (0 : Int) ≤ lw.toInt ∧ lw.toInt ≤ 9) (hw0 : w_wo 0 = ln) (hw1 : w_wo 1 = bs) (hw2 : w_wo 2 = tk) (hw3 : w_wo 3 = lw) (hw4 : w_wo 4 = li) (hwz : (ln.toInt = 0 ∧ bs.toInt = 0 ∧ tk.toInt = 0 ∧ lw.toInt = 0) ∨ (1 ≤ ln.toInt ∧ 2 ≤ bs.toInt ∧ 1 ≤ tk.toInt)) : Met l yX10_nthOf uX10_nthOf ({ frames := 1, cells := 0, slots := 0, locals := 22 }) (va_Pc [.ref o0, .int a1, .int a2] (pw (dC, dI) vwCl [(o0, .inr (8, [.int x_th, .ref mwo, .ref mim, .ref mhi, .ref mlu, .ref mtp, .int x_td, .ref mfv, .int x_sz, .int x_at, .int x_fr, .int x_to, .int x_va, .int x_fk, .int x_fp, .ref mfr, .ref mwt, .int x_wt, .int x_op, .int x_jo, .ref mfg, .ref mpl, .long x_dr, .ref mtm, .ref mfa, .ref mqu, .ref mmo, .ref mwy, .ref mwn, .ref mma, .ref mwi, .ref mnu, .ref mmv])), (mwo, .inl (c_wo, 1875, .inl w_wo)), (mlu, .inl (c_lu, 20000, .inl w_lu))] [(c_wo, .int), (c_lu, .int)])) (vp_Si (fun r => ((-1 : Int) ≤ r.toInt ∧ r.toInt ≤ 19999))) 0 0 (fun _ => False) := by
  refine Met.ofW (cc := cX10_nthOf) (maxL := 5) (ret := (some .int)) (by decide) rfl ?_
  intro p e s m args below meth c s₁ B hml hv
  obtain ⟨rfl, hP, hK, hN⟩ := hv
  have hx := B.exec
  have hb := B.bytes
  have hr := B.returns
  have hts := atoms_spec (ws := uX10_nthOf) B.pre
  have hown : s.vm.findClass RX10 = some m.cls := findClass_of_methodNamed B.named
  have hlocks := B.notSynchronized
  have hl := lv_entry ([.ref o0, .int a1, .int a2]) (n := 5) (Nat.le_of_ble_eq_true rfl)
  rw [lg_entry_eq]
  generalize (lg_sl ([.ref o0, .int a1, .int a2]) ++ List.replicate (5 - (lg_sl ([.ref o0, .int a1, .int a2])).length) Slot.unset).toArray = ls at hl ⊢
  have hl : lv_has ls 5 [(0, .ref o0), (1, .int a1), (2, .int a2)] := hl
  refine lv_iconst (v := 0) hx hb dX10_nthOf_0 (by decide) ?_
  refine lv_istore_n (lv' := [(3, .int 0), (0, .ref o0), (1, .int a1), (2, .int a2)]) hx hb dX10_nthOf_1 rfl hl (by decide) rfl (fun ls hl => ?_)
  refine lv_iconst (v := 0) hx hb dX10_nthOf_2 (by decide) ?_
  refine lv_istore (lv' := [(4, .int 0), (3, .int 0), (0, .ref o0), (1, .int a1), (2, .int a2)]) hx hb dX10_nthOf_3 hl (by decide) rfl (fun ls hl => ?_)
  refine loopP (σ := Int32 × Int32) (fun v => (20000 - v.1.toInt).toNat) (fun v ls => ((0 : Int) ≤ v.1.toInt ∧ v.1.toInt ≤ 20000) ∧ lv_has ls 5 [(4, .int v.1), (3, .int v.2), (0, .ref o0), (1, .int a1), (2, .int a2)]) (fun v ls hI ih_5_268 => ?_) ((0 : Int32), (0 : Int32)) ⟨(show (0 : Int) ≤ (0 : Int32).toInt ∧ (0 : Int32).toInt ≤ 20000 from (rg_w (by decide : (0 : Int) ≤ (0 : Int32).toInt ∧ (0 : Int32).toInt ≤ 0) (by decide) (by decide))), lv_sub hl [0, 1, 2, 3, 4] rfl⟩
  obtain ⟨y_147, y_148⟩ := v
  obtain ⟨b_y_147, hl⟩ := hI
  have b_y_147 : (0 : Int) ≤ y_147.toInt ∧ y_147.toInt ≤ 20000 := b_y_147
  have hl : lv_has ls 5 [(4, .int y_147), (3, .int y_148), (0, .ref o0), (1, .int a1), (2, .int a2)] := hl
  refine lv_iload hx hb dX10_nthOf_5 (lv_at hl 0 rfl) ?_
  refine lv_aload_n hx hb dX10_nthOf_7 rfl (lv_at hl 2 rfl) ?_
  refine va_get (D := (dC, dI)) (ci := 8) (v := .ref mwo) (C := RX10) (T := TX10) (N := 33) hx hb hts iX10_nthOf_X10 hown hK hP 0 rfl rfl 1 (by decide) (hts (.fieldLink RX10 9 "LuckyTicketModel" "world" "[I") (List.mem_of_getElem? (i := 1) rfl)) (fun _ h9 => h9) rfl dX10_nthOf_8 ?_
  refine lv_iconst (v := 2) hx hb dX10_nthOf_11 (by decide) ?_
  refine va_iald hx hb hK hP 1 0 rfl rfl (vp_in_b (by decide : (2 : Int) ≤ (2 : Int32).toInt ∧ (2 : Int32).toInt ≤ 2) (by decide) (by decide)) dX10_nthOf_12 ?_
  refine lv_topi (fun z_269 e_z_269 => ?_)
  obtain rfl : z_269 = tk := e_z_269.trans hw2
  refine lv_icmp_ge (tgt := 46) hx hb dX10_nthOf_13 (by decide) (fun c_270 => ?_) (fun c_270 => ?_)
  ·
    have n_c_270 : (tk.toInt : Int) ≤ y_147.toInt := c_ge rfl rfl c_270
    refine lv_iconst (v := (-1)) hx hb dX10_nthOf_46 (by decide) ?_
    exact W.iret (v := (-1)) hx hb hr (fun t ht hW => ⟨(-1), rfl, (rg_w (by decide : (-1 : Int) ≤ ((-1) : Int32).toInt ∧ ((-1) : Int32).toInt ≤ -1) (by decide) (by decide)), ht⟩) t_nil dX10_nthOf_47
  ·
    have n_c_270 : (y_147.toInt : Int) < tk.toInt := c_nge rfl rfl c_270
    have b_y_147 : (0 : Int) ≤ y_147.toInt ∧ y_147.toInt ≤ 19999 := r_lt1 b_y_147 b_tk n_c_270 (by decide)
    have b_tk : (1 : Int) ≤ tk.toInt ∧ tk.toInt ≤ 20000 := r_lt2 b_y_147 b_tk n_c_270 (by decide)
    refine lv_aload_n hx hb dX10_nthOf_16 rfl (lv_at hl 2 rfl) ?_
    refine lv_iload_n hx hb dX10_nthOf_17 rfl (lv_at hl 3 rfl) ?_
    refine lv_iload hx hb dX10_nthOf_18 (lv_at hl 0 rfl) ?_
    refine vp_callSi (W.runV (As := [.int a1, .int y_147]) (rest := []) ⟨hx, hb, hml, hown, hts⟩ (kX10_isLucky l dC dI o0 x_th mwo mim mhi mlu mtp x_td mfv x_sz x_at x_fr x_to x_va x_fk x_fp mfr mwt x_wt x_op x_jo mfg mpl x_dr mtm mfa mqu mmo mwy mwn mma mwi mnu mmv c_wo c_lu w_wo w_lu ln bs tk lw li a1 y_147 b_ln b_bs (rg_w b_tk (by decide) (by decide)) b_lw b_y_147 (hw0) (hw1) (hw2) (hw3) (hw4) (hwz)) (cwV 2 hts gX10_nthOf__X10_isLucky_V316 rfl rfl rfl (by decide +kernel) ⟨lel 1 1 rfl, lel 22 22 rfl⟩) ⟨pw_fb, va_recv hK hP (ci := 8) (q0 := 0) rfl rfl, (pw_use hP hK hN [0, 1, 2] rfl [0, 1] rfl)⟩ rfl rfl hl.1 rfl (lv_room (Nat.le_of_ble_eq_true rfl)) dX10_nthOf_20 ⟨lel 0 0 rfl, lel 0 0 rfl⟩) (fun r_271 h_r_271 => ?_)
    have b_r_271 := h_r_271
    have b_r_271 : (0 : Int) ≤ r_271.toInt ∧ r_271.toInt ≤ 1 := b_r_271
    refine lv_if_ne (tgt := 29) hx hb dX10_nthOf_23 (by decide) (fun c_272 => ?_) (fun c_272 => ?_)
    ·
      have n_c_272 : (r_271.toInt : Int) ≠ 0 := c_ne rfl (by decide) c_272
      have b_r_271 : (1 : Int) ≤ r_271.toInt ∧ r_271.toInt ≤ 1 := r_ne1 b_r_271 (by decide : (0 : Int) ≤ (0 : Int32).toInt ∧ (0 : Int32).toInt ≤ 0) n_c_272 (by decide)
      refine lv_iload_n hx hb dX10_nthOf_29 rfl (lv_at hl 1 rfl) ?_
      refine lv_iload_n hx hb dX10_nthOf_30 rfl (lv_at hl 4 rfl) ?_
      refine lv_icmp_ne (tgt := 37) hx hb dX10_nthOf_31 (by decide) (fun c_273 => ?_) (fun c_273 => ?_)
      ·
        have n_c_273 : (y_148.toInt : Int) ≠ a2.toInt := c_ne rfl rfl c_273
        obtain ⟨z_274, e_z_274⟩ : ∃ y : Int32, y = y_148 + 1 := ⟨_, rfl⟩
        refine lv_iinc (v := z_274) (lv' := [(3, .int z_274), (4, .int y_147), (0, .ref o0), (1, .int a1), (2, .int a2)]) hx hb dX10_nthOf_37 hl (k := 1) rfl (by rw [e_z_274]; rfl) (by decide) rfl (fun ls hl => ?_)
        obtain ⟨z_275, e_z_275⟩ : ∃ y : Int32, y = y_147 + 1 := ⟨_, rfl⟩
        refine lv_iinc (v := z_275) (lv' := [(4, .int z_275), (3, .int z_274), (0, .ref o0), (1, .int a1), (2, .int a2)]) hx hb dX10_nthOf_40 hl (k := 1) rfl (by rw [e_z_275]; rfl) (by decide) rfl (fun ls hl => ?_)
        obtain ⟨q_z_275, b_z_275⟩ := ti_add (lo := 1) (hi := 20000) e_z_275 rfl (by decide : (1 : Int32).toInt = 1) b_y_147 (by decide : (1 : Int) ≤ (1 : Int32).toInt ∧ (1 : Int32).toInt ≤ 1) (by decide)
        refine lv_goto (tgt := 5) hx hb dX10_nthOf_43 (by decide) ?_
        exact ih_5_268 (z_275, z_274) _ ⟨(show (0 : Int) ≤ z_275.toInt ∧ z_275.toInt ≤ 20000 from (rg_w b_z_275 (by decide) (by decide))), lv_sub hl [0, 1, 2, 3, 4] rfl⟩ (show (20000 - z_275.toInt).toNat < (20000 - y_147.toInt).toNat by omega)
      ·
        have n_c_273 : (y_148.toInt : Int) = a2.toInt := c_eq rfl rfl c_273
        refine lv_iload hx hb dX10_nthOf_34 (lv_at hl 0 rfl) ?_
        exact W.iret (v := y_147) hx hb hr (fun t ht hW => ⟨y_147, rfl, (rg_w b_y_147 (by decide) (by decide)), ht⟩) t_nil dX10_nthOf_36
    ·
      have n_c_272 : (r_271.toInt : Int) = 0 := c_eq rfl (by decide) c_272
      have b_r_271 : (0 : Int) ≤ r_271.toInt ∧ r_271.toInt ≤ 0 := r_eq1 b_r_271 (by decide : (0 : Int) ≤ (0 : Int32).toInt ∧ (0 : Int32).toInt ≤ 0) n_c_272 (by decide)
      refine lv_goto (tgt := 40) hx hb dX10_nthOf_26 (by decide) ?_
      obtain ⟨z_276, e_z_276⟩ : ∃ y : Int32, y = y_147 + 1 := ⟨_, rfl⟩
      refine lv_iinc (v := z_276) (lv' := [(4, .int z_276), (3, .int y_148), (0, .ref o0), (1, .int a1), (2, .int a2)]) hx hb dX10_nthOf_40 hl (k := 0) rfl (by rw [e_z_276]; rfl) (by decide) rfl (fun ls hl => ?_)
      obtain ⟨q_z_276, b_z_276⟩ := ti_add (lo := 1) (hi := 20000) e_z_276 rfl (by decide : (1 : Int32).toInt = 1) b_y_147 (by decide : (1 : Int) ≤ (1 : Int32).toInt ∧ (1 : Int32).toInt ≤ 1) (by decide)
      refine lv_goto (tgt := 5) hx hb dX10_nthOf_43 (by decide) ?_
      exact ih_5_268 (z_276, y_148) _ ⟨(show (0 : Int) ≤ z_276.toInt ∧ z_276.toInt ≤ 20000 from (rg_w b_z_276 (by decide) (by decide))), lv_sub hl [0, 1, 2, 3, 4] rfl⟩ (show (20000 - z_276.toInt).toNat < (20000 - y_147.toInt).toNat by omega)
theorem dX10_nth_0 : decode cX10_nth 0 = .ok (.aload_n 0, 1) := by decide +kernel
theorem dX10_nth_1 : decode cX10_nth 1 = .ok (.iload_n 1, 1) := by decide +kernel
theorem dX10_nth_2 : decode cX10_nth 2 = .ok (.invokevirtual 89, 3) := by decide +kernel
theorem dX10_nth_5 : decode cX10_nth 5 = .ok (.ifCond .eq 12, 3) := by decide +kernel
theorem dX10_nth_8 : decode cX10_nth 8 = .ok (.aload_n 0, 1) := by decide +kernel
theorem dX10_nth_9 : decode cX10_nth 9 = .ok (.iload_n 1, 1) := by decide +kernel
theorem dX10_nth_10 : decode cX10_nth 10 = .ok (.iload_n 2, 1) := by decide +kernel
theorem dX10_nth_11 : decode cX10_nth 11 = .ok (.invokevirtual 331, 3) := by decide +kernel
theorem dX10_nth_14 : decode cX10_nth 14 = .ok (.goto 5, 3) := by decide +kernel
theorem dX10_nth_17 : decode cX10_nth 17 = .ok (.bipush (-2), 2) := by decide +kernel
theorem dX10_nth_19 : decode cX10_nth 19 = .ok (.ireturn, 1) := by decide +kernel
def uX10_nth : List Cond := .code yX10_nth cX10_nth 3 (some .int) :: ([.methodLink RX10 89 yX10_isLaw, .instanceMethod yX10_isLaw, .selects RX10 yX10_isLaw yX10_isLaw, .initialized RX10, .code yX10_isLaw cX10_isLaw 2 (some .boolean), .fieldLink RX10 9 "LuckyTicketModel" "world" "[I", .methodLink RX10 82 yX10_in, .static yX10_in, .code yX10_in cX10_in 6 (some .boolean), .methodLink RX10 331 yX10_nthOf, .instanceMethod yX10_nthOf, .selects RX10 yX10_nthOf yX10_nthOf, .code yX10_nthOf cX10_nthOf 5 (some .int), .methodLink RX10 316 yX10_isLucky, .instanceMethod yX10_isLucky, .selects RX10 yX10_isLucky yX10_isLucky, .code yX10_isLucky cX10_isLucky 3 (some .boolean), .fieldLink RX10 20 "LuckyTicketModel" "luck" "[I"] ++ wsX100)
theorem iX10_nth_X10 : ∀ w ∈ wsX100, w ∈ uX10_nth := fun _ h => List.mem_cons_of_mem _ (List.mem_append_right _ h)
set_option maxRecDepth 20000 in
theorem gX10_nth__X10_isLaw_V89 : GoodIn uX10_nth (wsV RX10 89 RX10 yX10_isLaw uX10_isLaw) := goodIn_p _ [5, 9] rfl (by decide +kernel)
set_option maxRecDepth 20000 in
theorem gX10_nth__X10_nthOf_V331 : GoodIn uX10_nth (wsV RX10 331 RX10 yX10_nthOf uX10_nthOf) := goodIn_p _ [13, 17] rfl (by decide +kernel)
set_option maxHeartbeats 4000000 in
set_option maxRecDepth 100000 in
theorem kX10_nth (l : Launch) (dC : Nat → ClassId) (dI : Nat → Nat → Nat) (o0 : Nat) (x_th : Int32) (mwo : Nat) (mim : Nat) (mhi : Nat) (mlu : Nat) (mtp : Nat) (x_td : Int32) (mfv : Nat) (x_sz : Int32) (x_at : Int32) (x_fr : Int32) (x_to : Int32) (x_va : Int32) (x_fk : Int32) (x_fp : Int32) (mfr : Nat) (mwt : Nat) (x_wt : Int32) (x_op : Int32) (x_jo : Int32) (mfg : Nat) (mpl : Nat) (x_dr : Int64) (mtm : Nat) (mfa : Nat) (mqu : Nat) (mmo : Nat) (mwy : Nat) (mwn : Nat) (mma : Nat) (mwi : Nat) (mnu : Nat) (mmv : Nat) (c_wo : ClassId) (c_lu : ClassId) (w_wo : Nat → Int32) (w_lu : Nat → Int32) (ln : Int32) (bs : Int32) (tk : Int32) (lw : Int32) (li : Int32) (a1 : Int32) (a2 : Int32) (b_ln : (0 : Int) ≤ ln.toInt ∧ ln.toInt ≤ 12) (b_bs : (0 : Int) ≤ bs.toInt ∧ bs.toInt ≤ 16) (b_tk : (0 : Int) ≤ tk.toInt ∧ tk.toInt ≤ 20000) (b_lw : (0 : Int) ≤ lw.toInt ∧ lw.toInt ≤ 9) (hw0 : w_wo 0 = ln) (hw1 : w_wo 1 = bs) (hw2 : w_wo 2 = tk) (hw3 : w_wo 3 = lw) (hw4 : w_wo 4 = li) (hwz : (ln.toInt = 0 ∧ bs.toInt = 0 ∧ tk.toInt = 0 ∧ lw.toInt = 0) ∨ (1 ≤ ln.toInt ∧ 2 ≤ bs.toInt ∧ 1 ≤ tk.toInt)) : Met l yX10_nth uX10_nth ({ frames := 2, cells := 0, slots := 0, locals := 46 }) (va_Pc [.ref o0, .int a1, .int a2] (pw (dC, dI) vwCl [(o0, .inr (8, [.int x_th, .ref mwo, .ref mim, .ref mhi, .ref mlu, .ref mtp, .int x_td, .ref mfv, .int x_sz, .int x_at, .int x_fr, .int x_to, .int x_va, .int x_fk, .int x_fp, .ref mfr, .ref mwt, .int x_wt, .int x_op, .int x_jo, .ref mfg, .ref mpl, .long x_dr, .ref mtm, .ref mfa, .ref mqu, .ref mmo, .ref mwy, .ref mwn, .ref mma, .ref mwi, .ref mnu, .ref mmv])), (mwo, .inl (c_wo, 1875, .inl w_wo)), (mlu, .inl (c_lu, 20000, .inl w_lu))] [(c_wo, .int), (c_lu, .int)])) (vp_Si (fun r => ((-2 : Int) ≤ r.toInt ∧ r.toInt ≤ 19999))) 0 0 (fun _ => False) := by
  refine Met.ofW (cc := cX10_nth) (maxL := 3) (ret := (some .int)) (by decide) rfl ?_
  intro p e s m args below meth c s₁ B hml hv
  obtain ⟨rfl, hP, hK, hN⟩ := hv
  have hx := B.exec
  have hb := B.bytes
  have hr := B.returns
  have hts := atoms_spec (ws := uX10_nth) B.pre
  have hown : s.vm.findClass RX10 = some m.cls := findClass_of_methodNamed B.named
  have hlocks := B.notSynchronized
  have hl := lv_entry ([.ref o0, .int a1, .int a2]) (n := 3) (Nat.le_of_ble_eq_true rfl)
  rw [lg_entry_eq]
  generalize (lg_sl ([.ref o0, .int a1, .int a2]) ++ List.replicate (3 - (lg_sl ([.ref o0, .int a1, .int a2])).length) Slot.unset).toArray = ls at hl ⊢
  have hl : lv_has ls 3 [(0, .ref o0), (1, .int a1), (2, .int a2)] := hl
  refine lv_aload_n hx hb dX10_nth_0 rfl (lv_at hl 0 rfl) ?_
  refine lv_iload_n hx hb dX10_nth_1 rfl (lv_at hl 1 rfl) ?_
  refine vp_callSi (W.runV (As := [.int a1]) (rest := []) ⟨hx, hb, hml, hown, hts⟩ (kX10_isLaw l dC dI o0 x_th mwo mim mhi mlu mtp x_td mfv x_sz x_at x_fr x_to x_va x_fk x_fp mfr mwt x_wt x_op x_jo mfg mpl x_dr mtm mfa mqu mmo mwy mwn mma mwi mnu mmv c_wo w_wo ln bs tk lw li a1 b_ln b_bs b_tk b_lw (hw0) (hw1) (hw2) (hw3) (hw4) (hwz)) (cwV 1 hts gX10_nth__X10_isLaw_V89 rfl rfl rfl (by decide +kernel) ⟨lel 2 2 rfl, lel 46 46 rfl⟩) ⟨pw_fb, va_recv hK hP (ci := 8) (q0 := 0) rfl rfl, (pw_use hP hK hN [0, 1] rfl [0] rfl)⟩ rfl rfl hl.1 rfl (lv_room (Nat.le_of_ble_eq_true rfl)) dX10_nth_2 ⟨lel 0 0 rfl, lel 0 0 rfl⟩) (fun r_5 h_r_5 => ?_)
  obtain ⟨b_r_5, nz_r_5⟩ := h_r_5
  have b_r_5 : (0 : Int) ≤ r_5.toInt ∧ r_5.toInt ≤ 1 := b_r_5
  refine lv_if_eq (tgt := 17) hx hb dX10_nth_5 (by decide) (fun c_6 => ?_) (fun c_6 => ?_)
  ·
    have n_c_6 : (r_5.toInt : Int) = 0 := c_eq rfl (by decide) c_6
    have b_r_5 : (0 : Int) ≤ r_5.toInt ∧ r_5.toInt ≤ 0 := r_eq1 b_r_5 (by decide : (0 : Int) ≤ (0 : Int32).toInt ∧ (0 : Int32).toInt ≤ 0) n_c_6 (by decide)
    refine lv_bipush (v := (-2)) hx hb dX10_nth_17 (by decide) ?_
    exact W.iret (v := (-2)) hx hb hr (fun t ht hW => ⟨(-2), rfl, (rg_w (by decide : (-2 : Int) ≤ ((-2) : Int32).toInt ∧ ((-2) : Int32).toInt ≤ -2) (by decide) (by decide)), ht⟩) t_nil dX10_nth_19
  ·
    have n_c_6 : (r_5.toInt : Int) ≠ 0 := c_ne rfl (by decide) c_6
    have b_r_5 : (1 : Int) ≤ r_5.toInt ∧ r_5.toInt ≤ 1 := r_ne1 b_r_5 (by decide : (0 : Int) ≤ (0 : Int32).toInt ∧ (0 : Int32).toInt ≤ 0) n_c_6 (by decide)
    obtain ⟨b_a1, g_7⟩ := nz_r_5 c_6
    refine lv_aload_n hx hb dX10_nth_8 rfl (lv_at hl 0 rfl) ?_
    refine lv_iload_n hx hb dX10_nth_9 rfl (lv_at hl 1 rfl) ?_
    refine lv_iload_n hx hb dX10_nth_10 rfl (lv_at hl 2 rfl) ?_
    refine vp_callSi (W.runV (As := [.int a1, .int a2]) (rest := []) ⟨hx, hb, hml, hown, hts⟩ (kX10_nthOf l dC dI o0 x_th mwo mim mhi mlu mtp x_td mfv x_sz x_at x_fr x_to x_va x_fk x_fp mfr mwt x_wt x_op x_jo mfg mpl x_dr mtm mfa mqu mmo mwy mwn mma mwi mnu mmv c_wo c_lu w_wo w_lu ln bs tk lw li a1 a2 b_ln b_bs b_tk b_lw (hw0) (hw1) (hw2) (hw3) (hw4) (hwz)) (cwV 2 hts gX10_nth__X10_nthOf_V331 rfl rfl rfl (by decide +kernel) ⟨lel 2 2 rfl, lel 46 46 rfl⟩) ⟨pw_fb, va_recv hK hP (ci := 8) (q0 := 0) rfl rfl, (pw_use hP hK hN [0, 1, 2] rfl [0, 1] rfl)⟩ rfl rfl hl.1 rfl (lv_room (Nat.le_of_ble_eq_true rfl)) dX10_nth_11 ⟨lel 0 0 rfl, lel 0 0 rfl⟩) (fun r_8 h_r_8 => ?_)
    have b_r_8 := h_r_8
    have b_r_8 : (-1 : Int) ≤ r_8.toInt ∧ r_8.toInt ≤ 19999 := b_r_8
    refine lv_goto (tgt := 19) hx hb dX10_nth_14 (by decide) ?_
    exact W.iret (v := r_8) hx hb hr (fun t ht hW => ⟨r_8, rfl, (rg_w b_r_8 (by decide) (by decide)), ht⟩) t_nil dX10_nth_19
theorem dX10_gap_0 : decode cX10_gap 0 = .ok (.aload_n 0, 1) := by decide +kernel
theorem dX10_gap_1 : decode cX10_gap 1 = .ok (.iload_n 1, 1) := by decide +kernel
theorem dX10_gap_2 : decode cX10_gap 2 = .ok (.invokevirtual 89, 3) := by decide +kernel
theorem dX10_gap_5 : decode cX10_gap 5 = .ok (.ifCond .eq 13, 3) := by decide +kernel
theorem dX10_gap_8 : decode cX10_gap 8 = .ok (.iload_n 2, 1) := by decide +kernel
theorem dX10_gap_9 : decode cX10_gap 9 = .ok (.i2l, 1) := by decide +kernel
theorem dX10_gap_10 : decode cX10_gap 10 = .ok (.lconst 0, 1) := by decide +kernel
theorem dX10_gap_11 : decode cX10_gap 11 = .ok (.lconst 1, 1) := by decide +kernel
theorem dX10_gap_12 : decode cX10_gap 12 = .ok (.invokestatic 82, 3) := by decide +kernel
theorem dX10_gap_15 : decode cX10_gap 15 = .ok (.ifCond .ne 6, 3) := by decide +kernel
theorem dX10_gap_18 : decode cX10_gap 18 = .ok (.bipush (-2), 2) := by decide +kernel
theorem dX10_gap_20 : decode cX10_gap 20 = .ok (.ireturn, 1) := by decide +kernel
theorem dX10_gap_21 : decode cX10_gap 21 = .ok (.iconst (-1), 1) := by decide +kernel
theorem dX10_gap_22 : decode cX10_gap 22 = .ok (.istore_n 3, 1) := by decide +kernel
theorem dX10_gap_23 : decode cX10_gap 23 = .ok (.iconst (-1), 1) := by decide +kernel
theorem dX10_gap_24 : decode cX10_gap 24 = .ok (.istore 4, 2) := by decide +kernel
theorem dX10_gap_26 : decode cX10_gap 26 = .ok (.aload_n 0, 1) := by decide +kernel
theorem dX10_gap_27 : decode cX10_gap 27 = .ok (.iload_n 1, 1) := by decide +kernel
theorem dX10_gap_28 : decode cX10_gap 28 = .ok (.iconst 0, 1) := by decide +kernel
theorem dX10_gap_29 : decode cX10_gap 29 = .ok (.invokevirtual 325, 3) := by decide +kernel
theorem dX10_gap_32 : decode cX10_gap 32 = .ok (.istore 5, 2) := by decide +kernel
theorem dX10_gap_34 : decode cX10_gap 34 = .ok (.iload 5, 2) := by decide +kernel
theorem dX10_gap_36 : decode cX10_gap 36 = .ok (.iconst (-1), 1) := by decide +kernel
theorem dX10_gap_37 : decode cX10_gap 37 = .ok (.if_icmp .eq 50, 3) := by decide +kernel
theorem dX10_gap_40 : decode cX10_gap 40 = .ok (.aload_n 0, 1) := by decide +kernel
theorem dX10_gap_41 : decode cX10_gap 41 = .ok (.iload_n 1, 1) := by decide +kernel
theorem dX10_gap_42 : decode cX10_gap 42 = .ok (.iload 5, 2) := by decide +kernel
theorem dX10_gap_44 : decode cX10_gap 44 = .ok (.iconst 1, 1) := by decide +kernel
theorem dX10_gap_45 : decode cX10_gap 45 = .ok (.iadd, 1) := by decide +kernel
theorem dX10_gap_46 : decode cX10_gap 46 = .ok (.invokevirtual 325, 3) := by decide +kernel
theorem dX10_gap_49 : decode cX10_gap 49 = .ok (.istore 6, 2) := by decide +kernel
theorem dX10_gap_51 : decode cX10_gap 51 = .ok (.iload 6, 2) := by decide +kernel
theorem dX10_gap_53 : decode cX10_gap 53 = .ok (.iconst (-1), 1) := by decide +kernel
theorem dX10_gap_54 : decode cX10_gap 54 = .ok (.if_icmp .eq 26, 3) := by decide +kernel
theorem dX10_gap_57 : decode cX10_gap 57 = .ok (.iload 6, 2) := by decide +kernel
theorem dX10_gap_59 : decode cX10_gap 59 = .ok (.iload 5, 2) := by decide +kernel
theorem dX10_gap_61 : decode cX10_gap 61 = .ok (.isub, 1) := by decide +kernel
theorem dX10_gap_62 : decode cX10_gap 62 = .ok (.iconst 1, 1) := by decide +kernel
theorem dX10_gap_63 : decode cX10_gap 63 = .ok (.isub, 1) := by decide +kernel
theorem dX10_gap_64 : decode cX10_gap 64 = .ok (.iload_n 3, 1) := by decide +kernel
theorem dX10_gap_65 : decode cX10_gap 65 = .ok (.if_icmp .le 15, 3) := by decide +kernel
theorem dX10_gap_68 : decode cX10_gap 68 = .ok (.iload 6, 2) := by decide +kernel
theorem dX10_gap_70 : decode cX10_gap 70 = .ok (.iload 5, 2) := by decide +kernel
theorem dX10_gap_72 : decode cX10_gap 72 = .ok (.isub, 1) := by decide +kernel
theorem dX10_gap_73 : decode cX10_gap 73 = .ok (.iconst 1, 1) := by decide +kernel
theorem dX10_gap_74 : decode cX10_gap 74 = .ok (.isub, 1) := by decide +kernel
theorem dX10_gap_75 : decode cX10_gap 75 = .ok (.istore_n 3, 1) := by decide +kernel
theorem dX10_gap_76 : decode cX10_gap 76 = .ok (.iload 5, 2) := by decide +kernel
theorem dX10_gap_78 : decode cX10_gap 78 = .ok (.istore 4, 2) := by decide +kernel
theorem dX10_gap_80 : decode cX10_gap 80 = .ok (.iload 6, 2) := by decide +kernel
theorem dX10_gap_82 : decode cX10_gap 82 = .ok (.istore 5, 2) := by decide +kernel
theorem dX10_gap_84 : decode cX10_gap 84 = .ok (.goto (-50), 3) := by decide +kernel
theorem dX10_gap_87 : decode cX10_gap 87 = .ok (.iload_n 2, 1) := by decide +kernel
theorem dX10_gap_88 : decode cX10_gap 88 = .ok (.ifCond .ne 7, 3) := by decide +kernel
theorem dX10_gap_91 : decode cX10_gap 91 = .ok (.iload_n 3, 1) := by decide +kernel
theorem dX10_gap_92 : decode cX10_gap 92 = .ok (.goto 5, 3) := by decide +kernel
theorem dX10_gap_95 : decode cX10_gap 95 = .ok (.iload 4, 2) := by decide +kernel
theorem dX10_gap_97 : decode cX10_gap 97 = .ok (.ireturn, 1) := by decide +kernel
def uX10_gap : List Cond := .code yX10_gap cX10_gap 7 (some .int) :: ([.methodLink RX10 89 yX10_isLaw, .instanceMethod yX10_isLaw, .selects RX10 yX10_isLaw yX10_isLaw, .initialized RX10, .code yX10_isLaw cX10_isLaw 2 (some .boolean), .fieldLink RX10 9 "LuckyTicketModel" "world" "[I", .methodLink RX10 82 yX10_in, .static yX10_in, .code yX10_in cX10_in 6 (some .boolean), .methodLink RX10 325 yX10_nextOf, .instanceMethod yX10_nextOf, .selects RX10 yX10_nextOf yX10_nextOf, .code yX10_nextOf cX10_nextOf 4 (some .int), .methodLink RX10 316 yX10_isLucky, .instanceMethod yX10_isLucky, .selects RX10 yX10_isLucky yX10_isLucky, .code yX10_isLucky cX10_isLucky 3 (some .boolean), .fieldLink RX10 20 "LuckyTicketModel" "luck" "[I"] ++ wsX100)
theorem iX10_gap_X10 : ∀ w ∈ wsX100, w ∈ uX10_gap := fun _ h => List.mem_cons_of_mem _ (List.mem_append_right _ h)
set_option maxRecDepth 20000 in
theorem gX10_gap__X10_isLaw_V89 : GoodIn uX10_gap (wsV RX10 89 RX10 yX10_isLaw uX10_isLaw) := goodIn_p _ [5, 9] rfl (by decide +kernel)
set_option maxRecDepth 20000 in
theorem gX10_gap__X10_in_S82 : GoodIn uX10_gap (va_wsS RX10 82 yX10_in uX10_in) := goodIn_p _ [9] rfl (by decide +kernel)
set_option maxRecDepth 20000 in
theorem gX10_gap__X10_nextOf_V325 : GoodIn uX10_gap (wsV RX10 325 RX10 yX10_nextOf uX10_nextOf) := goodIn_p _ [13, 17] rfl (by decide +kernel)
set_option maxHeartbeats 4000000 in
set_option maxRecDepth 100000 in
theorem kX10_gap (l : Launch) (dC : Nat → ClassId) (dI : Nat → Nat → Nat) (o0 : Nat) (x_th : Int32) (mwo : Nat) (mim : Nat) (mhi : Nat) (mlu : Nat) (mtp : Nat) (x_td : Int32) (mfv : Nat) (x_sz : Int32) (x_at : Int32) (x_fr : Int32) (x_to : Int32) (x_va : Int32) (x_fk : Int32) (x_fp : Int32) (mfr : Nat) (mwt : Nat) (x_wt : Int32) (x_op : Int32) (x_jo : Int32) (mfg : Nat) (mpl : Nat) (x_dr : Int64) (mtm : Nat) (mfa : Nat) (mqu : Nat) (mmo : Nat) (mwy : Nat) (mwn : Nat) (mma : Nat) (mwi : Nat) (mnu : Nat) (mmv : Nat) (c_wo : ClassId) (c_lu : ClassId) (w_wo : Nat → Int32) (w_lu : Nat → Int32) (ln : Int32) (bs : Int32) (tk : Int32) (lw : Int32) (li : Int32) (a1 : Int32) (a2 : Int32) (b_ln : (0 : Int) ≤ ln.toInt ∧ ln.toInt ≤ 12) (b_bs : (0 : Int) ≤ bs.toInt ∧ bs.toInt ≤ 16) (b_tk : (0 : Int) ≤ tk.toInt ∧ tk.toInt ≤ 20000) (b_lw : (0 : Int) ≤ lw.toInt ∧ lw.toInt ≤ 9) (hw0 : w_wo 0 = ln) (hw1 : w_wo 1 = bs) (hw2 : w_wo 2 = tk) (hw3 : w_wo 3 = lw) (hw4 : w_wo 4 = li) (hwz : (ln.toInt = 0 ∧ bs.toInt = 0 ∧ tk.toInt = 0 ∧ lw.toInt = 0) ∨ (1 ≤ ln.toInt ∧ 2 ≤ bs.toInt ∧ 1 ≤ tk.toInt)) : Met l yX10_gap uX10_gap ({ frames := 2, cells := 0, slots := 0, locals := 46 }) (va_Pc [.ref o0, .int a1, .int a2] (pw (dC, dI) vwCl [(o0, .inr (8, [.int x_th, .ref mwo, .ref mim, .ref mhi, .ref mlu, .ref mtp, .int x_td, .ref mfv, .int x_sz, .int x_at, .int x_fr, .int x_to, .int x_va, .int x_fk, .int x_fp, .ref mfr, .ref mwt, .int x_wt, .int x_op, .int x_jo, .ref mfg, .ref mpl, .long x_dr, .ref mtm, .ref mfa, .ref mqu, .ref mmo, .ref mwy, .ref mwn, .ref mma, .ref mwi, .ref mnu, .ref mmv])), (mwo, .inl (c_wo, 1875, .inl w_wo)), (mlu, .inl (c_lu, 20000, .inl w_lu))] [(c_wo, .int), (c_lu, .int)])) (vp_Si (fun r => ((-20000 : Int) ≤ r.toInt ∧ r.toInt ≤ 19999))) 0 0 (fun _ => False) := by
  refine Met.ofW (cc := cX10_gap) (maxL := 7) (ret := (some .int)) (by decide) rfl ?_
  intro p e s m args below meth c s₁ B hml hv
  obtain ⟨rfl, hP, hK, hN⟩ := hv
  have hx := B.exec
  have hb := B.bytes
  have hr := B.returns
  have hts := atoms_spec (ws := uX10_gap) B.pre
  have hown : s.vm.findClass RX10 = some m.cls := findClass_of_methodNamed B.named
  have hlocks := B.notSynchronized
  have hl := lv_entry ([.ref o0, .int a1, .int a2]) (n := 7) (Nat.le_of_ble_eq_true rfl)
  rw [lg_entry_eq]
  generalize (lg_sl ([.ref o0, .int a1, .int a2]) ++ List.replicate (7 - (lg_sl ([.ref o0, .int a1, .int a2])).length) Slot.unset).toArray = ls at hl ⊢
  have hl : lv_has ls 7 [(0, .ref o0), (1, .int a1), (2, .int a2)] := hl
  refine lv_aload_n hx hb dX10_gap_0 rfl (lv_at hl 0 rfl) ?_
  refine lv_iload_n hx hb dX10_gap_1 rfl (lv_at hl 1 rfl) ?_
  refine vp_callSi (W.runV (As := [.int a1]) (rest := []) ⟨hx, hb, hml, hown, hts⟩ (kX10_isLaw l dC dI o0 x_th mwo mim mhi mlu mtp x_td mfv x_sz x_at x_fr x_to x_va x_fk x_fp mfr mwt x_wt x_op x_jo mfg mpl x_dr mtm mfa mqu mmo mwy mwn mma mwi mnu mmv c_wo w_wo ln bs tk lw li a1 b_ln b_bs b_tk b_lw (hw0) (hw1) (hw2) (hw3) (hw4) (hwz)) (cwV 1 hts gX10_gap__X10_isLaw_V89 rfl rfl rfl (by decide +kernel) ⟨lel 2 2 rfl, lel 46 46 rfl⟩) ⟨pw_fb, va_recv hK hP (ci := 8) (q0 := 0) rfl rfl, (pw_use hP hK hN [0, 1] rfl [0] rfl)⟩ rfl rfl hl.1 rfl (lv_room (Nat.le_of_ble_eq_true rfl)) dX10_gap_2 ⟨lel 0 0 rfl, lel 0 0 rfl⟩) (fun r_108 h_r_108 => ?_)
  obtain ⟨b_r_108, nz_r_108⟩ := h_r_108
  have b_r_108 : (0 : Int) ≤ r_108.toInt ∧ r_108.toInt ≤ 1 := b_r_108
  refine lv_if_eq (tgt := 18) hx hb dX10_gap_5 (by decide) (fun c_109 => ?_) (fun c_109 => ?_)
  ·
    have n_c_109 : (r_108.toInt : Int) = 0 := c_eq rfl (by decide) c_109
    have b_r_108 : (0 : Int) ≤ r_108.toInt ∧ r_108.toInt ≤ 0 := r_eq1 b_r_108 (by decide : (0 : Int) ≤ (0 : Int32).toInt ∧ (0 : Int32).toInt ≤ 0) n_c_109 (by decide)
    refine lv_bipush (v := (-2)) hx hb dX10_gap_18 (by decide) ?_
    exact W.iret (v := (-2)) hx hb hr (fun t ht hW => ⟨(-2), rfl, (rg_w (by decide : (-2 : Int) ≤ ((-2) : Int32).toInt ∧ ((-2) : Int32).toInt ≤ -2) (by decide) (by decide)), ht⟩) t_nil dX10_gap_20
  ·
    have n_c_109 : (r_108.toInt : Int) ≠ 0 := c_ne rfl (by decide) c_109
    have b_r_108 : (1 : Int) ≤ r_108.toInt ∧ r_108.toInt ≤ 1 := r_ne1 b_r_108 (by decide : (0 : Int) ≤ (0 : Int32).toInt ∧ (0 : Int32).toInt ≤ 0) n_c_109 (by decide)
    obtain ⟨b_a1, g_110⟩ := nz_r_108 c_109
    refine lv_iload_n hx hb dX10_gap_8 rfl (lv_at hl 2 rfl) ?_
    obtain ⟨z_111, e_z_111⟩ : ∃ y : Int64, y = a2.toInt64 := ⟨_, rfl⟩
    refine lv_i2l (v := z_111) hx hb dX10_gap_9 e_z_111.symm ?_
    obtain ⟨q_z_111, b_z_111⟩ := ti_i2l e_z_111 (ti_rng a2)
    refine lv_lconst (v := 0) hx hb dX10_gap_10 (by decide) ?_
    refine lv_lconst (v := 1) hx hb dX10_gap_11 (by decide) ?_
    refine vp_callSi (W.runS (As := [.long z_111, .long 0, .long 1]) (rest := []) ⟨hx, hb, hml, hown, hts⟩ (kX10_in l dC dI z_111 0 1 ) (va_cwS 3 hts gX10_gap__X10_in_S82 rfl rfl rfl (by decide +kernel) ⟨lel 1 2 rfl, lel 25 46 rfl⟩) ⟨pn_fb, pn_use⟩ rfl rfl hl.1 rfl (lv_room (Nat.le_of_ble_eq_true rfl)) dX10_gap_12 ⟨lel 0 0 rfl, lel 0 0 rfl⟩) (fun r_112 h_r_112 => ?_)
    obtain ⟨b_r_112, nz_r_112⟩ := h_r_112
    have b_r_112 : (0 : Int) ≤ r_112.toInt ∧ r_112.toInt ≤ 1 := b_r_112
    refine lv_if_ne (tgt := 21) hx hb dX10_gap_15 (by decide) (fun c_113 => ?_) (fun c_113 => ?_)
    ·
      have n_c_113 : (r_112.toInt : Int) ≠ 0 := c_ne rfl (by decide) c_113
      have b_r_112 : (1 : Int) ≤ r_112.toInt ∧ r_112.toInt ≤ 1 := r_ne1 b_r_112 (by decide : (0 : Int) ≤ (0 : Int32).toInt ∧ (0 : Int32).toInt ≤ 0) n_c_113 (by decide)
      have g_114 := nz_r_112 c_113
      have lt0_g_114 := (by decide : (0 : Int64).toInt = 0)
      have lt1_g_114 := (by decide : (1 : Int64).toInt = 1)
      have b_z_111 : (0 : Int) ≤ z_111.toInt ∧ z_111.toInt ≤ 1 := by
        have q0 := b_z_111
        have q1 := (by decide : (0 : Int) ≤ (0 : Int64).toInt ∧ (0 : Int64).toInt ≤ 0)
        have q2 := (by decide : (1 : Int) ≤ (1 : Int64).toInt ∧ (1 : Int64).toInt ≤ 1)
        omega
      have b_a2 : (0 : Int) ≤ a2.toInt ∧ a2.toInt ≤ 1 := by
        have q0 := b_z_111; have q1 := q_z_111; have q2 := (ti_rng a2); omega
      refine lv_iconst (v := (-1)) hx hb dX10_gap_21 (by decide) ?_
      refine lv_istore_n (lv' := [(3, .int (-1)), (0, .ref o0), (1, .int a1), (2, .int a2)]) hx hb dX10_gap_22 rfl hl (by decide) rfl (fun ls hl => ?_)
      refine lv_iconst (v := (-1)) hx hb dX10_gap_23 (by decide) ?_
      refine lv_istore (lv' := [(4, .int (-1)), (3, .int (-1)), (0, .ref o0), (1, .int a1), (2, .int a2)]) hx hb dX10_gap_24 hl (by decide) rfl (fun ls hl => ?_)
      refine lv_aload_n hx hb dX10_gap_26 rfl (lv_at hl 2 rfl) ?_
      refine lv_iload_n hx hb dX10_gap_27 rfl (lv_at hl 3 rfl) ?_
      refine lv_iconst (v := 0) hx hb dX10_gap_28 (by decide) ?_
      refine vp_callSi (W.runV (As := [.int a1, .int 0]) (rest := []) ⟨hx, hb, hml, hown, hts⟩ (kX10_nextOf l dC dI o0 x_th mwo mim mhi mlu mtp x_td mfv x_sz x_at x_fr x_to x_va x_fk x_fp mfr mwt x_wt x_op x_jo mfg mpl x_dr mtm mfa mqu mmo mwy mwn mma mwi mnu mmv c_wo c_lu w_wo w_lu ln bs tk lw li a1 0 b_ln b_bs b_tk b_lw (rg_w (by decide : (0 : Int) ≤ (0 : Int32).toInt ∧ (0 : Int32).toInt ≤ 0) (by decide) (by decide)) (hw0) (hw1) (hw2) (hw3) (hw4) (hwz)) (cwV 2 hts gX10_gap__X10_nextOf_V325 rfl rfl rfl (by decide +kernel) ⟨lel 2 2 rfl, lel 45 46 rfl⟩) ⟨pw_fb, va_recv hK hP (ci := 8) (q0 := 0) rfl rfl, (pw_use hP hK hN [0, 1, 2] rfl [0, 1] rfl)⟩ rfl rfl hl.1 rfl (lv_room (Nat.le_of_ble_eq_true rfl)) dX10_gap_29 ⟨lel 0 0 rfl, lel 0 0 rfl⟩) (fun r_115 h_r_115 => ?_)
      obtain ⟨b_r_115, pr_r_115⟩ := h_r_115
      have b_r_115 : (-1 : Int) ≤ r_115.toInt ∧ r_115.toInt ≤ 19999 := b_r_115
      refine lv_istore (lv' := [(5, .int r_115), (4, .int (-1)), (3, .int (-1)), (0, .ref o0), (1, .int a1), (2, .int a2)]) hx hb dX10_gap_32 hl (by decide) rfl (fun ls hl => ?_)
      refine loopP (σ := Int32 × Int32 × Int32) (fun v => (20001 - v.1.toInt % 20002).toNat) (fun v ls => ((-1 : Int) ≤ v.1.toInt ∧ v.1.toInt ≤ 19999) ∧ ((-1 : Int) ≤ v.2.1.toInt ∧ v.2.1.toInt ≤ 19999) ∧ ((-20000 : Int) ≤ v.2.2.toInt ∧ v.2.2.toInt ≤ 19998) ∧ lv_has ls 7 [(5, .int v.1), (4, .int v.2.1), (3, .int v.2.2), (0, .ref o0), (1, .int a1), (2, .int a2)]) (fun v ls hI ih_34_182 => ?_) (r_115, (-1 : Int32), (-1 : Int32)) ⟨(show (-1 : Int) ≤ r_115.toInt ∧ r_115.toInt ≤ 19999 from b_r_115), (show (-1 : Int) ≤ (-1 : Int32).toInt ∧ (-1 : Int32).toInt ≤ 19999 from (rg_w (by decide : (-1 : Int) ≤ ((-1) : Int32).toInt ∧ ((-1) : Int32).toInt ≤ -1) (by decide) (by decide))), (show (-20000 : Int) ≤ (-1 : Int32).toInt ∧ (-1 : Int32).toInt ≤ 19998 from (rg_w (by decide : (-1 : Int) ≤ ((-1) : Int32).toInt ∧ ((-1) : Int32).toInt ≤ -1) (by decide) (by decide))), lv_sub hl [0, 1, 2, 3, 4, 5] rfl⟩
      obtain ⟨y_148, y_149, y_150⟩ := v
      obtain ⟨b_y_148, b_y_149, b_y_150, hl⟩ := hI
      have b_y_148 : (-1 : Int) ≤ y_148.toInt ∧ y_148.toInt ≤ 19999 := b_y_148
      have b_y_149 : (-1 : Int) ≤ y_149.toInt ∧ y_149.toInt ≤ 19999 := b_y_149
      have b_y_150 : (-20000 : Int) ≤ y_150.toInt ∧ y_150.toInt ≤ 19998 := b_y_150
      have hl : lv_has ls 7 [(5, .int y_148), (4, .int y_149), (3, .int y_150), (0, .ref o0), (1, .int a1), (2, .int a2)] := hl
      refine lv_iload hx hb dX10_gap_34 (lv_at hl 0 rfl) ?_
      refine lv_iconst (v := (-1)) hx hb dX10_gap_36 (by decide) ?_
      refine lv_icmp_eq (tgt := 87) hx hb dX10_gap_37 (by decide) (fun c_183 => ?_) (fun c_183 => ?_)
      ·
        have n_c_183 : (y_148.toInt : Int) = (-1) := c_eq rfl (by decide) c_183
        have b_y_148 : (-1 : Int) ≤ y_148.toInt ∧ y_148.toInt ≤ -1 := r_eq1 b_y_148 (by decide : (-1 : Int) ≤ ((-1) : Int32).toInt ∧ ((-1) : Int32).toInt ≤ -1) n_c_183 (by decide)
        refine lv_iload_n hx hb dX10_gap_87 rfl (lv_at hl 5 rfl) ?_
        refine lv_if_ne (tgt := 95) hx hb dX10_gap_88 (by decide) (fun c_199 => ?_) (fun c_199 => ?_)
        ·
          have n_c_199 : (a2.toInt : Int) ≠ 0 := c_ne rfl (by decide) c_199
          have b_a2 : (1 : Int) ≤ a2.toInt ∧ a2.toInt ≤ 1 := r_ne1 b_a2 (by decide : (0 : Int) ≤ (0 : Int32).toInt ∧ (0 : Int32).toInt ≤ 0) n_c_199 (by decide)
          refine lv_iload hx hb dX10_gap_95 (lv_at hl 1 rfl) ?_
          exact W.iret (v := y_149) hx hb hr (fun t ht hW => ⟨y_149, rfl, (rg_w b_y_149 (by decide) (by decide)), ht⟩) t_nil dX10_gap_97
        ·
          have n_c_199 : (a2.toInt : Int) = 0 := c_eq rfl (by decide) c_199
          have b_a2 : (0 : Int) ≤ a2.toInt ∧ a2.toInt ≤ 0 := r_eq1 b_a2 (by decide : (0 : Int) ≤ (0 : Int32).toInt ∧ (0 : Int32).toInt ≤ 0) n_c_199 (by decide)
          refine lv_iload_n hx hb dX10_gap_91 rfl (lv_at hl 2 rfl) ?_
          refine lv_goto (tgt := 97) hx hb dX10_gap_92 (by decide) ?_
          exact W.iret (v := y_150) hx hb hr (fun t ht hW => ⟨y_150, rfl, (rg_w b_y_150 (by decide) (by decide)), ht⟩) t_nil dX10_gap_97
      ·
        have n_c_183 : (y_148.toInt : Int) ≠ (-1) := c_ne rfl (by decide) c_183
        have b_y_148 : (0 : Int) ≤ y_148.toInt ∧ y_148.toInt ≤ 19999 := r_ne1 b_y_148 (by decide : (-1 : Int) ≤ ((-1) : Int32).toInt ∧ ((-1) : Int32).toInt ≤ -1) n_c_183 (by decide)
        refine lv_aload_n hx hb dX10_gap_40 rfl (lv_at hl 3 rfl) ?_
        refine lv_iload_n hx hb dX10_gap_41 rfl (lv_at hl 4 rfl) ?_
        refine lv_iload hx hb dX10_gap_42 (lv_at hl 0 rfl) ?_
        refine lv_iconst (v := 1) hx hb dX10_gap_44 (by decide) ?_
        refine lv_iadd hx hb dX10_gap_45 ?_
        refine lv_topi (fun z_200 e_z_200 => ?_)
        obtain ⟨q_z_200, b_z_200⟩ := ti_add (lo := 1) (hi := 20000) e_z_200 rfl (by decide : (1 : Int32).toInt = 1) b_y_148 (by decide : (1 : Int) ≤ (1 : Int32).toInt ∧ (1 : Int32).toInt ≤ 1) (by decide)
        refine vp_callSi (W.runV (As := [.int a1, .int z_200]) (rest := []) ⟨hx, hb, hml, hown, hts⟩ (kX10_nextOf l dC dI o0 x_th mwo mim mhi mlu mtp x_td mfv x_sz x_at x_fr x_to x_va x_fk x_fp mfr mwt x_wt x_op x_jo mfg mpl x_dr mtm mfa mqu mmo mwy mwn mma mwi mnu mmv c_wo c_lu w_wo w_lu ln bs tk lw li a1 z_200 b_ln b_bs b_tk b_lw (rg_w b_z_200 (by decide) (by decide)) (hw0) (hw1) (hw2) (hw3) (hw4) (hwz)) (cwV 2 hts gX10_gap__X10_nextOf_V325 rfl rfl rfl (by decide +kernel) ⟨lel 2 2 rfl, lel 45 46 rfl⟩) ⟨pw_fb, va_recv hK hP (ci := 8) (q0 := 0) rfl rfl, (pw_use hP hK hN [0, 1, 2] rfl [0, 1] rfl)⟩ rfl rfl hl.1 rfl (lv_room (Nat.le_of_ble_eq_true rfl)) dX10_gap_46 ⟨lel 0 0 rfl, lel 0 0 rfl⟩) (fun r_201 h_r_201 => ?_)
        obtain ⟨b_r_201, pr_r_201⟩ := h_r_201
        have b_r_201 : (-1 : Int) ≤ r_201.toInt ∧ r_201.toInt ≤ 19999 := b_r_201
        refine lv_istore (lv' := [(6, .int r_201), (5, .int y_148), (4, .int y_149), (3, .int y_150), (0, .ref o0), (1, .int a1), (2, .int a2)]) hx hb dX10_gap_49 hl (by decide) rfl (fun ls hl => ?_)
        refine lv_iload hx hb dX10_gap_51 (lv_at hl 0 rfl) ?_
        refine lv_iconst (v := (-1)) hx hb dX10_gap_53 (by decide) ?_
        refine cutP (σ := Int32 × Int32) (pc2 := 80) (st2 := fun v => []) (cells2 := 0) (slots2 := 0) (fun v ls => ((-1 : Int) ≤ v.1.toInt ∧ v.1.toInt ≤ 19999) ∧ ((-20000 : Int) ≤ v.2.toInt ∧ v.2.toInt ≤ 19998) ∧ lv_has ls 7 [(6, .int r_201), (5, .int y_148), (4, .int v.1), (3, .int v.2), (0, .ref o0), (1, .int a1), (2, .int a2)]) (fun v ls hI => ?_) (fun hj_80_209 => ?_)
        ·
          obtain ⟨y_208, y_209⟩ := v
          obtain ⟨b_y_208, b_y_209, hl⟩ := hI
          have b_y_208 : (-1 : Int) ≤ y_208.toInt ∧ y_208.toInt ≤ 19999 := b_y_208
          have b_y_209 : (-20000 : Int) ≤ y_209.toInt ∧ y_209.toInt ≤ 19998 := b_y_209
          have hl : lv_has ls 7 [(6, .int r_201), (5, .int y_148), (4, .int y_208), (3, .int y_209), (0, .ref o0), (1, .int a1), (2, .int a2)] := hl
          refine lv_iload hx hb dX10_gap_80 (lv_at hl 0 rfl) ?_
          refine lv_istore (lv' := [(5, .int r_201), (6, .int r_201), (4, .int y_208), (3, .int y_209), (0, .ref o0), (1, .int a1), (2, .int a2)]) hx hb dX10_gap_82 hl (by decide) rfl (fun ls hl => ?_)
          refine lv_goto (tgt := 34) hx hb dX10_gap_84 (by decide) ?_
          exact ih_34_182 (r_201, y_208, y_209) _ ⟨(show (-1 : Int) ≤ r_201.toInt ∧ r_201.toInt ≤ 19999 from b_r_201), (show (-1 : Int) ≤ y_208.toInt ∧ y_208.toInt ≤ 19999 from b_y_208), (show (-20000 : Int) ≤ y_209.toInt ∧ y_209.toInt ≤ 19998 from b_y_209), lv_sub hl [0, 2, 3, 4, 5, 6] rfl⟩ (show (20001 - r_201.toInt % 20002).toNat < (20001 - y_148.toInt % 20002).toNat by omega)
        ·
          refine lv_icmp_eq (tgt := 80) hx hb dX10_gap_54 (by decide) (fun c_202 => ?_) (fun c_202 => ?_)
          ·
            have n_c_202 : (r_201.toInt : Int) = (-1) := c_eq rfl (by decide) c_202
            have b_r_201 : (-1 : Int) ≤ r_201.toInt ∧ r_201.toInt ≤ -1 := r_eq1 b_r_201 (by decide : (-1 : Int) ≤ ((-1) : Int32).toInt ∧ ((-1) : Int32).toInt ≤ -1) n_c_202 (by decide)
            exact hj_80_209 (y_149, y_150) _ ⟨(show (-1 : Int) ≤ y_149.toInt ∧ y_149.toInt ≤ 19999 from b_y_149), (show (-20000 : Int) ≤ y_150.toInt ∧ y_150.toInt ≤ 19998 from b_y_150), lv_sub hl [0, 1, 2, 3, 4, 5, 6] rfl⟩
          ·
            have n_c_202 : (r_201.toInt : Int) ≠ (-1) := c_ne rfl (by decide) c_202
            have b_r_201 : (0 : Int) ≤ r_201.toInt ∧ r_201.toInt ≤ 19999 := r_ne1 b_r_201 (by decide : (-1 : Int) ≤ ((-1) : Int32).toInt ∧ ((-1) : Int32).toInt ≤ -1) n_c_202 (by decide)
            refine lv_iload hx hb dX10_gap_57 (lv_at hl 0 rfl) ?_
            refine lv_iload hx hb dX10_gap_59 (lv_at hl 1 rfl) ?_
            refine lv_isub hx hb dX10_gap_61 ?_
            refine lv_topi (fun z_210 e_z_210 => ?_)
            obtain ⟨q_z_210, b_z_210⟩ := ti_sub (lo := -19999) (hi := 19999) e_z_210 rfl rfl b_r_201 b_y_148 (by decide)
            refine lv_iconst (v := 1) hx hb dX10_gap_62 (by decide) ?_
            refine lv_isub hx hb dX10_gap_63 ?_
            refine lv_topi (fun z_211 e_z_211 => ?_)
            obtain ⟨q_z_211, b_z_211⟩ := ti_sub (lo := -20000) (hi := 19998) e_z_211 rfl (by decide : (1 : Int32).toInt = 1) b_z_210 (by decide : (1 : Int) ≤ (1 : Int32).toInt ∧ (1 : Int32).toInt ≤ 1) (by decide)
            refine lv_iload_n hx hb dX10_gap_64 rfl (lv_at hl 3 rfl) ?_
            refine lv_icmp_le (tgt := 80) hx hb dX10_gap_65 (by decide) (fun c_212 => ?_) (fun c_212 => ?_)
            ·
              have n_c_212 : (z_211.toInt : Int) ≤ y_150.toInt := c_le rfl rfl c_212
              exact hj_80_209 (y_149, y_150) _ ⟨(show (-1 : Int) ≤ y_149.toInt ∧ y_149.toInt ≤ 19999 from b_y_149), (show (-20000 : Int) ≤ y_150.toInt ∧ y_150.toInt ≤ 19998 from b_y_150), lv_sub hl [0, 1, 2, 3, 4, 5, 6] rfl⟩
            ·
              have n_c_212 : (y_150.toInt : Int) < z_211.toInt := c_nle rfl rfl c_212
              have b_y_150 : (-20000 : Int) ≤ y_150.toInt ∧ y_150.toInt ≤ 19997 := r_lt1 b_y_150 b_z_211 n_c_212 (by decide)
              have b_z_211 : (-19999 : Int) ≤ z_211.toInt ∧ z_211.toInt ≤ 19998 := r_lt2 b_y_150 b_z_211 n_c_212 (by decide)
              refine lv_iload hx hb dX10_gap_68 (lv_at hl 0 rfl) ?_
              refine lv_iload hx hb dX10_gap_70 (lv_at hl 1 rfl) ?_
              refine lv_isub hx hb dX10_gap_72 ?_
              refine lv_topi (fun z_213 e_z_213 => ?_)
              obtain ⟨q_z_213, b_z_213⟩ := ti_sub (lo := -19999) (hi := 19999) e_z_213 rfl rfl b_r_201 b_y_148 (by decide)
              refine lv_iconst (v := 1) hx hb dX10_gap_73 (by decide) ?_
              refine lv_isub hx hb dX10_gap_74 ?_
              refine lv_topi (fun z_214 e_z_214 => ?_)
              obtain ⟨q_z_214, b_z_214⟩ := ti_sub (lo := -20000) (hi := 19998) e_z_214 rfl (by decide : (1 : Int32).toInt = 1) b_z_213 (by decide : (1 : Int) ≤ (1 : Int32).toInt ∧ (1 : Int32).toInt ≤ 1) (by decide)
              refine lv_istore_n (lv' := [(3, .int z_214), (6, .int r_201), (5, .int y_148), (4, .int y_149), (0, .ref o0), (1, .int a1), (2, .int a2)]) hx hb dX10_gap_75 rfl hl (by decide) rfl (fun ls hl => ?_)
              refine lv_iload hx hb dX10_gap_76 (lv_at hl 2 rfl) ?_
              refine lv_istore (lv' := [(4, .int y_148), (3, .int z_214), (6, .int r_201), (5, .int y_148), (0, .ref o0), (1, .int a1), (2, .int a2)]) hx hb dX10_gap_78 hl (by decide) rfl (fun ls hl => ?_)
              exact hj_80_209 (y_148, z_214) _ ⟨(show (-1 : Int) ≤ y_148.toInt ∧ y_148.toInt ≤ 19999 from (rg_w b_y_148 (by decide) (by decide))), (show (-20000 : Int) ≤ z_214.toInt ∧ z_214.toInt ≤ 19998 from b_z_214), lv_sub hl [2, 3, 0, 1, 4, 5, 6] rfl⟩
    ·
      have n_c_113 : (r_112.toInt : Int) = 0 := c_eq rfl (by decide) c_113
      have b_r_112 : (0 : Int) ≤ r_112.toInt ∧ r_112.toInt ≤ 0 := r_eq1 b_r_112 (by decide : (0 : Int) ≤ (0 : Int32).toInt ∧ (0 : Int32).toInt ≤ 0) n_c_113 (by decide)
      refine lv_bipush (v := (-2)) hx hb dX10_gap_18 (by decide) ?_
      exact W.iret (v := (-2)) hx hb hr (fun t ht hW => ⟨(-2), rfl, (rg_w (by decide : (-2 : Int) ≤ ((-2) : Int32).toInt ∧ ((-2) : Int32).toInt ≤ -2) (by decide) (by decide)), ht⟩) t_nil dX10_gap_20
theorem dX10_goesOn_0 : decode cX10_goesOn 0 = .ok (.iload_n 1, 1) := by decide +kernel
theorem dX10_goesOn_1 : decode cX10_goesOn 1 = .ok (.i2l, 1) := by decide +kernel
theorem dX10_goesOn_2 : decode cX10_goesOn 2 = .ok (.iload_n 2, 1) := by decide +kernel
theorem dX10_goesOn_3 : decode cX10_goesOn 3 = .ok (.i2l, 1) := by decide +kernel
theorem dX10_goesOn_4 : decode cX10_goesOn 4 = .ok (.ladd, 1) := by decide +kernel
theorem dX10_goesOn_5 : decode cX10_goesOn 5 = .ok (.aload_n 0, 1) := by decide +kernel
theorem dX10_goesOn_6 : decode cX10_goesOn 6 = .ok (.getfield 9, 3) := by decide +kernel
theorem dX10_goesOn_9 : decode cX10_goesOn 9 = .ok (.iconst 2, 1) := by decide +kernel
theorem dX10_goesOn_10 : decode cX10_goesOn 10 = .ok (.iaload, 1) := by decide +kernel
theorem dX10_goesOn_11 : decode cX10_goesOn 11 = .ok (.i2l, 1) := by decide +kernel
theorem dX10_goesOn_12 : decode cX10_goesOn 12 = .ok (.lrem, 1) := by decide +kernel
theorem dX10_goesOn_13 : decode cX10_goesOn 13 = .ok (.l2i, 1) := by decide +kernel
theorem dX10_goesOn_14 : decode cX10_goesOn 14 = .ok (.ireturn, 1) := by decide +kernel
def uX10_goesOn : List Cond := .code yX10_goesOn cX10_goesOn 3 (some .int) :: ([.fieldLink RX10 9 "LuckyTicketModel" "world" "[I"] ++ wsX100)
theorem iX10_goesOn_X10 : ∀ w ∈ wsX100, w ∈ uX10_goesOn := fun _ h => List.mem_cons_of_mem _ (List.mem_append_right _ h)
set_option maxHeartbeats 4000000 in
set_option maxRecDepth 100000 in
theorem kX10_goesOn (l : Launch) (dC : Nat → ClassId) (dI : Nat → Nat → Nat) (o0 : Nat) (x_th : Int32) (mwo : Nat) (mim : Nat) (mhi : Nat) (mlu : Nat) (mtp : Nat) (x_td : Int32) (mfv : Nat) (x_sz : Int32) (x_at : Int32) (x_fr : Int32) (x_to : Int32) (x_va : Int32) (x_fk : Int32) (x_fp : Int32) (mfr : Nat) (mwt : Nat) (x_wt : Int32) (x_op : Int32) (x_jo : Int32) (mfg : Nat) (mpl : Nat) (x_dr : Int64) (mtm : Nat) (mfa : Nat) (mqu : Nat) (mmo : Nat) (mwy : Nat) (mwn : Nat) (mma : Nat) (mwi : Nat) (mnu : Nat) (mmv : Nat) (c_wo : ClassId) (w_wo : Nat → Int32) (ln : Int32) (bs : Int32) (tk : Int32) (lw : Int32) (li : Int32) (a1 : Int32) (a2 : Int32) (b_ln : (0 : Int) ≤ ln.toInt ∧ ln.toInt ≤ 12) (b_bs : (0 : Int) ≤ bs.toInt ∧ bs.toInt ≤ 16) (b_tk : (0 : Int) ≤ tk.toInt ∧ tk.toInt ≤ 20000) (b_lw : (0 : Int) ≤ lw.toInt ∧ lw.toInt ≤ 9) (b_a1 : (0 : Int) ≤ a1.toInt ∧ a1.toInt ≤ 19999) (b_a2 : (1 : Int) ≤ a2.toInt ∧ a2.toInt ≤ 9999) (hw0 : w_wo 0 = ln) (hw1 : w_wo 1 = bs) (hw2 : w_wo 2 = tk) (hw3 : w_wo 3 = lw) (hw4 : w_wo 4 = li) (hwz : (ln.toInt = 0 ∧ bs.toInt = 0 ∧ tk.toInt = 0 ∧ lw.toInt = 0) ∨ (1 ≤ ln.toInt ∧ 2 ≤ bs.toInt ∧ 1 ≤ tk.toInt)) (htk : 1 ≤ tk.toInt) : Met l yX10_goesOn uX10_goesOn ({ frames := 0, cells := 0, slots := 0, locals := 0 }) (va_Pc [.ref o0, .int a1, .int a2] (pw (dC, dI) vwCl [(o0, .inr (8, [.int x_th, .ref mwo, .ref mim, .ref mhi, .ref mlu, .ref mtp, .int x_td, .ref mfv, .int x_sz, .int x_at, .int x_fr, .int x_to, .int x_va, .int x_fk, .int x_fp, .ref mfr, .ref mwt, .int x_wt, .int x_op, .int x_jo, .ref mfg, .ref mpl, .long x_dr, .ref mtm, .ref mfa, .ref mqu, .ref mmo, .ref mwy, .ref mwn, .ref mma, .ref mwi, .ref mnu, .ref mmv])), (mwo, .inl (c_wo, 1875, .inl w_wo))] [(c_wo, .int)])) (vp_Si (fun r => ((0 : Int) ≤ r.toInt ∧ r.toInt ≤ 19999))) 0 0 (fun _ => False) := by
  refine Met.ofW (cc := cX10_goesOn) (maxL := 3) (ret := (some .int)) (by decide) rfl ?_
  intro p e s m args below meth c s₁ B hml hv
  obtain ⟨rfl, hP, hK, hN⟩ := hv
  have hx := B.exec
  have hb := B.bytes
  have hr := B.returns
  have hts := atoms_spec (ws := uX10_goesOn) B.pre
  have hown : s.vm.findClass RX10 = some m.cls := findClass_of_methodNamed B.named
  have hlocks := B.notSynchronized
  have hl := lv_entry ([.ref o0, .int a1, .int a2]) (n := 3) (Nat.le_of_ble_eq_true rfl)
  rw [lg_entry_eq]
  generalize (lg_sl ([.ref o0, .int a1, .int a2]) ++ List.replicate (3 - (lg_sl ([.ref o0, .int a1, .int a2])).length) Slot.unset).toArray = ls at hl ⊢
  have hl : lv_has ls 3 [(0, .ref o0), (1, .int a1), (2, .int a2)] := hl
  refine lv_iload_n hx hb dX10_goesOn_0 rfl (lv_at hl 1 rfl) ?_
  obtain ⟨z_8, e_z_8⟩ : ∃ y : Int64, y = a1.toInt64 := ⟨_, rfl⟩
  refine lv_i2l (v := z_8) hx hb dX10_goesOn_1 e_z_8.symm ?_
  obtain ⟨q_z_8, b_z_8⟩ := ti_i2l e_z_8 b_a1
  refine lv_iload_n hx hb dX10_goesOn_2 rfl (lv_at hl 2 rfl) ?_
  obtain ⟨z_9, e_z_9⟩ : ∃ y : Int64, y = a2.toInt64 := ⟨_, rfl⟩
  refine lv_i2l (v := z_9) hx hb dX10_goesOn_3 e_z_9.symm ?_
  obtain ⟨q_z_9, b_z_9⟩ := ti_i2l e_z_9 b_a2
  refine lv_ladd hx hb dX10_goesOn_4 ?_
  refine lv_topl (fun z_10 e_z_10 => ?_)
  obtain ⟨q_z_10, b_z_10⟩ := tl_add (lo := 1) (hi := 29998) e_z_10 rfl rfl b_z_8 b_z_9 (by decide)
  refine lv_aload_n hx hb dX10_goesOn_5 rfl (lv_at hl 0 rfl) ?_
  refine va_get (D := (dC, dI)) (ci := 8) (v := .ref mwo) (C := RX10) (T := TX10) (N := 33) hx hb hts iX10_goesOn_X10 hown hK hP 0 rfl rfl 1 (by decide) (hts (.fieldLink RX10 9 "LuckyTicketModel" "world" "[I") (List.mem_of_getElem? (i := 1) rfl)) (fun _ h9 => h9) rfl dX10_goesOn_6 ?_
  refine lv_iconst (v := 2) hx hb dX10_goesOn_9 (by decide) ?_
  refine va_iald hx hb hK hP 1 0 rfl rfl (vp_in_b (by decide : (2 : Int) ≤ (2 : Int32).toInt ∧ (2 : Int32).toInt ≤ 2) (by decide) (by decide)) dX10_goesOn_10 ?_
  refine lv_topi (fun z_11 e_z_11 => ?_)
  obtain rfl : z_11 = tk := e_z_11.trans hw2
  obtain ⟨z_12, e_z_12⟩ : ∃ y : Int64, y = tk.toInt64 := ⟨_, rfl⟩
  refine lv_i2l (v := z_12) hx hb dX10_goesOn_11 e_z_12.symm ?_
  obtain ⟨q_z_12, b_z_12⟩ := ti_i2l e_z_12 b_tk
  have b_z_12 : (1 : Int) ≤ z_12.toInt ∧ z_12.toInt ≤ 20000 := ⟨by omega, (b_z_12).2⟩
  refine lv_lrem hx hb dX10_goesOn_12 (tl_ne b_z_12 (by decide)) ?_
  refine lv_topl (fun z_13 e_z_13 => ?_)
  obtain ⟨q_z_13, b_z_13⟩ := tl_rem (hi := 19999) e_z_13 rfl rfl b_z_10 b_z_12 (by decide)
  obtain ⟨z_14, e_z_14⟩ : ∃ y : Int32, y = z_13.toInt32 := ⟨_, rfl⟩
  refine lv_l2i (v := z_14) hx hb dX10_goesOn_13 e_z_14.symm ?_
  obtain ⟨q_z_14, b_z_14⟩ := ti_l2i e_z_14 b_z_13 (by decide)
  exact W.iret (v := z_14) hx hb hr (fun t ht hW => ⟨z_14, rfl, b_z_14, ht⟩) t_nil dX10_goesOn_14
theorem dX10_waits_0 : decode cX10_waits 0 = .ok (.aload_n 0, 1) := by decide +kernel
theorem dX10_waits_1 : decode cX10_waits 1 = .ok (.iload_n 1, 1) := by decide +kernel
theorem dX10_waits_2 : decode cX10_waits 2 = .ok (.iload_n 2, 1) := by decide +kernel
theorem dX10_waits_3 : decode cX10_waits 3 = .ok (.invokevirtual 313, 3) := by decide +kernel
theorem dX10_waits_6 : decode cX10_waits 6 = .ok (.ifCond .eq 10, 3) := by decide +kernel
theorem dX10_waits_9 : decode cX10_waits 9 = .ok (.iload_n 3, 1) := by decide +kernel
theorem dX10_waits_10 : decode cX10_waits 10 = .ok (.invokestatic 336, 3) := by decide +kernel
theorem dX10_waits_13 : decode cX10_waits 13 = .ok (.ifCond .ne 6, 3) := by decide +kernel
theorem dX10_waits_16 : decode cX10_waits 16 = .ok (.bipush (-2), 2) := by decide +kernel
theorem dX10_waits_18 : decode cX10_waits 18 = .ok (.ireturn, 1) := by decide +kernel
theorem dX10_waits_19 : decode cX10_waits 19 = .ok (.iload_n 2, 1) := by decide +kernel
theorem dX10_waits_20 : decode cX10_waits 20 = .ok (.istore 4, 2) := by decide +kernel
theorem dX10_waits_22 : decode cX10_waits 22 = .ok (.iconst 1, 1) := by decide +kernel
theorem dX10_waits_23 : decode cX10_waits 23 = .ok (.istore 5, 2) := by decide +kernel
theorem dX10_waits_25 : decode cX10_waits 25 = .ok (.iload 5, 2) := by decide +kernel
theorem dX10_waits_27 : decode cX10_waits 27 = .ok (.aload_n 0, 1) := by decide +kernel
theorem dX10_waits_28 : decode cX10_waits 28 = .ok (.getfield 9, 3) := by decide +kernel
theorem dX10_waits_31 : decode cX10_waits 31 = .ok (.iconst 2, 1) := by decide +kernel
theorem dX10_waits_32 : decode cX10_waits 32 = .ok (.iaload, 1) := by decide +kernel
theorem dX10_waits_33 : decode cX10_waits 33 = .ok (.if_icmp .gt 31, 3) := by decide +kernel
theorem dX10_waits_36 : decode cX10_waits 36 = .ok (.aload_n 0, 1) := by decide +kernel
theorem dX10_waits_37 : decode cX10_waits 37 = .ok (.iload 4, 2) := by decide +kernel
theorem dX10_waits_39 : decode cX10_waits 39 = .ok (.iload_n 3, 1) := by decide +kernel
theorem dX10_waits_40 : decode cX10_waits 40 = .ok (.invokevirtual 339, 3) := by decide +kernel
theorem dX10_waits_43 : decode cX10_waits 43 = .ok (.istore 4, 2) := by decide +kernel
theorem dX10_waits_45 : decode cX10_waits 45 = .ok (.aload_n 0, 1) := by decide +kernel
theorem dX10_waits_46 : decode cX10_waits 46 = .ok (.iload_n 1, 1) := by decide +kernel
theorem dX10_waits_47 : decode cX10_waits 47 = .ok (.iload 4, 2) := by decide +kernel
theorem dX10_waits_49 : decode cX10_waits 49 = .ok (.invokevirtual 316, 3) := by decide +kernel
theorem dX10_waits_52 : decode cX10_waits 52 = .ok (.ifCond .eq 6, 3) := by decide +kernel
theorem dX10_waits_55 : decode cX10_waits 55 = .ok (.iload 5, 2) := by decide +kernel
theorem dX10_waits_57 : decode cX10_waits 57 = .ok (.ireturn, 1) := by decide +kernel
theorem dX10_waits_58 : decode cX10_waits 58 = .ok (.iinc 5 1, 3) := by decide +kernel
theorem dX10_waits_61 : decode cX10_waits 61 = .ok (.goto (-36), 3) := by decide +kernel
theorem dX10_waits_64 : decode cX10_waits 64 = .ok (.iconst (-1), 1) := by decide +kernel
theorem dX10_waits_65 : decode cX10_waits 65 = .ok (.ireturn, 1) := by decide +kernel
def uX10_waits : List Cond := .code yX10_waits cX10_waits 6 (some .int) :: ([.methodLink RX10 313 yX10_isBoth, .instanceMethod yX10_isBoth, .selects RX10 yX10_isBoth yX10_isBoth, .initialized RX10, .code yX10_isBoth cX10_isBoth 3 (some .boolean), .methodLink RX10 89 yX10_isLaw, .instanceMethod yX10_isLaw, .selects RX10 yX10_isLaw yX10_isLaw, .code yX10_isLaw cX10_isLaw 2 (some .boolean), .fieldLink RX10 9 "LuckyTicketModel" "world" "[I", .methodLink RX10 82 yX10_in, .static yX10_in, .code yX10_in cX10_in 6 (some .boolean), .methodLink RX10 93 yX10_isTicket, .instanceMethod yX10_isTicket, .selects RX10 yX10_isTicket yX10_isTicket, .code yX10_isTicket cX10_isTicket 3 (some .boolean), .methodLink RX10 336 yX10_isStep, .static yX10_isStep, .code yX10_isStep cX10_isStep 1 (some .boolean), .constantLong RX10 334 (9999), .methodLink RX10 339 yX10_goesOn, .instanceMethod yX10_goesOn, .selects RX10 yX10_goesOn yX10_goesOn, .code yX10_goesOn cX10_goesOn 3 (some .int), .methodLink RX10 316 yX10_isLucky, .instanceMethod yX10_isLucky, .selects RX10 yX10_isLucky yX10_isLucky, .code yX10_isLucky cX10_isLucky 3 (some .boolean), .fieldLink RX10 20 "LuckyTicketModel" "luck" "[I"] ++ wsX100)
theorem iX10_waits_X10 : ∀ w ∈ wsX100, w ∈ uX10_waits := fun _ h => List.mem_cons_of_mem _ (List.mem_append_right _ h)
set_option maxRecDepth 20000 in
theorem gX10_waits__X10_isBoth_V313 : GoodIn uX10_waits (wsV RX10 313 RX10 yX10_isBoth uX10_isBoth) := goodIn_p _ [5, 9, 13, 17] rfl (by decide +kernel)
set_option maxRecDepth 20000 in
theorem gX10_waits__X10_isStep_S336 : GoodIn uX10_waits (va_wsS RX10 336 yX10_isStep uX10_isStep) := goodIn_p _ [20, 13] rfl (by decide +kernel)
set_option maxRecDepth 20000 in
theorem gX10_waits__X10_goesOn_V339 : GoodIn uX10_waits (wsV RX10 339 RX10 yX10_goesOn uX10_goesOn) := goodIn_p _ [25] rfl (by decide +kernel)
set_option maxRecDepth 20000 in
theorem gX10_waits__X10_isLucky_V316 : GoodIn uX10_waits (wsV RX10 316 RX10 yX10_isLucky uX10_isLucky) := goodIn_p _ [29] rfl (by decide +kernel)
set_option maxHeartbeats 4000000 in
set_option maxRecDepth 100000 in
theorem kX10_waits (l : Launch) (dC : Nat → ClassId) (dI : Nat → Nat → Nat) (o0 : Nat) (x_th : Int32) (mwo : Nat) (mim : Nat) (mhi : Nat) (mlu : Nat) (mtp : Nat) (x_td : Int32) (mfv : Nat) (x_sz : Int32) (x_at : Int32) (x_fr : Int32) (x_to : Int32) (x_va : Int32) (x_fk : Int32) (x_fp : Int32) (mfr : Nat) (mwt : Nat) (x_wt : Int32) (x_op : Int32) (x_jo : Int32) (mfg : Nat) (mpl : Nat) (x_dr : Int64) (mtm : Nat) (mfa : Nat) (mqu : Nat) (mmo : Nat) (mwy : Nat) (mwn : Nat) (mma : Nat) (mwi : Nat) (mnu : Nat) (mmv : Nat) (c_wo : ClassId) (c_lu : ClassId) (w_wo : Nat → Int32) (w_lu : Nat → Int32) (ln : Int32) (bs : Int32) (tk : Int32) (lw : Int32) (li : Int32) (a1 : Int32) (a2 : Int32) (a3 : Int32) (b_ln : (0 : Int) ≤ ln.toInt ∧ ln.toInt ≤ 12) (b_bs : (0 : Int) ≤ bs.toInt ∧ bs.toInt ≤ 16) (b_tk : (0 : Int) ≤ tk.toInt ∧ tk.toInt ≤ 20000) (b_lw : (0 : Int) ≤ lw.toInt ∧ lw.toInt ≤ 9) (hw0 : w_wo 0 = ln) (hw1 : w_wo 1 = bs) (hw2 : w_wo 2 = tk) (hw3 : w_wo 3 = lw) (hw4 : w_wo 4 = li) (hwz : (ln.toInt = 0 ∧ bs.toInt = 0 ∧ tk.toInt = 0 ∧ lw.toInt = 0) ∨ (1 ≤ ln.toInt ∧ 2 ≤ bs.toInt ∧ 1 ≤ tk.toInt)) : Met l yX10_waits uX10_waits ({ frames := 3, cells := 0, slots := 0, locals := 69 }) (va_Pc [.ref o0, .int a1, .int a2, .int a3] (pw (dC, dI) vwCl [(o0, .inr (8, [.int x_th, .ref mwo, .ref mim, .ref mhi, .ref mlu, .ref mtp, .int x_td, .ref mfv, .int x_sz, .int x_at, .int x_fr, .int x_to, .int x_va, .int x_fk, .int x_fp, .ref mfr, .ref mwt, .int x_wt, .int x_op, .int x_jo, .ref mfg, .ref mpl, .long x_dr, .ref mtm, .ref mfa, .ref mqu, .ref mmo, .ref mwy, .ref mwn, .ref mma, .ref mwi, .ref mnu, .ref mmv])), (mwo, .inl (c_wo, 1875, .inl w_wo)), (mlu, .inl (c_lu, 20000, .inl w_lu))] [(c_wo, .int), (c_lu, .int)])) (vp_Si (fun r => ((-2 : Int) ≤ r.toInt ∧ r.toInt ≤ 20000))) 0 0 (fun _ => False) := by
  refine Met.ofW (cc := cX10_waits) (maxL := 6) (ret := (some .int)) (by decide) rfl ?_
  intro p e s m args below meth c s₁ B hml hv
  obtain ⟨rfl, hP, hK, hN⟩ := hv
  have hx := B.exec
  have hb := B.bytes
  have hr := B.returns
  have hts := atoms_spec (ws := uX10_waits) B.pre
  have hown : s.vm.findClass RX10 = some m.cls := findClass_of_methodNamed B.named
  have hlocks := B.notSynchronized
  have hl := lv_entry ([.ref o0, .int a1, .int a2, .int a3]) (n := 6) (Nat.le_of_ble_eq_true rfl)
  rw [lg_entry_eq]
  generalize (lg_sl ([.ref o0, .int a1, .int a2, .int a3]) ++ List.replicate (6 - (lg_sl ([.ref o0, .int a1, .int a2, .int a3])).length) Slot.unset).toArray = ls at hl ⊢
  have hl : lv_has ls 6 [(0, .ref o0), (1, .int a1), (2, .int a2), (3, .int a3)] := hl
  refine lv_aload_n hx hb dX10_waits_0 rfl (lv_at hl 0 rfl) ?_
  refine lv_iload_n hx hb dX10_waits_1 rfl (lv_at hl 1 rfl) ?_
  refine lv_iload_n hx hb dX10_waits_2 rfl (lv_at hl 2 rfl) ?_
  refine vp_callSi (W.runV (As := [.int a1, .int a2]) (rest := []) ⟨hx, hb, hml, hown, hts⟩ (kX10_isBoth l dC dI o0 x_th mwo mim mhi mlu mtp x_td mfv x_sz x_at x_fr x_to x_va x_fk x_fp mfr mwt x_wt x_op x_jo mfg mpl x_dr mtm mfa mqu mmo mwy mwn mma mwi mnu mmv c_wo w_wo ln bs tk lw li a1 a2 b_ln b_bs b_tk b_lw (hw0) (hw1) (hw2) (hw3) (hw4) (hwz)) (cwV 2 hts gX10_waits__X10_isBoth_V313 rfl rfl rfl (by decide +kernel) ⟨lel 3 3 rfl, lel 69 69 rfl⟩) ⟨pw_fb, va_recv hK hP (ci := 8) (q0 := 0) rfl rfl, (pw_use hP hK hN [0, 1] rfl [0] rfl)⟩ rfl rfl hl.1 rfl (lv_room (Nat.le_of_ble_eq_true rfl)) dX10_waits_3 ⟨lel 0 0 rfl, lel 0 0 rfl⟩) (fun r_99 h_r_99 => ?_)
  obtain ⟨b_r_99, nz_r_99⟩ := h_r_99
  have b_r_99 : (0 : Int) ≤ r_99.toInt ∧ r_99.toInt ≤ 1 := b_r_99
  refine lv_if_eq (tgt := 16) hx hb dX10_waits_6 (by decide) (fun c_100 => ?_) (fun c_100 => ?_)
  ·
    have n_c_100 : (r_99.toInt : Int) = 0 := c_eq rfl (by decide) c_100
    have b_r_99 : (0 : Int) ≤ r_99.toInt ∧ r_99.toInt ≤ 0 := r_eq1 b_r_99 (by decide : (0 : Int) ≤ (0 : Int32).toInt ∧ (0 : Int32).toInt ≤ 0) n_c_100 (by decide)
    refine lv_bipush (v := (-2)) hx hb dX10_waits_16 (by decide) ?_
    exact W.iret (v := (-2)) hx hb hr (fun t ht hW => ⟨(-2), rfl, (rg_w (by decide : (-2 : Int) ≤ ((-2) : Int32).toInt ∧ ((-2) : Int32).toInt ≤ -2) (by decide) (by decide)), ht⟩) t_nil dX10_waits_18
  ·
    have n_c_100 : (r_99.toInt : Int) ≠ 0 := c_ne rfl (by decide) c_100
    have b_r_99 : (1 : Int) ≤ r_99.toInt ∧ r_99.toInt ≤ 1 := r_ne1 b_r_99 (by decide : (0 : Int) ≤ (0 : Int32).toInt ∧ (0 : Int32).toInt ≤ 0) n_c_100 (by decide)
    obtain ⟨b_a1, b_a2, g_101⟩ := nz_r_99 c_100
    refine lv_iload_n hx hb dX10_waits_9 rfl (lv_at hl 3 rfl) ?_
    refine vp_callSi (W.runS (As := [.int a3]) (rest := []) ⟨hx, hb, hml, hown, hts⟩ (kX10_isStep l dC dI a3 ) (va_cwS 1 hts gX10_waits__X10_isStep_S336 rfl rfl rfl (by decide +kernel) ⟨lel 2 3 rfl, lel 45 69 rfl⟩) ⟨pn_fb, pn_use⟩ rfl rfl hl.1 rfl (lv_room (Nat.le_of_ble_eq_true rfl)) dX10_waits_10 ⟨lel 0 0 rfl, lel 0 0 rfl⟩) (fun r_102 h_r_102 => ?_)
    obtain ⟨b_r_102, nz_r_102⟩ := h_r_102
    have b_r_102 : (0 : Int) ≤ r_102.toInt ∧ r_102.toInt ≤ 1 := b_r_102
    refine lv_if_ne (tgt := 19) hx hb dX10_waits_13 (by decide) (fun c_103 => ?_) (fun c_103 => ?_)
    ·
      have n_c_103 : (r_102.toInt : Int) ≠ 0 := c_ne rfl (by decide) c_103
      have b_r_102 : (1 : Int) ≤ r_102.toInt ∧ r_102.toInt ≤ 1 := r_ne1 b_r_102 (by decide : (0 : Int) ≤ (0 : Int32).toInt ∧ (0 : Int32).toInt ≤ 0) n_c_103 (by decide)
      obtain ⟨b_a3, g_104⟩ := nz_r_102 c_103
      refine lv_iload_n hx hb dX10_waits_19 rfl (lv_at hl 2 rfl) ?_
      refine lv_istore (lv' := [(4, .int a2), (0, .ref o0), (1, .int a1), (2, .int a2), (3, .int a3)]) hx hb dX10_waits_20 hl (by decide) rfl (fun ls hl => ?_)
      refine lv_iconst (v := 1) hx hb dX10_waits_22 (by decide) ?_
      refine lv_istore (lv' := [(5, .int 1), (4, .int a2), (0, .ref o0), (1, .int a1), (2, .int a2), (3, .int a3)]) hx hb dX10_waits_23 hl (by decide) rfl (fun ls hl => ?_)
      refine loopP (σ := Int32 × Int32) (fun v => (20001 - v.1.toInt).toNat) (fun v ls => ((1 : Int) ≤ v.1.toInt ∧ v.1.toInt ≤ 20001) ∧ ((0 : Int) ≤ v.2.toInt ∧ v.2.toInt ≤ 19999) ∧ lv_has ls 6 [(5, .int v.1), (4, .int v.2), (0, .ref o0), (1, .int a1), (2, .int a2), (3, .int a3)]) (fun v ls hI ih_25_190 => ?_) ((1 : Int32), a2) ⟨(show (1 : Int) ≤ (1 : Int32).toInt ∧ (1 : Int32).toInt ≤ 20001 from (rg_w (by decide : (1 : Int) ≤ (1 : Int32).toInt ∧ (1 : Int32).toInt ≤ 1) (by decide) (by decide))), (show (0 : Int) ≤ a2.toInt ∧ a2.toInt ≤ 19999 from b_a2), lv_sub hl [0, 1, 2, 3, 4, 5] rfl⟩
      obtain ⟨y_111, y_112⟩ := v
      obtain ⟨b_y_111, b_y_112, hl⟩ := hI
      have b_y_111 : (1 : Int) ≤ y_111.toInt ∧ y_111.toInt ≤ 20001 := b_y_111
      have b_y_112 : (0 : Int) ≤ y_112.toInt ∧ y_112.toInt ≤ 19999 := b_y_112
      have hl : lv_has ls 6 [(5, .int y_111), (4, .int y_112), (0, .ref o0), (1, .int a1), (2, .int a2), (3, .int a3)] := hl
      refine lv_iload hx hb dX10_waits_25 (lv_at hl 0 rfl) ?_
      refine lv_aload_n hx hb dX10_waits_27 rfl (lv_at hl 2 rfl) ?_
      refine va_get (D := (dC, dI)) (ci := 8) (v := .ref mwo) (C := RX10) (T := TX10) (N := 33) hx hb hts iX10_waits_X10 hown hK hP 0 rfl rfl 1 (by decide) (hts (.fieldLink RX10 9 "LuckyTicketModel" "world" "[I") (List.mem_of_getElem? (i := 10) rfl)) (fun _ h9 => h9) rfl dX10_waits_28 ?_
      refine lv_iconst (v := 2) hx hb dX10_waits_31 (by decide) ?_
      refine va_iald hx hb hK hP 1 0 rfl rfl (vp_in_b (by decide : (2 : Int) ≤ (2 : Int32).toInt ∧ (2 : Int32).toInt ≤ 2) (by decide) (by decide)) dX10_waits_32 ?_
      refine lv_topi (fun z_191 e_z_191 => ?_)
      obtain rfl : z_191 = tk := e_z_191.trans hw2
      refine lv_icmp_gt (tgt := 64) hx hb dX10_waits_33 (by decide) (fun c_192 => ?_) (fun c_192 => ?_)
      ·
        have n_c_192 : (tk.toInt : Int) < y_111.toInt := c_gt rfl rfl c_192
        refine lv_iconst (v := (-1)) hx hb dX10_waits_64 (by decide) ?_
        exact W.iret (v := (-1)) hx hb hr (fun t ht hW => ⟨(-1), rfl, (rg_w (by decide : (-1 : Int) ≤ ((-1) : Int32).toInt ∧ ((-1) : Int32).toInt ≤ -1) (by decide) (by decide)), ht⟩) t_nil dX10_waits_65
      ·
        have n_c_192 : (y_111.toInt : Int) ≤ tk.toInt := c_ngt rfl rfl c_192
        have b_y_111 : (1 : Int) ≤ y_111.toInt ∧ y_111.toInt ≤ 20000 := r_le1 b_y_111 b_tk n_c_192 (by decide)
        have b_tk : (1 : Int) ≤ tk.toInt ∧ tk.toInt ≤ 20000 := r_le2 b_y_111 b_tk n_c_192 (by decide)
        refine lv_aload_n hx hb dX10_waits_36 rfl (lv_at hl 2 rfl) ?_
        refine lv_iload hx hb dX10_waits_37 (lv_at hl 1 rfl) ?_
        refine lv_iload_n hx hb dX10_waits_39 rfl (lv_at hl 5 rfl) ?_
        refine vp_callSi (W.runV (As := [.int y_112, .int a3]) (rest := []) ⟨hx, hb, hml, hown, hts⟩ (kX10_goesOn l dC dI o0 x_th mwo mim mhi mlu mtp x_td mfv x_sz x_at x_fr x_to x_va x_fk x_fp mfr mwt x_wt x_op x_jo mfg mpl x_dr mtm mfa mqu mmo mwy mwn mma mwi mnu mmv c_wo w_wo ln bs tk lw li y_112 a3 b_ln b_bs (rg_w b_tk (by decide) (by decide)) b_lw b_y_112 b_a3 (hw0) (hw1) (hw2) (hw3) (hw4) (hwz) (by omega)) (cwV 2 hts gX10_waits__X10_goesOn_V339 rfl rfl rfl (by decide +kernel) ⟨lel 1 3 rfl, lel 22 69 rfl⟩) ⟨pw_fb, va_recv hK hP (ci := 8) (q0 := 0) rfl rfl, (pw_use hP hK hN [0, 1] rfl [0] rfl)⟩ rfl rfl hl.1 rfl (lv_room (Nat.le_of_ble_eq_true rfl)) dX10_waits_40 ⟨lel 0 0 rfl, lel 0 0 rfl⟩) (fun r_193 h_r_193 => ?_)
        have b_r_193 := h_r_193
        have b_r_193 : (0 : Int) ≤ r_193.toInt ∧ r_193.toInt ≤ 19999 := b_r_193
        refine lv_istore (lv' := [(4, .int r_193), (5, .int y_111), (0, .ref o0), (1, .int a1), (2, .int a2), (3, .int a3)]) hx hb dX10_waits_43 hl (by decide) rfl (fun ls hl => ?_)
        refine lv_aload_n hx hb dX10_waits_45 rfl (lv_at hl 2 rfl) ?_
        refine lv_iload_n hx hb dX10_waits_46 rfl (lv_at hl 3 rfl) ?_
        refine lv_iload hx hb dX10_waits_47 (lv_at hl 0 rfl) ?_
        refine vp_callSi (W.runV (As := [.int a1, .int r_193]) (rest := []) ⟨hx, hb, hml, hown, hts⟩ (kX10_isLucky l dC dI o0 x_th mwo mim mhi mlu mtp x_td mfv x_sz x_at x_fr x_to x_va x_fk x_fp mfr mwt x_wt x_op x_jo mfg mpl x_dr mtm mfa mqu mmo mwy mwn mma mwi mnu mmv c_wo c_lu w_wo w_lu ln bs tk lw li a1 r_193 b_ln b_bs (rg_w b_tk (by decide) (by decide)) b_lw b_r_193 (hw0) (hw1) (hw2) (hw3) (hw4) (hwz)) (cwV 2 hts gX10_waits__X10_isLucky_V316 rfl rfl rfl (by decide +kernel) ⟨lel 1 3 rfl, lel 22 69 rfl⟩) ⟨pw_fb, va_recv hK hP (ci := 8) (q0 := 0) rfl rfl, (pw_use hP hK hN [0, 1, 2] rfl [0, 1] rfl)⟩ rfl rfl hl.1 rfl (lv_room (Nat.le_of_ble_eq_true rfl)) dX10_waits_49 ⟨lel 0 0 rfl, lel 0 0 rfl⟩) (fun r_194 h_r_194 => ?_)
        have b_r_194 := h_r_194
        have b_r_194 : (0 : Int) ≤ r_194.toInt ∧ r_194.toInt ≤ 1 := b_r_194
        refine lv_if_eq (tgt := 58) hx hb dX10_waits_52 (by decide) (fun c_195 => ?_) (fun c_195 => ?_)
        ·
          have n_c_195 : (r_194.toInt : Int) = 0 := c_eq rfl (by decide) c_195
          have b_r_194 : (0 : Int) ≤ r_194.toInt ∧ r_194.toInt ≤ 0 := r_eq1 b_r_194 (by decide : (0 : Int) ≤ (0 : Int32).toInt ∧ (0 : Int32).toInt ≤ 0) n_c_195 (by decide)
          obtain ⟨z_196, e_z_196⟩ : ∃ y : Int32, y = y_111 + 1 := ⟨_, rfl⟩
          refine lv_iinc (v := z_196) (lv' := [(5, .int z_196), (4, .int r_193), (0, .ref o0), (1, .int a1), (2, .int a2), (3, .int a3)]) hx hb dX10_waits_58 hl (k := 1) rfl (by rw [e_z_196]; rfl) (by decide) rfl (fun ls hl => ?_)
          obtain ⟨q_z_196, b_z_196⟩ := ti_add (lo := 2) (hi := 20001) e_z_196 rfl (by decide : (1 : Int32).toInt = 1) b_y_111 (by decide : (1 : Int) ≤ (1 : Int32).toInt ∧ (1 : Int32).toInt ≤ 1) (by decide)
          refine lv_goto (tgt := 25) hx hb dX10_waits_61 (by decide) ?_
          exact ih_25_190 (z_196, r_193) _ ⟨(show (1 : Int) ≤ z_196.toInt ∧ z_196.toInt ≤ 20001 from (rg_w b_z_196 (by decide) (by decide))), (show (0 : Int) ≤ r_193.toInt ∧ r_193.toInt ≤ 19999 from b_r_193), lv_sub hl [0, 1, 2, 3, 4, 5] rfl⟩ (show (20001 - z_196.toInt).toNat < (20001 - y_111.toInt).toNat by omega)
        ·
          have n_c_195 : (r_194.toInt : Int) ≠ 0 := c_ne rfl (by decide) c_195
          have b_r_194 : (1 : Int) ≤ r_194.toInt ∧ r_194.toInt ≤ 1 := r_ne1 b_r_194 (by decide : (0 : Int) ≤ (0 : Int32).toInt ∧ (0 : Int32).toInt ≤ 0) n_c_195 (by decide)
          refine lv_iload hx hb dX10_waits_55 (lv_at hl 1 rfl) ?_
          exact W.iret (v := y_111) hx hb hr (fun t ht hW => ⟨y_111, rfl, (rg_w b_y_111 (by decide) (by decide)), ht⟩) t_nil dX10_waits_57
    ·
      have n_c_103 : (r_102.toInt : Int) = 0 := c_eq rfl (by decide) c_103
      have b_r_102 : (0 : Int) ≤ r_102.toInt ∧ r_102.toInt ≤ 0 := r_eq1 b_r_102 (by decide : (0 : Int) ≤ (0 : Int32).toInt ∧ (0 : Int32).toInt ≤ 0) n_c_103 (by decide)
      refine lv_bipush (v := (-2)) hx hb dX10_waits_16 (by decide) ?_
      exact W.iret (v := (-2)) hx hb hr (fun t ht hW => ⟨(-2), rfl, (rg_w (by decide : (-2 : Int) ≤ ((-2) : Int32).toInt ∧ ((-2) : Int32).toInt ≤ -2) (by decide) (by decide)), ht⟩) t_nil dX10_waits_18
theorem dX10_hitsOf_0 : decode cX10_hitsOf 0 = .ok (.iconst 0, 1) := by decide +kernel
theorem dX10_hitsOf_1 : decode cX10_hitsOf 1 = .ok (.istore 5, 2) := by decide +kernel
theorem dX10_hitsOf_3 : decode cX10_hitsOf 3 = .ok (.iload_n 2, 1) := by decide +kernel
theorem dX10_hitsOf_4 : decode cX10_hitsOf 4 = .ok (.istore 6, 2) := by decide +kernel
theorem dX10_hitsOf_6 : decode cX10_hitsOf 6 = .ok (.iconst 0, 1) := by decide +kernel
theorem dX10_hitsOf_7 : decode cX10_hitsOf 7 = .ok (.istore 7, 2) := by decide +kernel
theorem dX10_hitsOf_9 : decode cX10_hitsOf 9 = .ok (.iload 7, 2) := by decide +kernel
theorem dX10_hitsOf_11 : decode cX10_hitsOf 11 = .ok (.iload 4, 2) := by decide +kernel
theorem dX10_hitsOf_13 : decode cX10_hitsOf 13 = .ok (.if_icmp .ge 38, 3) := by decide +kernel
theorem dX10_hitsOf_16 : decode cX10_hitsOf 16 = .ok (.iload 5, 2) := by decide +kernel
theorem dX10_hitsOf_18 : decode cX10_hitsOf 18 = .ok (.aload_n 0, 1) := by decide +kernel
theorem dX10_hitsOf_19 : decode cX10_hitsOf 19 = .ok (.iload_n 1, 1) := by decide +kernel
theorem dX10_hitsOf_20 : decode cX10_hitsOf 20 = .ok (.iload 6, 2) := by decide +kernel
theorem dX10_hitsOf_22 : decode cX10_hitsOf 22 = .ok (.invokevirtual 316, 3) := by decide +kernel
theorem dX10_hitsOf_25 : decode cX10_hitsOf 25 = .ok (.ifCond .eq 7, 3) := by decide +kernel
theorem dX10_hitsOf_28 : decode cX10_hitsOf 28 = .ok (.iconst 1, 1) := by decide +kernel
theorem dX10_hitsOf_29 : decode cX10_hitsOf 29 = .ok (.goto 4, 3) := by decide +kernel
theorem dX10_hitsOf_32 : decode cX10_hitsOf 32 = .ok (.iconst 0, 1) := by decide +kernel
theorem dX10_hitsOf_33 : decode cX10_hitsOf 33 = .ok (.iadd, 1) := by decide +kernel
theorem dX10_hitsOf_34 : decode cX10_hitsOf 34 = .ok (.istore 5, 2) := by decide +kernel
theorem dX10_hitsOf_36 : decode cX10_hitsOf 36 = .ok (.aload_n 0, 1) := by decide +kernel
theorem dX10_hitsOf_37 : decode cX10_hitsOf 37 = .ok (.iload 6, 2) := by decide +kernel
theorem dX10_hitsOf_39 : decode cX10_hitsOf 39 = .ok (.iload_n 3, 1) := by decide +kernel
theorem dX10_hitsOf_40 : decode cX10_hitsOf 40 = .ok (.invokevirtual 339, 3) := by decide +kernel
theorem dX10_hitsOf_43 : decode cX10_hitsOf 43 = .ok (.istore 6, 2) := by decide +kernel
theorem dX10_hitsOf_45 : decode cX10_hitsOf 45 = .ok (.iinc 7 1, 3) := by decide +kernel
theorem dX10_hitsOf_48 : decode cX10_hitsOf 48 = .ok (.goto (-39), 3) := by decide +kernel
theorem dX10_hitsOf_51 : decode cX10_hitsOf 51 = .ok (.iload 5, 2) := by decide +kernel
theorem dX10_hitsOf_53 : decode cX10_hitsOf 53 = .ok (.ireturn, 1) := by decide +kernel
def uX10_hitsOf : List Cond := .code yX10_hitsOf cX10_hitsOf 8 (some .int) :: ([.methodLink RX10 316 yX10_isLucky, .instanceMethod yX10_isLucky, .selects RX10 yX10_isLucky yX10_isLucky, .initialized RX10, .code yX10_isLucky cX10_isLucky 3 (some .boolean), .fieldLink RX10 20 "LuckyTicketModel" "luck" "[I", .methodLink RX10 339 yX10_goesOn, .instanceMethod yX10_goesOn, .selects RX10 yX10_goesOn yX10_goesOn, .code yX10_goesOn cX10_goesOn 3 (some .int), .fieldLink RX10 9 "LuckyTicketModel" "world" "[I"] ++ wsX100)
theorem iX10_hitsOf_X10 : ∀ w ∈ wsX100, w ∈ uX10_hitsOf := fun _ h => List.mem_cons_of_mem _ (List.mem_append_right _ h)
set_option maxRecDepth 20000 in
theorem gX10_hitsOf__X10_isLucky_V316 : GoodIn uX10_hitsOf (wsV RX10 316 RX10 yX10_isLucky uX10_isLucky) := goodIn_p _ [5] rfl (by decide +kernel)
set_option maxRecDepth 20000 in
theorem gX10_hitsOf__X10_goesOn_V339 : GoodIn uX10_hitsOf (wsV RX10 339 RX10 yX10_goesOn uX10_goesOn) := goodIn_p _ [10] rfl (by decide +kernel)
set_option maxHeartbeats 4000000 in
set_option maxRecDepth 100000 in
theorem kX10_hitsOf (l : Launch) (dC : Nat → ClassId) (dI : Nat → Nat → Nat) (o0 : Nat) (x_th : Int32) (mwo : Nat) (mim : Nat) (mhi : Nat) (mlu : Nat) (mtp : Nat) (x_td : Int32) (mfv : Nat) (x_sz : Int32) (x_at : Int32) (x_fr : Int32) (x_to : Int32) (x_va : Int32) (x_fk : Int32) (x_fp : Int32) (mfr : Nat) (mwt : Nat) (x_wt : Int32) (x_op : Int32) (x_jo : Int32) (mfg : Nat) (mpl : Nat) (x_dr : Int64) (mtm : Nat) (mfa : Nat) (mqu : Nat) (mmo : Nat) (mwy : Nat) (mwn : Nat) (mma : Nat) (mwi : Nat) (mnu : Nat) (mmv : Nat) (c_wo : ClassId) (c_lu : ClassId) (w_wo : Nat → Int32) (w_lu : Nat → Int32) (ln : Int32) (bs : Int32) (tk : Int32) (lw : Int32) (li : Int32) (a1 : Int32) (a2 : Int32) (a3 : Int32) (a4 : Int32) (b_ln : (0 : Int) ≤ ln.toInt ∧ ln.toInt ≤ 12) (b_bs : (0 : Int) ≤ bs.toInt ∧ bs.toInt ≤ 16) (b_tk : (0 : Int) ≤ tk.toInt ∧ tk.toInt ≤ 20000) (b_lw : (0 : Int) ≤ lw.toInt ∧ lw.toInt ≤ 9) (b_a2 : (0 : Int) ≤ a2.toInt ∧ a2.toInt ≤ 19999) (b_a3 : (1 : Int) ≤ a3.toInt ∧ a3.toInt ≤ 9999) (hw0 : w_wo 0 = ln) (hw1 : w_wo 1 = bs) (hw2 : w_wo 2 = tk) (hw3 : w_wo 3 = lw) (hw4 : w_wo 4 = li) (hwz : (ln.toInt = 0 ∧ bs.toInt = 0 ∧ tk.toInt = 0 ∧ lw.toInt = 0) ∨ (1 ≤ ln.toInt ∧ 2 ≤ bs.toInt ∧ 1 ≤ tk.toInt)) (htk : 1 ≤ tk.toInt) : Met l yX10_hitsOf uX10_hitsOf ({ frames := 1, cells := 0, slots := 0, locals := 22 }) (va_Pc [.ref o0, .int a1, .int a2, .int a3, .int a4] (pw (dC, dI) vwCl [(o0, .inr (8, [.int x_th, .ref mwo, .ref mim, .ref mhi, .ref mlu, .ref mtp, .int x_td, .ref mfv, .int x_sz, .int x_at, .int x_fr, .int x_to, .int x_va, .int x_fk, .int x_fp, .ref mfr, .ref mwt, .int x_wt, .int x_op, .int x_jo, .ref mfg, .ref mpl, .long x_dr, .ref mtm, .ref mfa, .ref mqu, .ref mmo, .ref mwy, .ref mwn, .ref mma, .ref mwi, .ref mnu, .ref mmv])), (mwo, .inl (c_wo, 1875, .inl w_wo)), (mlu, .inl (c_lu, 20000, .inl w_lu))] [(c_wo, .int), (c_lu, .int)])) (vp_Si (fun r => True)) 0 0 (fun _ => False) := by
  refine Met.ofW (cc := cX10_hitsOf) (maxL := 8) (ret := (some .int)) (by decide) rfl ?_
  intro p e s m args below meth c s₁ B hml hv
  obtain ⟨rfl, hP, hK, hN⟩ := hv
  have hx := B.exec
  have hb := B.bytes
  have hr := B.returns
  have hts := atoms_spec (ws := uX10_hitsOf) B.pre
  have hown : s.vm.findClass RX10 = some m.cls := findClass_of_methodNamed B.named
  have hlocks := B.notSynchronized
  have hl := lv_entry ([.ref o0, .int a1, .int a2, .int a3, .int a4]) (n := 8) (Nat.le_of_ble_eq_true rfl)
  rw [lg_entry_eq]
  generalize (lg_sl ([.ref o0, .int a1, .int a2, .int a3, .int a4]) ++ List.replicate (8 - (lg_sl ([.ref o0, .int a1, .int a2, .int a3, .int a4])).length) Slot.unset).toArray = ls at hl ⊢
  have hl : lv_has ls 8 [(0, .ref o0), (1, .int a1), (2, .int a2), (3, .int a3), (4, .int a4)] := hl
  refine lv_iconst (v := 0) hx hb dX10_hitsOf_0 (by decide) ?_
  refine lv_istore (lv' := [(5, .int 0), (0, .ref o0), (1, .int a1), (2, .int a2), (3, .int a3), (4, .int a4)]) hx hb dX10_hitsOf_1 hl (by decide) rfl (fun ls hl => ?_)
  refine lv_iload_n hx hb dX10_hitsOf_3 rfl (lv_at hl 3 rfl) ?_
  refine lv_istore (lv' := [(6, .int a2), (5, .int 0), (0, .ref o0), (1, .int a1), (2, .int a2), (3, .int a3), (4, .int a4)]) hx hb dX10_hitsOf_4 hl (by decide) rfl (fun ls hl => ?_)
  refine lv_iconst (v := 0) hx hb dX10_hitsOf_6 (by decide) ?_
  refine lv_istore (lv' := [(7, .int 0), (6, .int a2), (5, .int 0), (0, .ref o0), (1, .int a1), (2, .int a2), (3, .int a3), (4, .int a4)]) hx hb dX10_hitsOf_7 hl (by decide) rfl (fun ls hl => ?_)
  refine loopP (σ := Int32 × Int32 × Int32) (fun v => (2147483647 - v.1.toInt).toNat) (fun v ls => ((0 : Int) ≤ v.1.toInt ∧ v.1.toInt ≤ 2147483647) ∧ ((0 : Int) ≤ v.2.1.toInt ∧ v.2.1.toInt ≤ 19999) ∧ lv_has ls 8 [(7, .int v.1), (6, .int v.2.1), (5, .int v.2.2), (0, .ref o0), (1, .int a1), (2, .int a2), (3, .int a3), (4, .int a4)]) (fun v ls hI ih_9_237 => ?_) ((0 : Int32), a2, (0 : Int32)) ⟨(show (0 : Int) ≤ (0 : Int32).toInt ∧ (0 : Int32).toInt ≤ 2147483647 from (rg_w (by decide : (0 : Int) ≤ (0 : Int32).toInt ∧ (0 : Int32).toInt ≤ 0) (by decide) (by decide))), (show (0 : Int) ≤ a2.toInt ∧ a2.toInt ≤ 19999 from b_a2), lv_sub hl [0, 1, 2, 3, 4, 5, 6, 7] rfl⟩
  obtain ⟨y_130, y_131, y_132⟩ := v
  obtain ⟨b_y_130, b_y_131, hl⟩ := hI
  have b_y_130 : (0 : Int) ≤ y_130.toInt ∧ y_130.toInt ≤ 2147483647 := b_y_130
  have b_y_131 : (0 : Int) ≤ y_131.toInt ∧ y_131.toInt ≤ 19999 := b_y_131
  have hl : lv_has ls 8 [(7, .int y_130), (6, .int y_131), (5, .int y_132), (0, .ref o0), (1, .int a1), (2, .int a2), (3, .int a3), (4, .int a4)] := hl
  refine lv_iload hx hb dX10_hitsOf_9 (lv_at hl 0 rfl) ?_
  refine lv_iload hx hb dX10_hitsOf_11 (lv_at hl 7 rfl) ?_
  refine lv_icmp_ge (tgt := 51) hx hb dX10_hitsOf_13 (by decide) (fun c_238 => ?_) (fun c_238 => ?_)
  ·
    have n_c_238 : (a4.toInt : Int) ≤ y_130.toInt := c_ge rfl rfl c_238
    refine lv_iload hx hb dX10_hitsOf_51 (lv_at hl 2 rfl) ?_
    exact W.iret (v := y_132) hx hb hr (fun t ht hW => ⟨y_132, rfl, trivial, ht⟩) t_nil dX10_hitsOf_53
  ·
    have n_c_238 : (y_130.toInt : Int) < a4.toInt := c_nge rfl rfl c_238
    have b_y_130 : (0 : Int) ≤ y_130.toInt ∧ y_130.toInt ≤ 2147483646 := r_lt1 b_y_130 (ti_rng a4) n_c_238 (by decide)
    have b_a4 : (1 : Int) ≤ a4.toInt ∧ a4.toInt ≤ 2147483647 := r_lt2 b_y_130 (ti_rng a4) n_c_238 (by decide)
    refine lv_iload hx hb dX10_hitsOf_16 (lv_at hl 2 rfl) ?_
    refine lv_aload_n hx hb dX10_hitsOf_18 rfl (lv_at hl 3 rfl) ?_
    refine lv_iload_n hx hb dX10_hitsOf_19 rfl (lv_at hl 4 rfl) ?_
    refine lv_iload hx hb dX10_hitsOf_20 (lv_at hl 1 rfl) ?_
    refine vp_callSi (W.runV (As := [.int a1, .int y_131]) (rest := [.int y_132]) ⟨hx, hb, hml, hown, hts⟩ (kX10_isLucky l dC dI o0 x_th mwo mim mhi mlu mtp x_td mfv x_sz x_at x_fr x_to x_va x_fk x_fp mfr mwt x_wt x_op x_jo mfg mpl x_dr mtm mfa mqu mmo mwy mwn mma mwi mnu mmv c_wo c_lu w_wo w_lu ln bs tk lw li a1 y_131 b_ln b_bs b_tk b_lw b_y_131 (hw0) (hw1) (hw2) (hw3) (hw4) (hwz)) (cwV 2 hts gX10_hitsOf__X10_isLucky_V316 rfl rfl rfl (by decide +kernel) ⟨lel 1 1 rfl, lel 22 22 rfl⟩) ⟨pw_fb, va_recv hK hP (ci := 8) (q0 := 0) rfl rfl, (pw_use hP hK hN [0, 1, 2] rfl [0, 1] rfl)⟩ rfl rfl hl.1 rfl (lv_room (Nat.le_of_ble_eq_true rfl)) dX10_hitsOf_22 ⟨lel 0 0 rfl, lel 0 0 rfl⟩) (fun r_239 h_r_239 => ?_)
    have b_r_239 := h_r_239
    have b_r_239 : (0 : Int) ≤ r_239.toInt ∧ r_239.toInt ≤ 1 := b_r_239
    refine cutP (σ := Int32) (pc2 := 33) (st2 := fun v => [.int v, .int y_132]) (cells2 := 0) (slots2 := 0) (fun v ls => ((0 : Int) ≤ v.toInt ∧ v.toInt ≤ 1) ∧ lv_has ls 8 [(7, .int y_130), (6, .int y_131), (5, .int y_132), (0, .ref o0), (1, .int a1), (2, .int a2), (3, .int a3), (4, .int a4)]) (fun v ls hI => ?_) (fun hj_33_241 => ?_)
    ·
      obtain ⟨y_241, rfl⟩ : ∃ z, z = v := ⟨_, rfl⟩
      obtain ⟨b_y_241, hl⟩ := hI
      have b_y_241 : (0 : Int) ≤ y_241.toInt ∧ y_241.toInt ≤ 1 := b_y_241
      have hl : lv_has ls 8 [(7, .int y_130), (6, .int y_131), (5, .int y_132), (0, .ref o0), (1, .int a1), (2, .int a2), (3, .int a3), (4, .int a4)] := hl
      refine lv_iadd hx hb dX10_hitsOf_33 ?_
      refine lv_topi (fun z_242 e_z_242 => ?_)
      refine lv_istore (lv' := [(5, .int z_242), (7, .int y_130), (6, .int y_131), (0, .ref o0), (1, .int a1), (2, .int a2), (3, .int a3), (4, .int a4)]) hx hb dX10_hitsOf_34 hl (by decide) rfl (fun ls hl => ?_)
      refine lv_aload_n hx hb dX10_hitsOf_36 rfl (lv_at hl 3 rfl) ?_
      refine lv_iload hx hb dX10_hitsOf_37 (lv_at hl 2 rfl) ?_
      refine lv_iload_n hx hb dX10_hitsOf_39 rfl (lv_at hl 6 rfl) ?_
      refine vp_callSi (W.runV (As := [.int y_131, .int a3]) (rest := []) ⟨hx, hb, hml, hown, hts⟩ (kX10_goesOn l dC dI o0 x_th mwo mim mhi mlu mtp x_td mfv x_sz x_at x_fr x_to x_va x_fk x_fp mfr mwt x_wt x_op x_jo mfg mpl x_dr mtm mfa mqu mmo mwy mwn mma mwi mnu mmv c_wo w_wo ln bs tk lw li y_131 a3 b_ln b_bs b_tk b_lw b_y_131 b_a3 (hw0) (hw1) (hw2) (hw3) (hw4) (hwz) (by omega)) (cwV 2 hts gX10_hitsOf__X10_goesOn_V339 rfl rfl rfl (by decide +kernel) ⟨lel 1 1 rfl, lel 22 22 rfl⟩) ⟨pw_fb, va_recv hK hP (ci := 8) (q0 := 0) rfl rfl, (pw_use hP hK hN [0, 1] rfl [0] rfl)⟩ rfl rfl hl.1 rfl (lv_room (Nat.le_of_ble_eq_true rfl)) dX10_hitsOf_40 ⟨lel 0 0 rfl, lel 0 0 rfl⟩) (fun r_243 h_r_243 => ?_)
      have b_r_243 := h_r_243
      have b_r_243 : (0 : Int) ≤ r_243.toInt ∧ r_243.toInt ≤ 19999 := b_r_243
      refine lv_istore (lv' := [(6, .int r_243), (5, .int z_242), (7, .int y_130), (0, .ref o0), (1, .int a1), (2, .int a2), (3, .int a3), (4, .int a4)]) hx hb dX10_hitsOf_43 hl (by decide) rfl (fun ls hl => ?_)
      obtain ⟨z_244, e_z_244⟩ : ∃ y : Int32, y = y_130 + 1 := ⟨_, rfl⟩
      refine lv_iinc (v := z_244) (lv' := [(7, .int z_244), (6, .int r_243), (5, .int z_242), (0, .ref o0), (1, .int a1), (2, .int a2), (3, .int a3), (4, .int a4)]) hx hb dX10_hitsOf_45 hl (k := 2) rfl (by rw [e_z_244]; rfl) (by decide) rfl (fun ls hl => ?_)
      obtain ⟨q_z_244, b_z_244⟩ := ti_add (lo := 1) (hi := 2147483647) e_z_244 rfl (by decide : (1 : Int32).toInt = 1) b_y_130 (by decide : (1 : Int) ≤ (1 : Int32).toInt ∧ (1 : Int32).toInt ≤ 1) (by decide)
      refine lv_goto (tgt := 9) hx hb dX10_hitsOf_48 (by decide) ?_
      exact ih_9_237 (z_244, r_243, z_242) _ ⟨(show (0 : Int) ≤ z_244.toInt ∧ z_244.toInt ≤ 2147483647 from (rg_w b_z_244 (by decide) (by decide))), (show (0 : Int) ≤ r_243.toInt ∧ r_243.toInt ≤ 19999 from b_r_243), lv_sub hl [0, 1, 2, 3, 4, 5, 6, 7] rfl⟩ (show (2147483647 - z_244.toInt).toNat < (2147483647 - y_130.toInt).toNat by omega)
    ·
      refine lv_if_eq (tgt := 32) hx hb dX10_hitsOf_25 (by decide) (fun c_240 => ?_) (fun c_240 => ?_)
      ·
        have n_c_240 : (r_239.toInt : Int) = 0 := c_eq rfl (by decide) c_240
        have b_r_239 : (0 : Int) ≤ r_239.toInt ∧ r_239.toInt ≤ 0 := r_eq1 b_r_239 (by decide : (0 : Int) ≤ (0 : Int32).toInt ∧ (0 : Int32).toInt ≤ 0) n_c_240 (by decide)
        refine lv_iconst (v := 0) hx hb dX10_hitsOf_32 (by decide) ?_
        exact hj_33_241 (0 : Int32) _ ⟨(show (0 : Int) ≤ (0 : Int32).toInt ∧ (0 : Int32).toInt ≤ 1 from (rg_w (by decide : (0 : Int) ≤ (0 : Int32).toInt ∧ (0 : Int32).toInt ≤ 0) (by decide) (by decide))), lv_sub hl [0, 1, 2, 3, 4, 5, 6, 7] rfl⟩
      ·
        have n_c_240 : (r_239.toInt : Int) ≠ 0 := c_ne rfl (by decide) c_240
        have b_r_239 : (1 : Int) ≤ r_239.toInt ∧ r_239.toInt ≤ 1 := r_ne1 b_r_239 (by decide : (0 : Int) ≤ (0 : Int32).toInt ∧ (0 : Int32).toInt ≤ 0) n_c_240 (by decide)
        refine lv_iconst (v := 1) hx hb dX10_hitsOf_28 (by decide) ?_
        refine lv_goto (tgt := 33) hx hb dX10_hitsOf_29 (by decide) ?_
        exact hj_33_241 (1 : Int32) _ ⟨(show (0 : Int) ≤ (1 : Int32).toInt ∧ (1 : Int32).toInt ≤ 1 from (rg_w (by decide : (1 : Int) ≤ (1 : Int32).toInt ∧ (1 : Int32).toInt ≤ 1) (by decide) (by decide))), lv_sub hl [0, 1, 2, 3, 4, 5, 6, 7] rfl⟩
theorem dX10_hits_0 : decode cX10_hits 0 = .ok (.aload_n 0, 1) := by decide +kernel
theorem dX10_hits_1 : decode cX10_hits 1 = .ok (.iload_n 1, 1) := by decide +kernel
theorem dX10_hits_2 : decode cX10_hits 2 = .ok (.iload_n 2, 1) := by decide +kernel
theorem dX10_hits_3 : decode cX10_hits 3 = .ok (.invokevirtual 313, 3) := by decide +kernel
theorem dX10_hits_6 : decode cX10_hits 6 = .ok (.ifCond .eq 35, 3) := by decide +kernel
theorem dX10_hits_9 : decode cX10_hits 9 = .ok (.iload_n 3, 1) := by decide +kernel
theorem dX10_hits_10 : decode cX10_hits 10 = .ok (.invokestatic 336, 3) := by decide +kernel
theorem dX10_hits_13 : decode cX10_hits 13 = .ok (.ifCond .eq 28, 3) := by decide +kernel
theorem dX10_hits_16 : decode cX10_hits 16 = .ok (.iload 4, 2) := by decide +kernel
theorem dX10_hits_18 : decode cX10_hits 18 = .ok (.i2l, 1) := by decide +kernel
theorem dX10_hits_19 : decode cX10_hits 19 = .ok (.lconst 0, 1) := by decide +kernel
theorem dX10_hits_20 : decode cX10_hits 20 = .ok (.ldc2_w 261, 3) := by decide +kernel
theorem dX10_hits_23 : decode cX10_hits 23 = .ok (.invokestatic 82, 3) := by decide +kernel
theorem dX10_hits_26 : decode cX10_hits 26 = .ok (.ifCond .eq 15, 3) := by decide +kernel
theorem dX10_hits_29 : decode cX10_hits 29 = .ok (.aload_n 0, 1) := by decide +kernel
theorem dX10_hits_30 : decode cX10_hits 30 = .ok (.iload_n 1, 1) := by decide +kernel
theorem dX10_hits_31 : decode cX10_hits 31 = .ok (.iload_n 2, 1) := by decide +kernel
theorem dX10_hits_32 : decode cX10_hits 32 = .ok (.iload_n 3, 1) := by decide +kernel
theorem dX10_hits_33 : decode cX10_hits 33 = .ok (.iload 4, 2) := by decide +kernel
theorem dX10_hits_35 : decode cX10_hits 35 = .ok (.invokevirtual 342, 3) := by decide +kernel
theorem dX10_hits_38 : decode cX10_hits 38 = .ok (.goto 5, 3) := by decide +kernel
theorem dX10_hits_41 : decode cX10_hits 41 = .ok (.bipush (-2), 2) := by decide +kernel
theorem dX10_hits_43 : decode cX10_hits 43 = .ok (.ireturn, 1) := by decide +kernel
def uX10_hits : List Cond := .code yX10_hits cX10_hits 5 (some .int) :: ([.methodLink RX10 313 yX10_isBoth, .instanceMethod yX10_isBoth, .selects RX10 yX10_isBoth yX10_isBoth, .initialized RX10, .code yX10_isBoth cX10_isBoth 3 (some .boolean), .methodLink RX10 89 yX10_isLaw, .instanceMethod yX10_isLaw, .selects RX10 yX10_isLaw yX10_isLaw, .code yX10_isLaw cX10_isLaw 2 (some .boolean), .fieldLink RX10 9 "LuckyTicketModel" "world" "[I", .methodLink RX10 82 yX10_in, .static yX10_in, .code yX10_in cX10_in 6 (some .boolean), .methodLink RX10 93 yX10_isTicket, .instanceMethod yX10_isTicket, .selects RX10 yX10_isTicket yX10_isTicket, .code yX10_isTicket cX10_isTicket 3 (some .boolean), .methodLink RX10 336 yX10_isStep, .static yX10_isStep, .code yX10_isStep cX10_isStep 1 (some .boolean), .constantLong RX10 334 (9999), .constantLong RX10 261 (20000), .methodLink RX10 342 yX10_hitsOf, .instanceMethod yX10_hitsOf, .selects RX10 yX10_hitsOf yX10_hitsOf, .code yX10_hitsOf cX10_hitsOf 8 (some .int), .methodLink RX10 316 yX10_isLucky, .instanceMethod yX10_isLucky, .selects RX10 yX10_isLucky yX10_isLucky, .code yX10_isLucky cX10_isLucky 3 (some .boolean), .fieldLink RX10 20 "LuckyTicketModel" "luck" "[I", .methodLink RX10 339 yX10_goesOn, .instanceMethod yX10_goesOn, .selects RX10 yX10_goesOn yX10_goesOn, .code yX10_goesOn cX10_goesOn 3 (some .int)] ++ wsX100)
theorem iX10_hits_X10 : ∀ w ∈ wsX100, w ∈ uX10_hits := fun _ h => List.mem_cons_of_mem _ (List.mem_append_right _ h)
set_option maxRecDepth 20000 in
theorem gX10_hits__X10_isBoth_V313 : GoodIn uX10_hits (wsV RX10 313 RX10 yX10_isBoth uX10_isBoth) := goodIn_p _ [5, 9, 13, 17] rfl (by decide +kernel)
set_option maxRecDepth 20000 in
theorem gX10_hits__X10_isStep_S336 : GoodIn uX10_hits (va_wsS RX10 336 yX10_isStep uX10_isStep) := goodIn_p _ [20, 13] rfl (by decide +kernel)
set_option maxRecDepth 20000 in
theorem gX10_hits__X10_in_S82 : GoodIn uX10_hits (va_wsS RX10 82 yX10_in uX10_in) := goodIn_p _ [13] rfl (by decide +kernel)
set_option maxRecDepth 20000 in
theorem gX10_hits__X10_hitsOf_V342 : GoodIn uX10_hits (wsV RX10 342 RX10 yX10_hitsOf uX10_hitsOf) := goodIn_p _ [26, 30, 35] rfl (by decide +kernel)
set_option maxHeartbeats 4000000 in
set_option maxRecDepth 100000 in
theorem kX10_hits (l : Launch) (dC : Nat → ClassId) (dI : Nat → Nat → Nat) (o0 : Nat) (x_th : Int32) (mwo : Nat) (mim : Nat) (mhi : Nat) (mlu : Nat) (mtp : Nat) (x_td : Int32) (mfv : Nat) (x_sz : Int32) (x_at : Int32) (x_fr : Int32) (x_to : Int32) (x_va : Int32) (x_fk : Int32) (x_fp : Int32) (mfr : Nat) (mwt : Nat) (x_wt : Int32) (x_op : Int32) (x_jo : Int32) (mfg : Nat) (mpl : Nat) (x_dr : Int64) (mtm : Nat) (mfa : Nat) (mqu : Nat) (mmo : Nat) (mwy : Nat) (mwn : Nat) (mma : Nat) (mwi : Nat) (mnu : Nat) (mmv : Nat) (c_wo : ClassId) (c_lu : ClassId) (w_wo : Nat → Int32) (w_lu : Nat → Int32) (ln : Int32) (bs : Int32) (tk : Int32) (lw : Int32) (li : Int32) (a1 : Int32) (a2 : Int32) (a3 : Int32) (a4 : Int32) (b_ln : (0 : Int) ≤ ln.toInt ∧ ln.toInt ≤ 12) (b_bs : (0 : Int) ≤ bs.toInt ∧ bs.toInt ≤ 16) (b_tk : (0 : Int) ≤ tk.toInt ∧ tk.toInt ≤ 20000) (b_lw : (0 : Int) ≤ lw.toInt ∧ lw.toInt ≤ 9) (hw0 : w_wo 0 = ln) (hw1 : w_wo 1 = bs) (hw2 : w_wo 2 = tk) (hw3 : w_wo 3 = lw) (hw4 : w_wo 4 = li) (hwz : (ln.toInt = 0 ∧ bs.toInt = 0 ∧ tk.toInt = 0 ∧ lw.toInt = 0) ∨ (1 ≤ ln.toInt ∧ 2 ≤ bs.toInt ∧ 1 ≤ tk.toInt)) : Met l yX10_hits uX10_hits ({ frames := 3, cells := 0, slots := 0, locals := 69 }) (va_Pc [.ref o0, .int a1, .int a2, .int a3, .int a4] (pw (dC, dI) vwCl [(o0, .inr (8, [.int x_th, .ref mwo, .ref mim, .ref mhi, .ref mlu, .ref mtp, .int x_td, .ref mfv, .int x_sz, .int x_at, .int x_fr, .int x_to, .int x_va, .int x_fk, .int x_fp, .ref mfr, .ref mwt, .int x_wt, .int x_op, .int x_jo, .ref mfg, .ref mpl, .long x_dr, .ref mtm, .ref mfa, .ref mqu, .ref mmo, .ref mwy, .ref mwn, .ref mma, .ref mwi, .ref mnu, .ref mmv])), (mwo, .inl (c_wo, 1875, .inl w_wo)), (mlu, .inl (c_lu, 20000, .inl w_lu))] [(c_wo, .int), (c_lu, .int)])) (vp_Si (fun r => True)) 0 0 (fun _ => False) := by
  refine Met.ofW (cc := cX10_hits) (maxL := 5) (ret := (some .int)) (by decide) rfl ?_
  intro p e s m args below meth c s₁ B hml hv
  obtain ⟨rfl, hP, hK, hN⟩ := hv
  have hx := B.exec
  have hb := B.bytes
  have hr := B.returns
  have hts := atoms_spec (ws := uX10_hits) B.pre
  have hown : s.vm.findClass RX10 = some m.cls := findClass_of_methodNamed B.named
  have hlocks := B.notSynchronized
  have hl := lv_entry ([.ref o0, .int a1, .int a2, .int a3, .int a4]) (n := 5) (Nat.le_of_ble_eq_true rfl)
  rw [lg_entry_eq]
  generalize (lg_sl ([.ref o0, .int a1, .int a2, .int a3, .int a4]) ++ List.replicate (5 - (lg_sl ([.ref o0, .int a1, .int a2, .int a3, .int a4])).length) Slot.unset).toArray = ls at hl ⊢
  have hl : lv_has ls 5 [(0, .ref o0), (1, .int a1), (2, .int a2), (3, .int a3), (4, .int a4)] := hl
  refine lv_aload_n hx hb dX10_hits_0 rfl (lv_at hl 0 rfl) ?_
  refine lv_iload_n hx hb dX10_hits_1 rfl (lv_at hl 1 rfl) ?_
  refine lv_iload_n hx hb dX10_hits_2 rfl (lv_at hl 2 rfl) ?_
  refine vp_callSi (W.runV (As := [.int a1, .int a2]) (rest := []) ⟨hx, hb, hml, hown, hts⟩ (kX10_isBoth l dC dI o0 x_th mwo mim mhi mlu mtp x_td mfv x_sz x_at x_fr x_to x_va x_fk x_fp mfr mwt x_wt x_op x_jo mfg mpl x_dr mtm mfa mqu mmo mwy mwn mma mwi mnu mmv c_wo w_wo ln bs tk lw li a1 a2 b_ln b_bs b_tk b_lw (hw0) (hw1) (hw2) (hw3) (hw4) (hwz)) (cwV 2 hts gX10_hits__X10_isBoth_V313 rfl rfl rfl (by decide +kernel) ⟨lel 3 3 rfl, lel 69 69 rfl⟩) ⟨pw_fb, va_recv hK hP (ci := 8) (q0 := 0) rfl rfl, (pw_use hP hK hN [0, 1] rfl [0] rfl)⟩ rfl rfl hl.1 rfl (lv_room (Nat.le_of_ble_eq_true rfl)) dX10_hits_3 ⟨lel 0 0 rfl, lel 0 0 rfl⟩) (fun r_12 h_r_12 => ?_)
  obtain ⟨b_r_12, nz_r_12⟩ := h_r_12
  have b_r_12 : (0 : Int) ≤ r_12.toInt ∧ r_12.toInt ≤ 1 := b_r_12
  refine lv_if_eq (tgt := 41) hx hb dX10_hits_6 (by decide) (fun c_13 => ?_) (fun c_13 => ?_)
  ·
    have n_c_13 : (r_12.toInt : Int) = 0 := c_eq rfl (by decide) c_13
    have b_r_12 : (0 : Int) ≤ r_12.toInt ∧ r_12.toInt ≤ 0 := r_eq1 b_r_12 (by decide : (0 : Int) ≤ (0 : Int32).toInt ∧ (0 : Int32).toInt ≤ 0) n_c_13 (by decide)
    refine lv_bipush (v := (-2)) hx hb dX10_hits_41 (by decide) ?_
    exact W.iret (v := (-2)) hx hb hr (fun t ht hW => ⟨(-2), rfl, trivial, ht⟩) t_nil dX10_hits_43
  ·
    have n_c_13 : (r_12.toInt : Int) ≠ 0 := c_ne rfl (by decide) c_13
    have b_r_12 : (1 : Int) ≤ r_12.toInt ∧ r_12.toInt ≤ 1 := r_ne1 b_r_12 (by decide : (0 : Int) ≤ (0 : Int32).toInt ∧ (0 : Int32).toInt ≤ 0) n_c_13 (by decide)
    obtain ⟨b_a1, b_a2, g_14⟩ := nz_r_12 c_13
    refine lv_iload_n hx hb dX10_hits_9 rfl (lv_at hl 3 rfl) ?_
    refine vp_callSi (W.runS (As := [.int a3]) (rest := []) ⟨hx, hb, hml, hown, hts⟩ (kX10_isStep l dC dI a3 ) (va_cwS 1 hts gX10_hits__X10_isStep_S336 rfl rfl rfl (by decide +kernel) ⟨lel 2 3 rfl, lel 45 69 rfl⟩) ⟨pn_fb, pn_use⟩ rfl rfl hl.1 rfl (lv_room (Nat.le_of_ble_eq_true rfl)) dX10_hits_10 ⟨lel 0 0 rfl, lel 0 0 rfl⟩) (fun r_15 h_r_15 => ?_)
    obtain ⟨b_r_15, nz_r_15⟩ := h_r_15
    have b_r_15 : (0 : Int) ≤ r_15.toInt ∧ r_15.toInt ≤ 1 := b_r_15
    refine lv_if_eq (tgt := 41) hx hb dX10_hits_13 (by decide) (fun c_16 => ?_) (fun c_16 => ?_)
    ·
      have n_c_16 : (r_15.toInt : Int) = 0 := c_eq rfl (by decide) c_16
      have b_r_15 : (0 : Int) ≤ r_15.toInt ∧ r_15.toInt ≤ 0 := r_eq1 b_r_15 (by decide : (0 : Int) ≤ (0 : Int32).toInt ∧ (0 : Int32).toInt ≤ 0) n_c_16 (by decide)
      refine lv_bipush (v := (-2)) hx hb dX10_hits_41 (by decide) ?_
      exact W.iret (v := (-2)) hx hb hr (fun t ht hW => ⟨(-2), rfl, trivial, ht⟩) t_nil dX10_hits_43
    ·
      have n_c_16 : (r_15.toInt : Int) ≠ 0 := c_ne rfl (by decide) c_16
      have b_r_15 : (1 : Int) ≤ r_15.toInt ∧ r_15.toInt ≤ 1 := r_ne1 b_r_15 (by decide : (0 : Int) ≤ (0 : Int32).toInt ∧ (0 : Int32).toInt ≤ 0) n_c_16 (by decide)
      obtain ⟨b_a3, g_17⟩ := nz_r_15 c_16
      refine lv_iload hx hb dX10_hits_16 (lv_at hl 4 rfl) ?_
      obtain ⟨z_18, e_z_18⟩ : ∃ y : Int64, y = a4.toInt64 := ⟨_, rfl⟩
      refine lv_i2l (v := z_18) hx hb dX10_hits_18 e_z_18.symm ?_
      obtain ⟨q_z_18, b_z_18⟩ := ti_i2l e_z_18 (ti_rng a4)
      refine lv_lconst (v := 0) hx hb dX10_hits_19 (by decide) ?_
      refine lv_ldc2 (v := 20000) hx hb hown (hts (.constantLong RX10 261 (20000)) (List.mem_of_getElem? (i := 22) rfl)) dX10_hits_20 ?_
      refine vp_callSi (W.runS (As := [.long z_18, .long 0, .long 20000]) (rest := []) ⟨hx, hb, hml, hown, hts⟩ (kX10_in l dC dI z_18 0 20000 ) (va_cwS 3 hts gX10_hits__X10_in_S82 rfl rfl rfl (by decide +kernel) ⟨lel 1 3 rfl, lel 25 69 rfl⟩) ⟨pn_fb, pn_use⟩ rfl rfl hl.1 rfl (lv_room (Nat.le_of_ble_eq_true rfl)) dX10_hits_23 ⟨lel 0 0 rfl, lel 0 0 rfl⟩) (fun r_19 h_r_19 => ?_)
      obtain ⟨b_r_19, nz_r_19⟩ := h_r_19
      have b_r_19 : (0 : Int) ≤ r_19.toInt ∧ r_19.toInt ≤ 1 := b_r_19
      refine lv_if_eq (tgt := 41) hx hb dX10_hits_26 (by decide) (fun c_20 => ?_) (fun c_20 => ?_)
      ·
        have n_c_20 : (r_19.toInt : Int) = 0 := c_eq rfl (by decide) c_20
        have b_r_19 : (0 : Int) ≤ r_19.toInt ∧ r_19.toInt ≤ 0 := r_eq1 b_r_19 (by decide : (0 : Int) ≤ (0 : Int32).toInt ∧ (0 : Int32).toInt ≤ 0) n_c_20 (by decide)
        refine lv_bipush (v := (-2)) hx hb dX10_hits_41 (by decide) ?_
        exact W.iret (v := (-2)) hx hb hr (fun t ht hW => ⟨(-2), rfl, trivial, ht⟩) t_nil dX10_hits_43
      ·
        have n_c_20 : (r_19.toInt : Int) ≠ 0 := c_ne rfl (by decide) c_20
        have b_r_19 : (1 : Int) ≤ r_19.toInt ∧ r_19.toInt ≤ 1 := r_ne1 b_r_19 (by decide : (0 : Int) ≤ (0 : Int32).toInt ∧ (0 : Int32).toInt ≤ 0) n_c_20 (by decide)
        have g_21 := nz_r_19 c_20
        have lt0_g_21 := (by decide : (0 : Int64).toInt = 0)
        have lt1_g_21 := (by decide : (20000 : Int64).toInt = 20000)
        have b_z_18 : (0 : Int) ≤ z_18.toInt ∧ z_18.toInt ≤ 20000 := by
          have q0 := b_z_18
          have q1 := (by decide : (0 : Int) ≤ (0 : Int64).toInt ∧ (0 : Int64).toInt ≤ 0)
          have q2 := (by decide : (20000 : Int) ≤ (20000 : Int64).toInt ∧ (20000 : Int64).toInt ≤ 20000)
          omega
        have b_a4 : (0 : Int) ≤ a4.toInt ∧ a4.toInt ≤ 20000 := by
          have q0 := b_z_18; have q1 := q_z_18; have q2 := (ti_rng a4); omega
        refine lv_aload_n hx hb dX10_hits_29 rfl (lv_at hl 0 rfl) ?_
        refine lv_iload_n hx hb dX10_hits_30 rfl (lv_at hl 1 rfl) ?_
        refine lv_iload_n hx hb dX10_hits_31 rfl (lv_at hl 2 rfl) ?_
        refine lv_iload_n hx hb dX10_hits_32 rfl (lv_at hl 3 rfl) ?_
        refine lv_iload hx hb dX10_hits_33 (lv_at hl 4 rfl) ?_
        refine vp_callSi (W.runV (As := [.int a1, .int a2, .int a3, .int a4]) (rest := []) ⟨hx, hb, hml, hown, hts⟩ (kX10_hitsOf l dC dI o0 x_th mwo mim mhi mlu mtp x_td mfv x_sz x_at x_fr x_to x_va x_fk x_fp mfr mwt x_wt x_op x_jo mfg mpl x_dr mtm mfa mqu mmo mwy mwn mma mwi mnu mmv c_wo c_lu w_wo w_lu ln bs tk lw li a1 a2 a3 a4 b_ln b_bs b_tk b_lw b_a2 b_a3 (hw0) (hw1) (hw2) (hw3) (hw4) (hwz) (by omega)) (cwV 4 hts gX10_hits__X10_hitsOf_V342 rfl rfl rfl (by decide +kernel) ⟨lel 2 3 rfl, lel 49 69 rfl⟩) ⟨pw_fb, va_recv hK hP (ci := 8) (q0 := 0) rfl rfl, (pw_use hP hK hN [0, 1, 2] rfl [0, 1] rfl)⟩ rfl rfl hl.1 rfl (lv_room (Nat.le_of_ble_eq_true rfl)) dX10_hits_35 ⟨lel 0 0 rfl, lel 0 0 rfl⟩) (fun r_22 h_r_22 => ?_)
        refine lv_goto (tgt := 43) hx hb dX10_hits_38 (by decide) ?_
        exact W.iret (v := r_22) hx hb hr (fun t ht hW => ⟨r_22, rfl, trivial, ht⟩) t_nil dX10_hits_43
theorem dX10_steps_0 : decode cX10_steps 0 = .ok (.aload_n 0, 1) := by decide +kernel
theorem dX10_steps_1 : decode cX10_steps 1 = .ok (.iload_n 1, 1) := by decide +kernel
theorem dX10_steps_2 : decode cX10_steps 2 = .ok (.iload_n 2, 1) := by decide +kernel
theorem dX10_steps_3 : decode cX10_steps 3 = .ok (.invokevirtual 313, 3) := by decide +kernel
theorem dX10_steps_6 : decode cX10_steps 6 = .ok (.ifCond .eq 26, 3) := by decide +kernel
theorem dX10_steps_9 : decode cX10_steps 9 = .ok (.iload_n 3, 1) := by decide +kernel
theorem dX10_steps_10 : decode cX10_steps 10 = .ok (.i2l, 1) := by decide +kernel
theorem dX10_steps_11 : decode cX10_steps 11 = .ok (.lconst 1, 1) := by decide +kernel
theorem dX10_steps_12 : decode cX10_steps 12 = .ok (.ldc2_w 346, 3) := by decide +kernel
theorem dX10_steps_15 : decode cX10_steps 15 = .ok (.invokestatic 82, 3) := by decide +kernel
theorem dX10_steps_18 : decode cX10_steps 18 = .ok (.ifCond .eq 14, 3) := by decide +kernel
theorem dX10_steps_21 : decode cX10_steps 21 = .ok (.iload 4, 2) := by decide +kernel
theorem dX10_steps_23 : decode cX10_steps 23 = .ok (.i2l, 1) := by decide +kernel
theorem dX10_steps_24 : decode cX10_steps 24 = .ok (.lconst 0, 1) := by decide +kernel
theorem dX10_steps_25 : decode cX10_steps 25 = .ok (.lconst 1, 1) := by decide +kernel
theorem dX10_steps_26 : decode cX10_steps 26 = .ok (.invokestatic 82, 3) := by decide +kernel
theorem dX10_steps_29 : decode cX10_steps 29 = .ok (.ifCond .ne 6, 3) := by decide +kernel
theorem dX10_steps_32 : decode cX10_steps 32 = .ok (.bipush (-2), 2) := by decide +kernel
theorem dX10_steps_34 : decode cX10_steps 34 = .ok (.ireturn, 1) := by decide +kernel
theorem dX10_steps_35 : decode cX10_steps 35 = .ok (.iconst (-1), 1) := by decide +kernel
theorem dX10_steps_36 : decode cX10_steps 36 = .ok (.istore 5, 2) := by decide +kernel
theorem dX10_steps_38 : decode cX10_steps 38 = .ok (.iconst (-1), 1) := by decide +kernel
theorem dX10_steps_39 : decode cX10_steps 39 = .ok (.istore 6, 2) := by decide +kernel
theorem dX10_steps_41 : decode cX10_steps 41 = .ok (.iconst 1, 1) := by decide +kernel
theorem dX10_steps_42 : decode cX10_steps 42 = .ok (.istore 7, 2) := by decide +kernel
theorem dX10_steps_44 : decode cX10_steps 44 = .ok (.iload 7, 2) := by decide +kernel
theorem dX10_steps_46 : decode cX10_steps 46 = .ok (.sipush 999, 3) := by decide +kernel
theorem dX10_steps_49 : decode cX10_steps 49 = .ok (.if_icmp .gt 56, 3) := by decide +kernel
theorem dX10_steps_52 : decode cX10_steps 52 = .ok (.aload_n 0, 1) := by decide +kernel
theorem dX10_steps_53 : decode cX10_steps 53 = .ok (.iload_n 1, 1) := by decide +kernel
theorem dX10_steps_54 : decode cX10_steps 54 = .ok (.iload_n 2, 1) := by decide +kernel
theorem dX10_steps_55 : decode cX10_steps 55 = .ok (.iload 7, 2) := by decide +kernel
theorem dX10_steps_57 : decode cX10_steps 57 = .ok (.iload_n 3, 1) := by decide +kernel
theorem dX10_steps_58 : decode cX10_steps 58 = .ok (.invokevirtual 342, 3) := by decide +kernel
theorem dX10_steps_61 : decode cX10_steps 61 = .ok (.istore 8, 2) := by decide +kernel
theorem dX10_steps_63 : decode cX10_steps 63 = .ok (.iload 4, 2) := by decide +kernel
theorem dX10_steps_65 : decode cX10_steps 65 = .ok (.ifCond .ne 11, 3) := by decide +kernel
theorem dX10_steps_68 : decode cX10_steps 68 = .ok (.iload 8, 2) := by decide +kernel
theorem dX10_steps_70 : decode cX10_steps 70 = .ok (.ifCond .ne 6, 3) := by decide +kernel
theorem dX10_steps_73 : decode cX10_steps 73 = .ok (.iload 7, 2) := by decide +kernel
theorem dX10_steps_75 : decode cX10_steps 75 = .ok (.ireturn, 1) := by decide +kernel
theorem dX10_steps_76 : decode cX10_steps 76 = .ok (.iload 4, 2) := by decide +kernel
theorem dX10_steps_78 : decode cX10_steps 78 = .ok (.ifCond .eq 21, 3) := by decide +kernel
theorem dX10_steps_81 : decode cX10_steps 81 = .ok (.iload 8, 2) := by decide +kernel
theorem dX10_steps_83 : decode cX10_steps 83 = .ok (.iload 6, 2) := by decide +kernel
theorem dX10_steps_85 : decode cX10_steps 85 = .ok (.if_icmp .gt 6, 3) := by decide +kernel
theorem dX10_steps_88 : decode cX10_steps 88 = .ok (.goto 11, 3) := by decide +kernel
theorem dX10_steps_91 : decode cX10_steps 91 = .ok (.iload 8, 2) := by decide +kernel
theorem dX10_steps_93 : decode cX10_steps 93 = .ok (.istore 6, 2) := by decide +kernel
theorem dX10_steps_95 : decode cX10_steps 95 = .ok (.iload 7, 2) := by decide +kernel
theorem dX10_steps_97 : decode cX10_steps 97 = .ok (.istore 5, 2) := by decide +kernel
theorem dX10_steps_99 : decode cX10_steps 99 = .ok (.iinc 7 1, 3) := by decide +kernel
theorem dX10_steps_102 : decode cX10_steps 102 = .ok (.goto (-58), 3) := by decide +kernel
theorem dX10_steps_105 : decode cX10_steps 105 = .ok (.iload 5, 2) := by decide +kernel
theorem dX10_steps_107 : decode cX10_steps 107 = .ok (.ireturn, 1) := by decide +kernel
def uX10_steps : List Cond := .code yX10_steps cX10_steps 9 (some .int) :: ([.methodLink RX10 313 yX10_isBoth, .instanceMethod yX10_isBoth, .selects RX10 yX10_isBoth yX10_isBoth, .initialized RX10, .code yX10_isBoth cX10_isBoth 3 (some .boolean), .methodLink RX10 89 yX10_isLaw, .instanceMethod yX10_isLaw, .selects RX10 yX10_isLaw yX10_isLaw, .code yX10_isLaw cX10_isLaw 2 (some .boolean), .fieldLink RX10 9 "LuckyTicketModel" "world" "[I", .methodLink RX10 82 yX10_in, .static yX10_in, .code yX10_in cX10_in 6 (some .boolean), .methodLink RX10 93 yX10_isTicket, .instanceMethod yX10_isTicket, .selects RX10 yX10_isTicket yX10_isTicket, .code yX10_isTicket cX10_isTicket 3 (some .boolean), .constantLong RX10 346 (60), .methodLink RX10 342 yX10_hitsOf, .instanceMethod yX10_hitsOf, .selects RX10 yX10_hitsOf yX10_hitsOf, .code yX10_hitsOf cX10_hitsOf 8 (some .int), .methodLink RX10 316 yX10_isLucky, .instanceMethod yX10_isLucky, .selects RX10 yX10_isLucky yX10_isLucky, .code yX10_isLucky cX10_isLucky 3 (some .boolean), .fieldLink RX10 20 "LuckyTicketModel" "luck" "[I", .methodLink RX10 339 yX10_goesOn, .instanceMethod yX10_goesOn, .selects RX10 yX10_goesOn yX10_goesOn, .code yX10_goesOn cX10_goesOn 3 (some .int)] ++ wsX100)
theorem iX10_steps_X10 : ∀ w ∈ wsX100, w ∈ uX10_steps := fun _ h => List.mem_cons_of_mem _ (List.mem_append_right _ h)
set_option maxRecDepth 20000 in
theorem gX10_steps__X10_isBoth_V313 : GoodIn uX10_steps (wsV RX10 313 RX10 yX10_isBoth uX10_isBoth) := goodIn_p _ [5, 9, 13, 17] rfl (by decide +kernel)
set_option maxRecDepth 20000 in
theorem gX10_steps__X10_in_S82 : GoodIn uX10_steps (va_wsS RX10 82 yX10_in uX10_in) := goodIn_p _ [13] rfl (by decide +kernel)
set_option maxRecDepth 20000 in
theorem gX10_steps__X10_hitsOf_V342 : GoodIn uX10_steps (wsV RX10 342 RX10 yX10_hitsOf uX10_hitsOf) := goodIn_p _ [22, 26, 31] rfl (by decide +kernel)
set_option maxHeartbeats 4000000 in
set_option maxRecDepth 100000 in
theorem kX10_steps (l : Launch) (dC : Nat → ClassId) (dI : Nat → Nat → Nat) (o0 : Nat) (x_th : Int32) (mwo : Nat) (mim : Nat) (mhi : Nat) (mlu : Nat) (mtp : Nat) (x_td : Int32) (mfv : Nat) (x_sz : Int32) (x_at : Int32) (x_fr : Int32) (x_to : Int32) (x_va : Int32) (x_fk : Int32) (x_fp : Int32) (mfr : Nat) (mwt : Nat) (x_wt : Int32) (x_op : Int32) (x_jo : Int32) (mfg : Nat) (mpl : Nat) (x_dr : Int64) (mtm : Nat) (mfa : Nat) (mqu : Nat) (mmo : Nat) (mwy : Nat) (mwn : Nat) (mma : Nat) (mwi : Nat) (mnu : Nat) (mmv : Nat) (c_wo : ClassId) (c_lu : ClassId) (w_wo : Nat → Int32) (w_lu : Nat → Int32) (ln : Int32) (bs : Int32) (tk : Int32) (lw : Int32) (li : Int32) (a1 : Int32) (a2 : Int32) (a3 : Int32) (a4 : Int32) (b_ln : (0 : Int) ≤ ln.toInt ∧ ln.toInt ≤ 12) (b_bs : (0 : Int) ≤ bs.toInt ∧ bs.toInt ≤ 16) (b_tk : (0 : Int) ≤ tk.toInt ∧ tk.toInt ≤ 20000) (b_lw : (0 : Int) ≤ lw.toInt ∧ lw.toInt ≤ 9) (hw0 : w_wo 0 = ln) (hw1 : w_wo 1 = bs) (hw2 : w_wo 2 = tk) (hw3 : w_wo 3 = lw) (hw4 : w_wo 4 = li) (hwz : (ln.toInt = 0 ∧ bs.toInt = 0 ∧ tk.toInt = 0 ∧ lw.toInt = 0) ∨ (1 ≤ ln.toInt ∧ 2 ≤ bs.toInt ∧ 1 ≤ tk.toInt)) : Met l yX10_steps uX10_steps ({ frames := 3, cells := 0, slots := 0, locals := 69 }) (va_Pc [.ref o0, .int a1, .int a2, .int a3, .int a4] (pw (dC, dI) vwCl [(o0, .inr (8, [.int x_th, .ref mwo, .ref mim, .ref mhi, .ref mlu, .ref mtp, .int x_td, .ref mfv, .int x_sz, .int x_at, .int x_fr, .int x_to, .int x_va, .int x_fk, .int x_fp, .ref mfr, .ref mwt, .int x_wt, .int x_op, .int x_jo, .ref mfg, .ref mpl, .long x_dr, .ref mtm, .ref mfa, .ref mqu, .ref mmo, .ref mwy, .ref mwn, .ref mma, .ref mwi, .ref mnu, .ref mmv])), (mwo, .inl (c_wo, 1875, .inl w_wo)), (mlu, .inl (c_lu, 20000, .inl w_lu))] [(c_wo, .int), (c_lu, .int)])) (vp_Si (fun r => ((-2 : Int) ≤ r.toInt ∧ r.toInt ≤ 1200))) 0 0 (fun _ => False) := by
  refine Met.ofW (cc := cX10_steps) (maxL := 9) (ret := (some .int)) (by decide) rfl ?_
  intro p e s m args below meth c s₁ B hml hv
  obtain ⟨rfl, hP, hK, hN⟩ := hv
  have hx := B.exec
  have hb := B.bytes
  have hr := B.returns
  have hts := atoms_spec (ws := uX10_steps) B.pre
  have hown : s.vm.findClass RX10 = some m.cls := findClass_of_methodNamed B.named
  have hlocks := B.notSynchronized
  have hl := lv_entry ([.ref o0, .int a1, .int a2, .int a3, .int a4]) (n := 9) (Nat.le_of_ble_eq_true rfl)
  rw [lg_entry_eq]
  generalize (lg_sl ([.ref o0, .int a1, .int a2, .int a3, .int a4]) ++ List.replicate (9 - (lg_sl ([.ref o0, .int a1, .int a2, .int a3, .int a4])).length) Slot.unset).toArray = ls at hl ⊢
  have hl : lv_has ls 9 [(0, .ref o0), (1, .int a1), (2, .int a2), (3, .int a3), (4, .int a4)] := hl
  refine lv_aload_n hx hb dX10_steps_0 rfl (lv_at hl 0 rfl) ?_
  refine lv_iload_n hx hb dX10_steps_1 rfl (lv_at hl 1 rfl) ?_
  refine lv_iload_n hx hb dX10_steps_2 rfl (lv_at hl 2 rfl) ?_
  refine vp_callSi (W.runV (As := [.int a1, .int a2]) (rest := []) ⟨hx, hb, hml, hown, hts⟩ (kX10_isBoth l dC dI o0 x_th mwo mim mhi mlu mtp x_td mfv x_sz x_at x_fr x_to x_va x_fk x_fp mfr mwt x_wt x_op x_jo mfg mpl x_dr mtm mfa mqu mmo mwy mwn mma mwi mnu mmv c_wo w_wo ln bs tk lw li a1 a2 b_ln b_bs b_tk b_lw (hw0) (hw1) (hw2) (hw3) (hw4) (hwz)) (cwV 2 hts gX10_steps__X10_isBoth_V313 rfl rfl rfl (by decide +kernel) ⟨lel 3 3 rfl, lel 69 69 rfl⟩) ⟨pw_fb, va_recv hK hP (ci := 8) (q0 := 0) rfl rfl, (pw_use hP hK hN [0, 1] rfl [0] rfl)⟩ rfl rfl hl.1 rfl (lv_room (Nat.le_of_ble_eq_true rfl)) dX10_steps_3 ⟨lel 0 0 rfl, lel 0 0 rfl⟩) (fun r_147 h_r_147 => ?_)
  obtain ⟨b_r_147, nz_r_147⟩ := h_r_147
  have b_r_147 : (0 : Int) ≤ r_147.toInt ∧ r_147.toInt ≤ 1 := b_r_147
  refine lv_if_eq (tgt := 32) hx hb dX10_steps_6 (by decide) (fun c_148 => ?_) (fun c_148 => ?_)
  ·
    have n_c_148 : (r_147.toInt : Int) = 0 := c_eq rfl (by decide) c_148
    have b_r_147 : (0 : Int) ≤ r_147.toInt ∧ r_147.toInt ≤ 0 := r_eq1 b_r_147 (by decide : (0 : Int) ≤ (0 : Int32).toInt ∧ (0 : Int32).toInt ≤ 0) n_c_148 (by decide)
    refine lv_bipush (v := (-2)) hx hb dX10_steps_32 (by decide) ?_
    exact W.iret (v := (-2)) hx hb hr (fun t ht hW => ⟨(-2), rfl, (rg_w (by decide : (-2 : Int) ≤ ((-2) : Int32).toInt ∧ ((-2) : Int32).toInt ≤ -2) (by decide) (by decide)), ht⟩) t_nil dX10_steps_34
  ·
    have n_c_148 : (r_147.toInt : Int) ≠ 0 := c_ne rfl (by decide) c_148
    have b_r_147 : (1 : Int) ≤ r_147.toInt ∧ r_147.toInt ≤ 1 := r_ne1 b_r_147 (by decide : (0 : Int) ≤ (0 : Int32).toInt ∧ (0 : Int32).toInt ≤ 0) n_c_148 (by decide)
    obtain ⟨b_a1, b_a2, g_149⟩ := nz_r_147 c_148
    refine lv_iload_n hx hb dX10_steps_9 rfl (lv_at hl 3 rfl) ?_
    obtain ⟨z_150, e_z_150⟩ : ∃ y : Int64, y = a3.toInt64 := ⟨_, rfl⟩
    refine lv_i2l (v := z_150) hx hb dX10_steps_10 e_z_150.symm ?_
    obtain ⟨q_z_150, b_z_150⟩ := ti_i2l e_z_150 (ti_rng a3)
    refine lv_lconst (v := 1) hx hb dX10_steps_11 (by decide) ?_
    refine lv_ldc2 (v := 60) hx hb hown (hts (.constantLong RX10 346 (60)) (List.mem_of_getElem? (i := 18) rfl)) dX10_steps_12 ?_
    refine vp_callSi (W.runS (As := [.long z_150, .long 1, .long 60]) (rest := []) ⟨hx, hb, hml, hown, hts⟩ (kX10_in l dC dI z_150 1 60 ) (va_cwS 3 hts gX10_steps__X10_in_S82 rfl rfl rfl (by decide +kernel) ⟨lel 1 3 rfl, lel 25 69 rfl⟩) ⟨pn_fb, pn_use⟩ rfl rfl hl.1 rfl (lv_room (Nat.le_of_ble_eq_true rfl)) dX10_steps_15 ⟨lel 0 0 rfl, lel 0 0 rfl⟩) (fun r_151 h_r_151 => ?_)
    obtain ⟨b_r_151, nz_r_151⟩ := h_r_151
    have b_r_151 : (0 : Int) ≤ r_151.toInt ∧ r_151.toInt ≤ 1 := b_r_151
    refine lv_if_eq (tgt := 32) hx hb dX10_steps_18 (by decide) (fun c_152 => ?_) (fun c_152 => ?_)
    ·
      have n_c_152 : (r_151.toInt : Int) = 0 := c_eq rfl (by decide) c_152
      have b_r_151 : (0 : Int) ≤ r_151.toInt ∧ r_151.toInt ≤ 0 := r_eq1 b_r_151 (by decide : (0 : Int) ≤ (0 : Int32).toInt ∧ (0 : Int32).toInt ≤ 0) n_c_152 (by decide)
      refine lv_bipush (v := (-2)) hx hb dX10_steps_32 (by decide) ?_
      exact W.iret (v := (-2)) hx hb hr (fun t ht hW => ⟨(-2), rfl, (rg_w (by decide : (-2 : Int) ≤ ((-2) : Int32).toInt ∧ ((-2) : Int32).toInt ≤ -2) (by decide) (by decide)), ht⟩) t_nil dX10_steps_34
    ·
      have n_c_152 : (r_151.toInt : Int) ≠ 0 := c_ne rfl (by decide) c_152
      have b_r_151 : (1 : Int) ≤ r_151.toInt ∧ r_151.toInt ≤ 1 := r_ne1 b_r_151 (by decide : (0 : Int) ≤ (0 : Int32).toInt ∧ (0 : Int32).toInt ≤ 0) n_c_152 (by decide)
      have g_153 := nz_r_151 c_152
      have lt0_g_153 := (by decide : (1 : Int64).toInt = 1)
      have lt1_g_153 := (by decide : (60 : Int64).toInt = 60)
      have b_z_150 : (1 : Int) ≤ z_150.toInt ∧ z_150.toInt ≤ 60 := by
        have q0 := b_z_150
        have q1 := (by decide : (1 : Int) ≤ (1 : Int64).toInt ∧ (1 : Int64).toInt ≤ 1)
        have q2 := (by decide : (60 : Int) ≤ (60 : Int64).toInt ∧ (60 : Int64).toInt ≤ 60)
        omega
      have b_a3 : (1 : Int) ≤ a3.toInt ∧ a3.toInt ≤ 60 := by
        have q0 := b_z_150; have q1 := q_z_150; have q2 := (ti_rng a3); omega
      refine lv_iload hx hb dX10_steps_21 (lv_at hl 4 rfl) ?_
      obtain ⟨z_154, e_z_154⟩ : ∃ y : Int64, y = a4.toInt64 := ⟨_, rfl⟩
      refine lv_i2l (v := z_154) hx hb dX10_steps_23 e_z_154.symm ?_
      obtain ⟨q_z_154, b_z_154⟩ := ti_i2l e_z_154 (ti_rng a4)
      refine lv_lconst (v := 0) hx hb dX10_steps_24 (by decide) ?_
      refine lv_lconst (v := 1) hx hb dX10_steps_25 (by decide) ?_
      refine vp_callSi (W.runS (As := [.long z_154, .long 0, .long 1]) (rest := []) ⟨hx, hb, hml, hown, hts⟩ (kX10_in l dC dI z_154 0 1 ) (va_cwS 3 hts gX10_steps__X10_in_S82 rfl rfl rfl (by decide +kernel) ⟨lel 1 3 rfl, lel 25 69 rfl⟩) ⟨pn_fb, pn_use⟩ rfl rfl hl.1 rfl (lv_room (Nat.le_of_ble_eq_true rfl)) dX10_steps_26 ⟨lel 0 0 rfl, lel 0 0 rfl⟩) (fun r_155 h_r_155 => ?_)
      obtain ⟨b_r_155, nz_r_155⟩ := h_r_155
      have b_r_155 : (0 : Int) ≤ r_155.toInt ∧ r_155.toInt ≤ 1 := b_r_155
      refine lv_if_ne (tgt := 35) hx hb dX10_steps_29 (by decide) (fun c_156 => ?_) (fun c_156 => ?_)
      ·
        have n_c_156 : (r_155.toInt : Int) ≠ 0 := c_ne rfl (by decide) c_156
        have b_r_155 : (1 : Int) ≤ r_155.toInt ∧ r_155.toInt ≤ 1 := r_ne1 b_r_155 (by decide : (0 : Int) ≤ (0 : Int32).toInt ∧ (0 : Int32).toInt ≤ 0) n_c_156 (by decide)
        have g_157 := nz_r_155 c_156
        have lt0_g_157 := (by decide : (0 : Int64).toInt = 0)
        have lt1_g_157 := (by decide : (1 : Int64).toInt = 1)
        have b_z_154 : (0 : Int) ≤ z_154.toInt ∧ z_154.toInt ≤ 1 := by
          have q0 := b_z_154
          have q1 := (by decide : (0 : Int) ≤ (0 : Int64).toInt ∧ (0 : Int64).toInt ≤ 0)
          have q2 := (by decide : (1 : Int) ≤ (1 : Int64).toInt ∧ (1 : Int64).toInt ≤ 1)
          omega
        have b_a4 : (0 : Int) ≤ a4.toInt ∧ a4.toInt ≤ 1 := by
          have q0 := b_z_154; have q1 := q_z_154; have q2 := (ti_rng a4); omega
        refine lv_iconst (v := (-1)) hx hb dX10_steps_35 (by decide) ?_
        refine lv_istore (lv' := [(5, .int (-1)), (0, .ref o0), (1, .int a1), (2, .int a2), (3, .int a3), (4, .int a4)]) hx hb dX10_steps_36 hl (by decide) rfl (fun ls hl => ?_)
        refine lv_iconst (v := (-1)) hx hb dX10_steps_38 (by decide) ?_
        refine lv_istore (lv' := [(6, .int (-1)), (5, .int (-1)), (0, .ref o0), (1, .int a1), (2, .int a2), (3, .int a3), (4, .int a4)]) hx hb dX10_steps_39 hl (by decide) rfl (fun ls hl => ?_)
        refine lv_iconst (v := 1) hx hb dX10_steps_41 (by decide) ?_
        refine lv_istore (lv' := [(7, .int 1), (6, .int (-1)), (5, .int (-1)), (0, .ref o0), (1, .int a1), (2, .int a2), (3, .int a3), (4, .int a4)]) hx hb dX10_steps_42 hl (by decide) rfl (fun ls hl => ?_)
        refine loopP (σ := Int32 × Int32 × Int32) (fun v => (1000 - v.1.toInt).toNat) (fun v ls => ((1 : Int) ≤ v.1.toInt ∧ v.1.toInt ≤ 1000) ∧ ((-1 : Int) ≤ v.2.1.toInt ∧ v.2.1.toInt ≤ 2147483647) ∧ ((-1 : Int) ≤ v.2.2.toInt ∧ v.2.2.toInt ≤ 1200) ∧ lv_has ls 9 [(7, .int v.1), (6, .int v.2.1), (5, .int v.2.2), (0, .ref o0), (1, .int a1), (2, .int a2), (3, .int a3), (4, .int a4)]) (fun v ls hI ih_44_281 => ?_) ((1 : Int32), (-1 : Int32), (-1 : Int32)) ⟨(show (1 : Int) ≤ (1 : Int32).toInt ∧ (1 : Int32).toInt ≤ 1000 from (rg_w (by decide : (1 : Int) ≤ (1 : Int32).toInt ∧ (1 : Int32).toInt ≤ 1) (by decide) (by decide))), (show (-1 : Int) ≤ (-1 : Int32).toInt ∧ (-1 : Int32).toInt ≤ 2147483647 from (rg_w (by decide : (-1 : Int) ≤ ((-1) : Int32).toInt ∧ ((-1) : Int32).toInt ≤ -1) (by decide) (by decide))), (show (-1 : Int) ≤ (-1 : Int32).toInt ∧ (-1 : Int32).toInt ≤ 1200 from (rg_w (by decide : (-1 : Int) ≤ ((-1) : Int32).toInt ∧ ((-1) : Int32).toInt ≤ -1) (by decide) (by decide))), lv_sub hl [0, 1, 2, 3, 4, 5, 6, 7] rfl⟩
        obtain ⟨y_169, y_170, y_171⟩ := v
        obtain ⟨b_y_169, b_y_170, b_y_171, hl⟩ := hI
        have b_y_169 : (1 : Int) ≤ y_169.toInt ∧ y_169.toInt ≤ 1000 := b_y_169
        have b_y_170 : (-1 : Int) ≤ y_170.toInt ∧ y_170.toInt ≤ 2147483647 := b_y_170
        have b_y_171 : (-1 : Int) ≤ y_171.toInt ∧ y_171.toInt ≤ 1200 := b_y_171
        have hl : lv_has ls 9 [(7, .int y_169), (6, .int y_170), (5, .int y_171), (0, .ref o0), (1, .int a1), (2, .int a2), (3, .int a3), (4, .int a4)] := hl
        refine lv_iload hx hb dX10_steps_44 (lv_at hl 0 rfl) ?_
        refine lv_sipush (v := 999) hx hb dX10_steps_46 (by decide) ?_
        refine lv_icmp_gt (tgt := 105) hx hb dX10_steps_49 (by decide) (fun c_282 => ?_) (fun c_282 => ?_)
        ·
          have n_c_282 : (999 : Int) < y_169.toInt := c_gt rfl (by decide) c_282
          have b_y_169 : (1000 : Int) ≤ y_169.toInt ∧ y_169.toInt ≤ 1000 := r_lt2 (by decide : (999 : Int) ≤ (999 : Int32).toInt ∧ (999 : Int32).toInt ≤ 999) b_y_169 n_c_282 (by decide)
          refine lv_iload hx hb dX10_steps_105 (lv_at hl 2 rfl) ?_
          exact W.iret (v := y_171) hx hb hr (fun t ht hW => ⟨y_171, rfl, (rg_w b_y_171 (by decide) (by decide)), ht⟩) t_nil dX10_steps_107
        ·
          have n_c_282 : (y_169.toInt : Int) ≤ 999 := c_ngt rfl (by decide) c_282
          have b_y_169 : (1 : Int) ≤ y_169.toInt ∧ y_169.toInt ≤ 999 := r_le1 b_y_169 (by decide : (999 : Int) ≤ (999 : Int32).toInt ∧ (999 : Int32).toInt ≤ 999) n_c_282 (by decide)
          refine lv_aload_n hx hb dX10_steps_52 rfl (lv_at hl 3 rfl) ?_
          refine lv_iload_n hx hb dX10_steps_53 rfl (lv_at hl 4 rfl) ?_
          refine lv_iload_n hx hb dX10_steps_54 rfl (lv_at hl 5 rfl) ?_
          refine lv_iload hx hb dX10_steps_55 (lv_at hl 0 rfl) ?_
          refine lv_iload_n hx hb dX10_steps_57 rfl (lv_at hl 6 rfl) ?_
          refine vp_callSi (W.runV (As := [.int a1, .int a2, .int y_169, .int a3]) (rest := []) ⟨hx, hb, hml, hown, hts⟩ (kX10_hitsOf l dC dI o0 x_th mwo mim mhi mlu mtp x_td mfv x_sz x_at x_fr x_to x_va x_fk x_fp mfr mwt x_wt x_op x_jo mfg mpl x_dr mtm mfa mqu mmo mwy mwn mma mwi mnu mmv c_wo c_lu w_wo w_lu ln bs tk lw li a1 a2 y_169 a3 b_ln b_bs b_tk b_lw b_a2 (rg_w b_y_169 (by decide) (by decide)) (hw0) (hw1) (hw2) (hw3) (hw4) (hwz) (by omega)) (cwV 4 hts gX10_steps__X10_hitsOf_V342 rfl rfl rfl (by decide +kernel) ⟨lel 2 3 rfl, lel 49 69 rfl⟩) ⟨pw_fb, va_recv hK hP (ci := 8) (q0 := 0) rfl rfl, (pw_use hP hK hN [0, 1, 2] rfl [0, 1] rfl)⟩ rfl rfl hl.1 rfl (lv_room (Nat.le_of_ble_eq_true rfl)) dX10_steps_58 ⟨lel 0 0 rfl, lel 0 0 rfl⟩) (fun r_283 h_r_283 => ?_)
          refine lv_istore (lv' := [(8, .int r_283), (7, .int y_169), (6, .int y_170), (5, .int y_171), (0, .ref o0), (1, .int a1), (2, .int a2), (3, .int a3), (4, .int a4)]) hx hb dX10_steps_61 hl (by decide) rfl (fun ls hl => ?_)
          refine lv_iload hx hb dX10_steps_63 (lv_at hl 8 rfl) ?_
          refine lv_if_ne (tgt := 76) hx hb dX10_steps_65 (by decide) (fun c_284 => ?_) (fun c_284 => ?_)
          ·
            have n_c_284 : (a4.toInt : Int) ≠ 0 := c_ne rfl (by decide) c_284
            have b_a4 : (1 : Int) ≤ a4.toInt ∧ a4.toInt ≤ 1 := r_ne1 b_a4 (by decide : (0 : Int) ≤ (0 : Int32).toInt ∧ (0 : Int32).toInt ≤ 0) n_c_284 (by decide)
            refine lv_iload hx hb dX10_steps_76 (lv_at hl 8 rfl) ?_
            refine lv_if_eq (tgt := 99) hx hb dX10_steps_78 (by decide) (fun c_285 => absurd (show (a4.toInt : Int) = 0 from c_eq rfl (by decide) c_285) (by have q1 := b_a4; have q2 := (by decide : (0 : Int) ≤ (0 : Int32).toInt ∧ (0 : Int32).toInt ≤ 0); omega)) (fun c_285 => ?_)
            refine lv_iload hx hb dX10_steps_81 (lv_at hl 0 rfl) ?_
            refine lv_iload hx hb dX10_steps_83 (lv_at hl 2 rfl) ?_
            refine cutP (σ := Int32 × Int32) (pc2 := 99) (st2 := fun v => []) (cells2 := 0) (slots2 := 0) (fun v ls => ((-1 : Int) ≤ v.1.toInt ∧ v.1.toInt ≤ 1200) ∧ ((-1 : Int) ≤ v.2.toInt ∧ v.2.toInt ≤ 2147483647) ∧ lv_has ls 9 [(5, .int v.1), (6, .int v.2), (8, .int r_283), (7, .int y_169), (0, .ref o0), (1, .int a1), (2, .int a2), (3, .int a3), (4, .int a4)]) (fun v ls hI => ?_) (fun hj_99_288 => ?_)
            ·
              obtain ⟨y_287, y_288⟩ := v
              obtain ⟨b_y_287, b_y_288, hl⟩ := hI
              have b_y_287 : (-1 : Int) ≤ y_287.toInt ∧ y_287.toInt ≤ 1200 := b_y_287
              have b_y_288 : (-1 : Int) ≤ y_288.toInt ∧ y_288.toInt ≤ 2147483647 := b_y_288
              have hl : lv_has ls 9 [(5, .int y_287), (6, .int y_288), (8, .int r_283), (7, .int y_169), (0, .ref o0), (1, .int a1), (2, .int a2), (3, .int a3), (4, .int a4)] := hl
              obtain ⟨z_289, e_z_289⟩ : ∃ y : Int32, y = y_169 + 1 := ⟨_, rfl⟩
              refine lv_iinc (v := z_289) (lv' := [(7, .int z_289), (5, .int y_287), (6, .int y_288), (8, .int r_283), (0, .ref o0), (1, .int a1), (2, .int a2), (3, .int a3), (4, .int a4)]) hx hb dX10_steps_99 hl (k := 3) rfl (by rw [e_z_289]; rfl) (by decide) rfl (fun ls hl => ?_)
              obtain ⟨q_z_289, b_z_289⟩ := ti_add (lo := 2) (hi := 1000) e_z_289 rfl (by decide : (1 : Int32).toInt = 1) b_y_169 (by decide : (1 : Int) ≤ (1 : Int32).toInt ∧ (1 : Int32).toInt ≤ 1) (by decide)
              refine lv_goto (tgt := 44) hx hb dX10_steps_102 (by decide) ?_
              exact ih_44_281 (z_289, y_288, y_287) _ ⟨(show (1 : Int) ≤ z_289.toInt ∧ z_289.toInt ≤ 1000 from (rg_w b_z_289 (by decide) (by decide))), (show (-1 : Int) ≤ y_288.toInt ∧ y_288.toInt ≤ 2147483647 from b_y_288), (show (-1 : Int) ≤ y_287.toInt ∧ y_287.toInt ≤ 1200 from b_y_287), lv_sub hl [0, 2, 1, 4, 5, 6, 7, 8] rfl⟩ (show (1000 - z_289.toInt).toNat < (1000 - y_169.toInt).toNat by omega)
            ·
              refine lv_icmp_gt (tgt := 91) hx hb dX10_steps_85 (by decide) (fun c_286 => ?_) (fun c_286 => ?_)
              ·
                have n_c_286 : (y_170.toInt : Int) < r_283.toInt := c_gt rfl rfl c_286
                have b_y_170 : (-1 : Int) ≤ y_170.toInt ∧ y_170.toInt ≤ 2147483646 := r_lt1 b_y_170 (ti_rng r_283) n_c_286 (by decide)
                have b_r_283 : (0 : Int) ≤ r_283.toInt ∧ r_283.toInt ≤ 2147483647 := r_lt2 b_y_170 (ti_rng r_283) n_c_286 (by decide)
                refine lv_iload hx hb dX10_steps_91 (lv_at hl 0 rfl) ?_
                refine lv_istore (lv' := [(6, .int r_283), (8, .int r_283), (7, .int y_169), (5, .int y_171), (0, .ref o0), (1, .int a1), (2, .int a2), (3, .int a3), (4, .int a4)]) hx hb dX10_steps_93 hl (by decide) rfl (fun ls hl => ?_)
                refine lv_iload hx hb dX10_steps_95 (lv_at hl 2 rfl) ?_
                refine lv_istore (lv' := [(5, .int y_169), (6, .int r_283), (8, .int r_283), (7, .int y_169), (0, .ref o0), (1, .int a1), (2, .int a2), (3, .int a3), (4, .int a4)]) hx hb dX10_steps_97 hl (by decide) rfl (fun ls hl => ?_)
                exact hj_99_288 (y_169, r_283) _ ⟨(show (-1 : Int) ≤ y_169.toInt ∧ y_169.toInt ≤ 1200 from (rg_w b_y_169 (by decide) (by decide))), (show (-1 : Int) ≤ r_283.toInt ∧ r_283.toInt ≤ 2147483647 from (rg_w b_r_283 (by decide) (by decide))), lv_sub hl [0, 1, 2, 3, 4, 5, 6, 7, 8] rfl⟩
              ·
                have n_c_286 : (r_283.toInt : Int) ≤ y_170.toInt := c_ngt rfl rfl c_286
                refine lv_goto (tgt := 99) hx hb dX10_steps_88 (by decide) ?_
                exact hj_99_288 (y_171, y_170) _ ⟨(show (-1 : Int) ≤ y_171.toInt ∧ y_171.toInt ≤ 1200 from b_y_171), (show (-1 : Int) ≤ y_170.toInt ∧ y_170.toInt ≤ 2147483647 from b_y_170), lv_sub hl [3, 2, 0, 1, 4, 5, 6, 7, 8] rfl⟩
          ·
            have n_c_284 : (a4.toInt : Int) = 0 := c_eq rfl (by decide) c_284
            have b_a4 : (0 : Int) ≤ a4.toInt ∧ a4.toInt ≤ 0 := r_eq1 b_a4 (by decide : (0 : Int) ≤ (0 : Int32).toInt ∧ (0 : Int32).toInt ≤ 0) n_c_284 (by decide)
            refine lv_iload hx hb dX10_steps_68 (lv_at hl 0 rfl) ?_
            refine lv_if_ne (tgt := 76) hx hb dX10_steps_70 (by decide) (fun c_290 => ?_) (fun c_290 => ?_)
            ·
              have n_c_290 : (r_283.toInt : Int) ≠ 0 := c_ne rfl (by decide) c_290
              refine lv_iload hx hb dX10_steps_76 (lv_at hl 8 rfl) ?_
              refine lv_if_eq (tgt := 99) hx hb dX10_steps_78 (by decide) (fun c_291 => ?_) (fun c_291 => absurd (show (a4.toInt : Int) ≠ 0 from c_ne rfl (by decide) c_291) (by have q1 := b_a4; have q2 := (by decide : (0 : Int) ≤ (0 : Int32).toInt ∧ (0 : Int32).toInt ≤ 0); omega))
              obtain ⟨z_292, e_z_292⟩ : ∃ y : Int32, y = y_169 + 1 := ⟨_, rfl⟩
              refine lv_iinc (v := z_292) (lv' := [(7, .int z_292), (8, .int r_283), (6, .int y_170), (5, .int y_171), (0, .ref o0), (1, .int a1), (2, .int a2), (3, .int a3), (4, .int a4)]) hx hb dX10_steps_99 hl (k := 1) rfl (by rw [e_z_292]; rfl) (by decide) rfl (fun ls hl => ?_)
              obtain ⟨q_z_292, b_z_292⟩ := ti_add (lo := 2) (hi := 1000) e_z_292 rfl (by decide : (1 : Int32).toInt = 1) b_y_169 (by decide : (1 : Int) ≤ (1 : Int32).toInt ∧ (1 : Int32).toInt ≤ 1) (by decide)
              refine lv_goto (tgt := 44) hx hb dX10_steps_102 (by decide) ?_
              exact ih_44_281 (z_292, y_170, y_171) _ ⟨(show (1 : Int) ≤ z_292.toInt ∧ z_292.toInt ≤ 1000 from (rg_w b_z_292 (by decide) (by decide))), (show (-1 : Int) ≤ y_170.toInt ∧ y_170.toInt ≤ 2147483647 from b_y_170), (show (-1 : Int) ≤ y_171.toInt ∧ y_171.toInt ≤ 1200 from b_y_171), lv_sub hl [0, 2, 3, 4, 5, 6, 7, 8] rfl⟩ (show (1000 - z_292.toInt).toNat < (1000 - y_169.toInt).toNat by omega)
            ·
              have n_c_290 : (r_283.toInt : Int) = 0 := c_eq rfl (by decide) c_290
              have b_r_283 : (0 : Int) ≤ r_283.toInt ∧ r_283.toInt ≤ 0 := r_eq1 (ti_rng r_283) (by decide : (0 : Int) ≤ (0 : Int32).toInt ∧ (0 : Int32).toInt ≤ 0) n_c_290 (by decide)
              refine lv_iload hx hb dX10_steps_73 (lv_at hl 1 rfl) ?_
              exact W.iret (v := y_169) hx hb hr (fun t ht hW => ⟨y_169, rfl, (rg_w b_y_169 (by decide) (by decide)), ht⟩) t_nil dX10_steps_75
      ·
        have n_c_156 : (r_155.toInt : Int) = 0 := c_eq rfl (by decide) c_156
        have b_r_155 : (0 : Int) ≤ r_155.toInt ∧ r_155.toInt ≤ 0 := r_eq1 b_r_155 (by decide : (0 : Int) ≤ (0 : Int32).toInt ∧ (0 : Int32).toInt ≤ 0) n_c_156 (by decide)
        refine lv_bipush (v := (-2)) hx hb dX10_steps_32 (by decide) ?_
        exact W.iret (v := (-2)) hx hb hr (fun t ht hW => ⟨(-2), rfl, (rg_w (by decide : (-2 : Int) ≤ ((-2) : Int32).toInt ∧ ((-2) : Int32).toInt ≤ -2) (by decide) (by decide)), ht⟩) t_nil dX10_steps_34
theorem dX10_divisor_0 : decode cX10_divisor 0 = .ok (.iload_n 0, 1) := by decide +kernel
theorem dX10_divisor_1 : decode cX10_divisor 1 = .ok (.istore_n 2, 1) := by decide +kernel
theorem dX10_divisor_2 : decode cX10_divisor 2 = .ok (.iload_n 1, 1) := by decide +kernel
theorem dX10_divisor_3 : decode cX10_divisor 3 = .ok (.istore_n 3, 1) := by decide +kernel
theorem dX10_divisor_4 : decode cX10_divisor 4 = .ok (.iload_n 3, 1) := by decide +kernel
theorem dX10_divisor_5 : decode cX10_divisor 5 = .ok (.ifCond .eq 16, 3) := by decide +kernel
theorem dX10_divisor_8 : decode cX10_divisor 8 = .ok (.iload_n 2, 1) := by decide +kernel
theorem dX10_divisor_9 : decode cX10_divisor 9 = .ok (.iload_n 3, 1) := by decide +kernel
theorem dX10_divisor_10 : decode cX10_divisor 10 = .ok (.irem, 1) := by decide +kernel
theorem dX10_divisor_11 : decode cX10_divisor 11 = .ok (.istore 4, 2) := by decide +kernel
theorem dX10_divisor_13 : decode cX10_divisor 13 = .ok (.iload_n 3, 1) := by decide +kernel
theorem dX10_divisor_14 : decode cX10_divisor 14 = .ok (.istore_n 2, 1) := by decide +kernel
theorem dX10_divisor_15 : decode cX10_divisor 15 = .ok (.iload 4, 2) := by decide +kernel
theorem dX10_divisor_17 : decode cX10_divisor 17 = .ok (.istore_n 3, 1) := by decide +kernel
theorem dX10_divisor_18 : decode cX10_divisor 18 = .ok (.goto (-14), 3) := by decide +kernel
theorem dX10_divisor_21 : decode cX10_divisor 21 = .ok (.iload_n 2, 1) := by decide +kernel
theorem dX10_divisor_22 : decode cX10_divisor 22 = .ok (.ireturn, 1) := by decide +kernel
def uX10_divisor : List Cond := .code yX10_divisor cX10_divisor 5 (some .int) :: ([])
set_option maxHeartbeats 4000000 in
set_option maxRecDepth 100000 in
theorem kX10_divisor (l : Launch) (dC : Nat → ClassId) (dI : Nat → Nat → Nat) (a1 : Int32) (a2 : Int32) (b_a1 : (0 : Int) ≤ a1.toInt ∧ a1.toInt ≤ 40000) (b_a2 : (0 : Int) ≤ a2.toInt ∧ a2.toInt ≤ 40000) (h1 : 1 ≤ a1.toInt ∨ 1 ≤ a2.toInt) : Met l yX10_divisor uX10_divisor ({ frames := 0, cells := 0, slots := 0, locals := 0 }) (va_Pc [.int a1, .int a2] (fun _ => True)) (vp_Si (fun r => ((0 : Int) ≤ r.toInt ∧ r.toInt ≤ 40000) ∧ (1 ≤ r.toInt))) 0 0 (fun _ => False) := by
  refine Met.ofW (cc := cX10_divisor) (maxL := 5) (ret := (some .int)) (by decide) rfl ?_
  intro p e s m args below meth c s₁ B hml hv
  obtain ⟨rfl, _⟩ := hv
  have hx := B.exec
  have hb := B.bytes
  have hr := B.returns
  have hts := atoms_spec (ws := uX10_divisor) B.pre
  have hown : s.vm.findClass RX10 = some m.cls := findClass_of_methodNamed B.named
  have hlocks := B.notSynchronized
  have hl := lv_entry ([.int a1, .int a2]) (n := 5) (Nat.le_of_ble_eq_true rfl)
  rw [lg_entry_eq]
  generalize (lg_sl ([.int a1, .int a2]) ++ List.replicate (5 - (lg_sl ([.int a1, .int a2])).length) Slot.unset).toArray = ls at hl ⊢
  have hl : lv_has ls 5 [(0, .int a1), (1, .int a2)] := hl
  refine lv_iload_n hx hb dX10_divisor_0 rfl (lv_at hl 0 rfl) ?_
  refine lv_istore_n (lv' := [(2, .int a1), (0, .int a1), (1, .int a2)]) hx hb dX10_divisor_1 rfl hl (by decide) rfl (fun ls hl => ?_)
  refine lv_iload_n hx hb dX10_divisor_2 rfl (lv_at hl 2 rfl) ?_
  refine lv_istore_n (lv' := [(3, .int a2), (2, .int a1), (0, .int a1), (1, .int a2)]) hx hb dX10_divisor_3 rfl hl (by decide) rfl (fun ls hl => ?_)
  refine loopP (σ := Int32 × Int32) (fun v => v.1.toInt.toNat) (fun v ls => ((0 : Int) ≤ v.1.toInt ∧ v.1.toInt ≤ 40000) ∧ ((0 : Int) ≤ v.2.toInt ∧ v.2.toInt ≤ 40000) ∧ (1 ≤ v.2.toInt ∨ 1 ≤ v.1.toInt) ∧ lv_has ls 5 [(3, .int v.1), (2, .int v.2), (0, .int a1), (1, .int a2)]) (fun v ls hI ih_4_14 => ?_) (a2, a1) ⟨(show (0 : Int) ≤ a2.toInt ∧ a2.toInt ≤ 40000 from b_a2), (show (0 : Int) ≤ a1.toInt ∧ a1.toInt ≤ 40000 from b_a1), (show 1 ≤ a1.toInt ∨ 1 ≤ a2.toInt from (by omega)), lv_sub hl [0, 1, 2, 3] rfl⟩
  obtain ⟨y_11, y_12⟩ := v
  obtain ⟨b_y_11, b_y_12, hx1, hl⟩ := hI
  have b_y_11 : (0 : Int) ≤ y_11.toInt ∧ y_11.toInt ≤ 40000 := b_y_11
  have b_y_12 : (0 : Int) ≤ y_12.toInt ∧ y_12.toInt ≤ 40000 := b_y_12
  have hx1 : 1 ≤ y_12.toInt ∨ 1 ≤ y_11.toInt := hx1
  have hl : lv_has ls 5 [(3, .int y_11), (2, .int y_12), (0, .int a1), (1, .int a2)] := hl
  refine lv_iload_n hx hb dX10_divisor_4 rfl (lv_at hl 0 rfl) ?_
  refine lv_if_eq (tgt := 21) hx hb dX10_divisor_5 (by decide) (fun c_15 => ?_) (fun c_15 => ?_)
  ·
    have n_c_15 : (y_11.toInt : Int) = 0 := c_eq rfl (by decide) c_15
    have b_y_11 : (0 : Int) ≤ y_11.toInt ∧ y_11.toInt ≤ 0 := r_eq1 b_y_11 (by decide : (0 : Int) ≤ (0 : Int32).toInt ∧ (0 : Int32).toInt ≤ 0) n_c_15 (by decide)
    refine lv_iload_n hx hb dX10_divisor_21 rfl (lv_at hl 1 rfl) ?_
    exact W.iret (v := y_12) hx hb hr (fun t ht hW => ⟨y_12, rfl, ⟨b_y_12, (by omega)⟩, ht⟩) t_nil dX10_divisor_22
  ·
    have n_c_15 : (y_11.toInt : Int) ≠ 0 := c_ne rfl (by decide) c_15
    have b_y_11 : (1 : Int) ≤ y_11.toInt ∧ y_11.toInt ≤ 40000 := r_ne1 b_y_11 (by decide : (0 : Int) ≤ (0 : Int32).toInt ∧ (0 : Int32).toInt ≤ 0) n_c_15 (by decide)
    refine lv_iload_n hx hb dX10_divisor_8 rfl (lv_at hl 1 rfl) ?_
    refine lv_iload_n hx hb dX10_divisor_9 rfl (lv_at hl 0 rfl) ?_
    refine lv_irem hx hb dX10_divisor_10 (ti_ne b_y_11 (by decide)) ?_
    refine lv_topi (fun z_16 e_z_16 => ?_)
    obtain ⟨q_z_16, b_z_16⟩ := ti_rem (hi := 39999) e_z_16 rfl rfl b_y_12 b_y_11 (by decide)
    refine lv_istore (lv' := [(4, .int z_16), (3, .int y_11), (2, .int y_12), (0, .int a1), (1, .int a2)]) hx hb dX10_divisor_11 hl (by decide) rfl (fun ls hl => ?_)
    refine lv_iload_n hx hb dX10_divisor_13 rfl (lv_at hl 1 rfl) ?_
    refine lv_istore_n (lv' := [(2, .int y_11), (4, .int z_16), (3, .int y_11), (0, .int a1), (1, .int a2)]) hx hb dX10_divisor_14 rfl hl (by decide) rfl (fun ls hl => ?_)
    refine lv_iload hx hb dX10_divisor_15 (lv_at hl 1 rfl) ?_
    refine lv_istore_n (lv' := [(3, .int z_16), (2, .int y_11), (4, .int z_16), (0, .int a1), (1, .int a2)]) hx hb dX10_divisor_17 rfl hl (by decide) rfl (fun ls hl => ?_)
    refine lv_goto (tgt := 4) hx hb dX10_divisor_18 (by decide) ?_
    exact ih_4_14 (z_16, y_11) _ ⟨(show (0 : Int) ≤ z_16.toInt ∧ z_16.toInt ≤ 40000 from (rg_w b_z_16 (by decide) (by decide))), (show (0 : Int) ≤ y_11.toInt ∧ y_11.toInt ≤ 40000 from (rg_w b_y_11 (by decide) (by decide))), (show 1 ≤ y_11.toInt ∨ 1 ≤ z_16.toInt from (by omega)), lv_sub hl [0, 1, 3, 4] rfl⟩ (show z_16.toInt.toNat < y_11.toInt.toNat by omega)
theorem dX10_part_0 : decode cX10_part 0 = .ok (.iload_n 0, 1) := by decide +kernel
theorem dX10_part_1 : decode cX10_part 1 = .ok (.iload_n 1, 1) := by decide +kernel
theorem dX10_part_2 : decode cX10_part 2 = .ok (.invokestatic 348, 3) := by decide +kernel
theorem dX10_part_5 : decode cX10_part 5 = .ok (.istore_n 3, 1) := by decide +kernel
theorem dX10_part_6 : decode cX10_part 6 = .ok (.iload_n 2, 1) := by decide +kernel
theorem dX10_part_7 : decode cX10_part 7 = .ok (.ifCond .ne 7, 3) := by decide +kernel
theorem dX10_part_10 : decode cX10_part 10 = .ok (.iload_n 0, 1) := by decide +kernel
theorem dX10_part_11 : decode cX10_part 11 = .ok (.goto 4, 3) := by decide +kernel
theorem dX10_part_14 : decode cX10_part 14 = .ok (.iload_n 1, 1) := by decide +kernel
theorem dX10_part_15 : decode cX10_part 15 = .ok (.iload_n 3, 1) := by decide +kernel
theorem dX10_part_16 : decode cX10_part 16 = .ok (.idiv, 1) := by decide +kernel
theorem dX10_part_17 : decode cX10_part 17 = .ok (.ireturn, 1) := by decide +kernel
def uX10_part : List Cond := .code yX10_part cX10_part 4 (some .int) :: ([.methodLink RX10 348 yX10_divisor, .static yX10_divisor, .initialized RX10, .code yX10_divisor cX10_divisor 5 (some .int)])
set_option maxRecDepth 20000 in
theorem gX10_part__X10_divisor_S348 : GoodIn uX10_part (va_wsS RX10 348 yX10_divisor uX10_divisor) := goodIn_p _ [4] rfl (by decide +kernel)
set_option maxHeartbeats 4000000 in
set_option maxRecDepth 100000 in
theorem kX10_part (l : Launch) (dC : Nat → ClassId) (dI : Nat → Nat → Nat) (a1 : Int32) (a2 : Int32) (a3 : Int32) (b_a1 : (0 : Int) ≤ a1.toInt ∧ a1.toInt ≤ 40000) (b_a2 : (0 : Int) ≤ a2.toInt ∧ a2.toInt ≤ 40000) (h1 : 1 ≤ a2.toInt) : Met l yX10_part uX10_part ({ frames := 1, cells := 0, slots := 0, locals := 24 }) (va_Pc [.int a1, .int a2, .int a3] (fun _ => True)) (vp_Si (fun r => ((0 : Int) ≤ r.toInt ∧ r.toInt ≤ 40000))) 0 0 (fun _ => False) := by
  refine Met.ofW (cc := cX10_part) (maxL := 4) (ret := (some .int)) (by decide) rfl ?_
  intro p e s m args below meth c s₁ B hml hv
  obtain ⟨rfl, _⟩ := hv
  have hx := B.exec
  have hb := B.bytes
  have hr := B.returns
  have hts := atoms_spec (ws := uX10_part) B.pre
  have hown : s.vm.findClass RX10 = some m.cls := findClass_of_methodNamed B.named
  have hlocks := B.notSynchronized
  have hl := lv_entry ([.int a1, .int a2, .int a3]) (n := 4) (Nat.le_of_ble_eq_true rfl)
  rw [lg_entry_eq]
  generalize (lg_sl ([.int a1, .int a2, .int a3]) ++ List.replicate (4 - (lg_sl ([.int a1, .int a2, .int a3])).length) Slot.unset).toArray = ls at hl ⊢
  have hl : lv_has ls 4 [(0, .int a1), (1, .int a2), (2, .int a3)] := hl
  refine lv_iload_n hx hb dX10_part_0 rfl (lv_at hl 0 rfl) ?_
  refine lv_iload_n hx hb dX10_part_1 rfl (lv_at hl 1 rfl) ?_
  refine vp_callSi (W.runS (As := [.int a1, .int a2]) (rest := []) ⟨hx, hb, hml, hown, hts⟩ (kX10_divisor l dC dI a1 a2 b_a1 b_a2 (by omega)) (va_cwS 2 hts gX10_part__X10_divisor_S348 rfl rfl rfl (by decide +kernel) ⟨lel 1 1 rfl, lel 24 24 rfl⟩) ⟨pn_fb, pn_use⟩ rfl rfl hl.1 rfl (lv_room (Nat.le_of_ble_eq_true rfl)) dX10_part_2 ⟨lel 0 0 rfl, lel 0 0 rfl⟩) (fun r_5 h_r_5 => ?_)
  obtain ⟨b_r_5, pr_r_5⟩ := h_r_5
  have b_r_5 : (0 : Int) ≤ r_5.toInt ∧ r_5.toInt ≤ 40000 := b_r_5
  refine lv_istore_n (lv' := [(3, .int r_5), (0, .int a1), (1, .int a2), (2, .int a3)]) hx hb dX10_part_5 rfl hl (by decide) rfl (fun ls hl => ?_)
  refine lv_iload_n hx hb dX10_part_6 rfl (lv_at hl 3 rfl) ?_
  refine lv_if_ne (tgt := 14) hx hb dX10_part_7 (by decide) (fun c_6 => ?_) (fun c_6 => ?_)
  ·
    have n_c_6 : (a3.toInt : Int) ≠ 0 := c_ne rfl (by decide) c_6
    refine lv_iload_n hx hb dX10_part_14 rfl (lv_at hl 2 rfl) ?_
    refine lv_iload_n hx hb dX10_part_15 rfl (lv_at hl 0 rfl) ?_
    have b_r_5 : (1 : Int) ≤ r_5.toInt ∧ r_5.toInt ≤ 40000 := ⟨by omega, (b_r_5).2⟩
    refine lv_idiv hx hb dX10_part_16 (ti_ne b_r_5 (by decide)) ?_
    refine lv_topi (fun z_7 e_z_7 => ?_)
    obtain ⟨q_z_7, b_z_7⟩ := ti_div (hi := 40000) e_z_7 rfl rfl b_a2 b_r_5 (by decide)
    exact W.iret (v := z_7) hx hb hr (fun t ht hW => ⟨z_7, rfl, b_z_7, ht⟩) t_nil dX10_part_17
  ·
    have n_c_6 : (a3.toInt : Int) = 0 := c_eq rfl (by decide) c_6
    have b_a3 : (0 : Int) ≤ a3.toInt ∧ a3.toInt ≤ 0 := r_eq1 (ti_rng a3) (by decide : (0 : Int) ≤ (0 : Int32).toInt ∧ (0 : Int32).toInt ≤ 0) n_c_6 (by decide)
    refine lv_iload_n hx hb dX10_part_10 rfl (lv_at hl 1 rfl) ?_
    refine lv_goto (tgt := 15) hx hb dX10_part_11 (by decide) ?_
    refine lv_iload_n hx hb dX10_part_15 rfl (lv_at hl 0 rfl) ?_
    have b_r_5 : (1 : Int) ≤ r_5.toInt ∧ r_5.toInt ≤ 40000 := ⟨by omega, (b_r_5).2⟩
    refine lv_idiv hx hb dX10_part_16 (ti_ne b_r_5 (by decide)) ?_
    refine lv_topi (fun z_8 e_z_8 => ?_)
    obtain ⟨q_z_8, b_z_8⟩ := ti_div (hi := 40000) e_z_8 rfl rfl b_a1 b_r_5 (by decide)
    exact W.iret (v := z_8) hx hb hr (fun t ht hW => ⟨z_8, rfl, b_z_8, ht⟩) t_nil dX10_part_17
theorem dX10_chance_0 : decode cX10_chance 0 = .ok (.aload_n 0, 1) := by decide +kernel
theorem dX10_chance_1 : decode cX10_chance 1 = .ok (.iload_n 1, 1) := by decide +kernel
theorem dX10_chance_2 : decode cX10_chance 2 = .ok (.invokevirtual 89, 3) := by decide +kernel
theorem dX10_chance_5 : decode cX10_chance 5 = .ok (.ifCond .eq 31, 3) := by decide +kernel
theorem dX10_chance_8 : decode cX10_chance 8 = .ok (.iload_n 2, 1) := by decide +kernel
theorem dX10_chance_9 : decode cX10_chance 9 = .ok (.i2l, 1) := by decide +kernel
theorem dX10_chance_10 : decode cX10_chance 10 = .ok (.lconst 0, 1) := by decide +kernel
theorem dX10_chance_11 : decode cX10_chance 11 = .ok (.lconst 1, 1) := by decide +kernel
theorem dX10_chance_12 : decode cX10_chance 12 = .ok (.invokestatic 82, 3) := by decide +kernel
theorem dX10_chance_15 : decode cX10_chance 15 = .ok (.ifCond .eq 21, 3) := by decide +kernel
theorem dX10_chance_18 : decode cX10_chance 18 = .ok (.aload_n 0, 1) := by decide +kernel
theorem dX10_chance_19 : decode cX10_chance 19 = .ok (.iload_n 1, 1) := by decide +kernel
theorem dX10_chance_20 : decode cX10_chance 20 = .ok (.invokevirtual 322, 3) := by decide +kernel
theorem dX10_chance_23 : decode cX10_chance 23 = .ok (.aload_n 0, 1) := by decide +kernel
theorem dX10_chance_24 : decode cX10_chance 24 = .ok (.getfield 9, 3) := by decide +kernel
theorem dX10_chance_27 : decode cX10_chance 27 = .ok (.iconst 2, 1) := by decide +kernel
theorem dX10_chance_28 : decode cX10_chance 28 = .ok (.iaload, 1) := by decide +kernel
theorem dX10_chance_29 : decode cX10_chance 29 = .ok (.iload_n 2, 1) := by decide +kernel
theorem dX10_chance_30 : decode cX10_chance 30 = .ok (.invokestatic 351, 3) := by decide +kernel
theorem dX10_chance_33 : decode cX10_chance 33 = .ok (.goto 5, 3) := by decide +kernel
theorem dX10_chance_36 : decode cX10_chance 36 = .ok (.bipush (-2), 2) := by decide +kernel
theorem dX10_chance_38 : decode cX10_chance 38 = .ok (.ireturn, 1) := by decide +kernel
def uX10_chance : List Cond := .code yX10_chance cX10_chance 3 (some .int) :: ([.methodLink RX10 89 yX10_isLaw, .instanceMethod yX10_isLaw, .selects RX10 yX10_isLaw yX10_isLaw, .initialized RX10, .code yX10_isLaw cX10_isLaw 2 (some .boolean), .fieldLink RX10 9 "LuckyTicketModel" "world" "[I", .methodLink RX10 82 yX10_in, .static yX10_in, .code yX10_in cX10_in 6 (some .boolean), .methodLink RX10 322 yX10_allOf, .instanceMethod yX10_allOf, .selects RX10 yX10_allOf yX10_allOf, .code yX10_allOf cX10_allOf 2 (some .int), .methodLink RX10 319 yX10_rankOf, .instanceMethod yX10_rankOf, .selects RX10 yX10_rankOf yX10_rankOf, .code yX10_rankOf cX10_rankOf 5 (some .int), .fieldLink RX10 20 "LuckyTicketModel" "luck" "[I", .methodLink RX10 351 yX10_part, .static yX10_part, .code yX10_part cX10_part 4 (some .int), .methodLink RX10 348 yX10_divisor, .static yX10_divisor, .code yX10_divisor cX10_divisor 5 (some .int)] ++ wsX100)
theorem iX10_chance_X10 : ∀ w ∈ wsX100, w ∈ uX10_chance := fun _ h => List.mem_cons_of_mem _ (List.mem_append_right _ h)
set_option maxRecDepth 20000 in
theorem gX10_chance__X10_isLaw_V89 : GoodIn uX10_chance (wsV RX10 89 RX10 yX10_isLaw uX10_isLaw) := goodIn_p _ [5, 9] rfl (by decide +kernel)
set_option maxRecDepth 20000 in
theorem gX10_chance__X10_in_S82 : GoodIn uX10_chance (va_wsS RX10 82 yX10_in uX10_in) := goodIn_p _ [9] rfl (by decide +kernel)
set_option maxRecDepth 20000 in
theorem gX10_chance__X10_allOf_V322 : GoodIn uX10_chance (wsV RX10 322 RX10 yX10_allOf uX10_allOf) := goodIn_p _ [13, 17] rfl (by decide +kernel)
set_option maxRecDepth 20000 in
theorem gX10_chance__X10_part_S351 : GoodIn uX10_chance (va_wsS RX10 351 yX10_part uX10_part) := goodIn_p _ [21, 24] rfl (by decide +kernel)
set_option maxHeartbeats 4000000 in
set_option maxRecDepth 100000 in
theorem kX10_chance (l : Launch) (dC : Nat → ClassId) (dI : Nat → Nat → Nat) (o0 : Nat) (x_th : Int32) (mwo : Nat) (mim : Nat) (mhi : Nat) (mlu : Nat) (mtp : Nat) (x_td : Int32) (mfv : Nat) (x_sz : Int32) (x_at : Int32) (x_fr : Int32) (x_to : Int32) (x_va : Int32) (x_fk : Int32) (x_fp : Int32) (mfr : Nat) (mwt : Nat) (x_wt : Int32) (x_op : Int32) (x_jo : Int32) (mfg : Nat) (mpl : Nat) (x_dr : Int64) (mtm : Nat) (mfa : Nat) (mqu : Nat) (mmo : Nat) (mwy : Nat) (mwn : Nat) (mma : Nat) (mwi : Nat) (mnu : Nat) (mmv : Nat) (c_wo : ClassId) (c_lu : ClassId) (w_wo : Nat → Int32) (w_lu : Nat → Int32) (ln : Int32) (bs : Int32) (tk : Int32) (lw : Int32) (li : Int32) (a1 : Int32) (a2 : Int32) (b_ln : (0 : Int) ≤ ln.toInt ∧ ln.toInt ≤ 12) (b_bs : (0 : Int) ≤ bs.toInt ∧ bs.toInt ≤ 16) (b_tk : (0 : Int) ≤ tk.toInt ∧ tk.toInt ≤ 20000) (b_lw : (0 : Int) ≤ lw.toInt ∧ lw.toInt ≤ 9) (hw0 : w_wo 0 = ln) (hw1 : w_wo 1 = bs) (hw2 : w_wo 2 = tk) (hw3 : w_wo 3 = lw) (hw4 : w_wo 4 = li) (hwz : (ln.toInt = 0 ∧ bs.toInt = 0 ∧ tk.toInt = 0 ∧ lw.toInt = 0) ∨ (1 ≤ ln.toInt ∧ 2 ≤ bs.toInt ∧ 1 ≤ tk.toInt)) : Met l yX10_chance uX10_chance ({ frames := 2, cells := 0, slots := 0, locals := 47 }) (va_Pc [.ref o0, .int a1, .int a2] (pw (dC, dI) vwCl [(o0, .inr (8, [.int x_th, .ref mwo, .ref mim, .ref mhi, .ref mlu, .ref mtp, .int x_td, .ref mfv, .int x_sz, .int x_at, .int x_fr, .int x_to, .int x_va, .int x_fk, .int x_fp, .ref mfr, .ref mwt, .int x_wt, .int x_op, .int x_jo, .ref mfg, .ref mpl, .long x_dr, .ref mtm, .ref mfa, .ref mqu, .ref mmo, .ref mwy, .ref mwn, .ref mma, .ref mwi, .ref mnu, .ref mmv])), (mwo, .inl (c_wo, 1875, .inl w_wo)), (mlu, .inl (c_lu, 20000, .inl w_lu))] [(c_wo, .int), (c_lu, .int)])) (vp_Si (fun r => ((-2 : Int) ≤ r.toInt ∧ r.toInt ≤ 40000))) 0 0 (fun _ => False) := by
  refine Met.ofW (cc := cX10_chance) (maxL := 3) (ret := (some .int)) (by decide) rfl ?_
  intro p e s m args below meth c s₁ B hml hv
  obtain ⟨rfl, hP, hK, hN⟩ := hv
  have hx := B.exec
  have hb := B.bytes
  have hr := B.returns
  have hts := atoms_spec (ws := uX10_chance) B.pre
  have hown : s.vm.findClass RX10 = some m.cls := findClass_of_methodNamed B.named
  have hlocks := B.notSynchronized
  have hl := lv_entry ([.ref o0, .int a1, .int a2]) (n := 3) (Nat.le_of_ble_eq_true rfl)
  rw [lg_entry_eq]
  generalize (lg_sl ([.ref o0, .int a1, .int a2]) ++ List.replicate (3 - (lg_sl ([.ref o0, .int a1, .int a2])).length) Slot.unset).toArray = ls at hl ⊢
  have hl : lv_has ls 3 [(0, .ref o0), (1, .int a1), (2, .int a2)] := hl
  refine lv_aload_n hx hb dX10_chance_0 rfl (lv_at hl 0 rfl) ?_
  refine lv_iload_n hx hb dX10_chance_1 rfl (lv_at hl 1 rfl) ?_
  refine vp_callSi (W.runV (As := [.int a1]) (rest := []) ⟨hx, hb, hml, hown, hts⟩ (kX10_isLaw l dC dI o0 x_th mwo mim mhi mlu mtp x_td mfv x_sz x_at x_fr x_to x_va x_fk x_fp mfr mwt x_wt x_op x_jo mfg mpl x_dr mtm mfa mqu mmo mwy mwn mma mwi mnu mmv c_wo w_wo ln bs tk lw li a1 b_ln b_bs b_tk b_lw (hw0) (hw1) (hw2) (hw3) (hw4) (hwz)) (cwV 1 hts gX10_chance__X10_isLaw_V89 rfl rfl rfl (by decide +kernel) ⟨lel 2 2 rfl, lel 46 47 rfl⟩) ⟨pw_fb, va_recv hK hP (ci := 8) (q0 := 0) rfl rfl, (pw_use hP hK hN [0, 1] rfl [0] rfl)⟩ rfl rfl hl.1 rfl (lv_room (Nat.le_of_ble_eq_true rfl)) dX10_chance_2 ⟨lel 0 0 rfl, lel 0 0 rfl⟩) (fun r_11 h_r_11 => ?_)
  obtain ⟨b_r_11, nz_r_11⟩ := h_r_11
  have b_r_11 : (0 : Int) ≤ r_11.toInt ∧ r_11.toInt ≤ 1 := b_r_11
  refine lv_if_eq (tgt := 36) hx hb dX10_chance_5 (by decide) (fun c_12 => ?_) (fun c_12 => ?_)
  ·
    have n_c_12 : (r_11.toInt : Int) = 0 := c_eq rfl (by decide) c_12
    have b_r_11 : (0 : Int) ≤ r_11.toInt ∧ r_11.toInt ≤ 0 := r_eq1 b_r_11 (by decide : (0 : Int) ≤ (0 : Int32).toInt ∧ (0 : Int32).toInt ≤ 0) n_c_12 (by decide)
    refine lv_bipush (v := (-2)) hx hb dX10_chance_36 (by decide) ?_
    exact W.iret (v := (-2)) hx hb hr (fun t ht hW => ⟨(-2), rfl, (rg_w (by decide : (-2 : Int) ≤ ((-2) : Int32).toInt ∧ ((-2) : Int32).toInt ≤ -2) (by decide) (by decide)), ht⟩) t_nil dX10_chance_38
  ·
    have n_c_12 : (r_11.toInt : Int) ≠ 0 := c_ne rfl (by decide) c_12
    have b_r_11 : (1 : Int) ≤ r_11.toInt ∧ r_11.toInt ≤ 1 := r_ne1 b_r_11 (by decide : (0 : Int) ≤ (0 : Int32).toInt ∧ (0 : Int32).toInt ≤ 0) n_c_12 (by decide)
    obtain ⟨b_a1, g_13⟩ := nz_r_11 c_12
    refine lv_iload_n hx hb dX10_chance_8 rfl (lv_at hl 2 rfl) ?_
    obtain ⟨z_14, e_z_14⟩ : ∃ y : Int64, y = a2.toInt64 := ⟨_, rfl⟩
    refine lv_i2l (v := z_14) hx hb dX10_chance_9 e_z_14.symm ?_
    obtain ⟨q_z_14, b_z_14⟩ := ti_i2l e_z_14 (ti_rng a2)
    refine lv_lconst (v := 0) hx hb dX10_chance_10 (by decide) ?_
    refine lv_lconst (v := 1) hx hb dX10_chance_11 (by decide) ?_
    refine vp_callSi (W.runS (As := [.long z_14, .long 0, .long 1]) (rest := []) ⟨hx, hb, hml, hown, hts⟩ (kX10_in l dC dI z_14 0 1 ) (va_cwS 3 hts gX10_chance__X10_in_S82 rfl rfl rfl (by decide +kernel) ⟨lel 1 2 rfl, lel 25 47 rfl⟩) ⟨pn_fb, pn_use⟩ rfl rfl hl.1 rfl (lv_room (Nat.le_of_ble_eq_true rfl)) dX10_chance_12 ⟨lel 0 0 rfl, lel 0 0 rfl⟩) (fun r_15 h_r_15 => ?_)
    obtain ⟨b_r_15, nz_r_15⟩ := h_r_15
    have b_r_15 : (0 : Int) ≤ r_15.toInt ∧ r_15.toInt ≤ 1 := b_r_15
    refine lv_if_eq (tgt := 36) hx hb dX10_chance_15 (by decide) (fun c_16 => ?_) (fun c_16 => ?_)
    ·
      have n_c_16 : (r_15.toInt : Int) = 0 := c_eq rfl (by decide) c_16
      have b_r_15 : (0 : Int) ≤ r_15.toInt ∧ r_15.toInt ≤ 0 := r_eq1 b_r_15 (by decide : (0 : Int) ≤ (0 : Int32).toInt ∧ (0 : Int32).toInt ≤ 0) n_c_16 (by decide)
      refine lv_bipush (v := (-2)) hx hb dX10_chance_36 (by decide) ?_
      exact W.iret (v := (-2)) hx hb hr (fun t ht hW => ⟨(-2), rfl, (rg_w (by decide : (-2 : Int) ≤ ((-2) : Int32).toInt ∧ ((-2) : Int32).toInt ≤ -2) (by decide) (by decide)), ht⟩) t_nil dX10_chance_38
    ·
      have n_c_16 : (r_15.toInt : Int) ≠ 0 := c_ne rfl (by decide) c_16
      have b_r_15 : (1 : Int) ≤ r_15.toInt ∧ r_15.toInt ≤ 1 := r_ne1 b_r_15 (by decide : (0 : Int) ≤ (0 : Int32).toInt ∧ (0 : Int32).toInt ≤ 0) n_c_16 (by decide)
      have g_17 := nz_r_15 c_16
      have lt0_g_17 := (by decide : (0 : Int64).toInt = 0)
      have lt1_g_17 := (by decide : (1 : Int64).toInt = 1)
      have b_z_14 : (0 : Int) ≤ z_14.toInt ∧ z_14.toInt ≤ 1 := by
        have q0 := b_z_14
        have q1 := (by decide : (0 : Int) ≤ (0 : Int64).toInt ∧ (0 : Int64).toInt ≤ 0)
        have q2 := (by decide : (1 : Int) ≤ (1 : Int64).toInt ∧ (1 : Int64).toInt ≤ 1)
        omega
      have b_a2 : (0 : Int) ≤ a2.toInt ∧ a2.toInt ≤ 1 := by
        have q0 := b_z_14; have q1 := q_z_14; have q2 := (ti_rng a2); omega
      refine lv_aload_n hx hb dX10_chance_18 rfl (lv_at hl 0 rfl) ?_
      refine lv_iload_n hx hb dX10_chance_19 rfl (lv_at hl 1 rfl) ?_
      refine vp_callSi (W.runV (As := [.int a1]) (rest := []) ⟨hx, hb, hml, hown, hts⟩ (kX10_allOf l dC dI o0 x_th mwo mim mhi mlu mtp x_td mfv x_sz x_at x_fr x_to x_va x_fk x_fp mfr mwt x_wt x_op x_jo mfg mpl x_dr mtm mfa mqu mmo mwy mwn mma mwi mnu mmv c_wo c_lu w_wo w_lu ln bs tk lw li a1 b_ln b_bs b_tk b_lw (hw0) (hw1) (hw2) (hw3) (hw4) (hwz)) (cwV 1 hts gX10_chance__X10_allOf_V322 rfl rfl rfl (by decide +kernel) ⟨lel 2 2 rfl, lel 45 47 rfl⟩) ⟨pw_fb, va_recv hK hP (ci := 8) (q0 := 0) rfl rfl, (pw_use hP hK hN [0, 1, 2] rfl [0, 1] rfl)⟩ rfl rfl hl.1 rfl (lv_room (Nat.le_of_ble_eq_true rfl)) dX10_chance_20 ⟨lel 0 0 rfl, lel 0 0 rfl⟩) (fun r_18 h_r_18 => ?_)
      obtain ⟨b_r_18, pr_r_18⟩ := h_r_18
      have b_r_18 : (0 : Int) ≤ r_18.toInt ∧ r_18.toInt ≤ 20000 := b_r_18
      refine lv_aload_n hx hb dX10_chance_23 rfl (lv_at hl 0 rfl) ?_
      refine va_get (D := (dC, dI)) (ci := 8) (v := .ref mwo) (C := RX10) (T := TX10) (N := 33) hx hb hts iX10_chance_X10 hown hK hP 0 rfl rfl 1 (by decide) (hts (.fieldLink RX10 9 "LuckyTicketModel" "world" "[I") (List.mem_of_getElem? (i := 6) rfl)) (fun _ h9 => h9) rfl dX10_chance_24 ?_
      refine lv_iconst (v := 2) hx hb dX10_chance_27 (by decide) ?_
      refine va_iald hx hb hK hP 1 0 rfl rfl (vp_in_b (by decide : (2 : Int) ≤ (2 : Int32).toInt ∧ (2 : Int32).toInt ≤ 2) (by decide) (by decide)) dX10_chance_28 ?_
      refine lv_topi (fun z_19 e_z_19 => ?_)
      obtain rfl : z_19 = tk := e_z_19.trans hw2
      refine lv_iload_n hx hb dX10_chance_29 rfl (lv_at hl 2 rfl) ?_
      refine vp_callSi (W.runS (As := [.int r_18, .int tk, .int a2]) (rest := []) ⟨hx, hb, hml, hown, hts⟩ (kX10_part l dC dI r_18 tk a2 (rg_w b_r_18 (by decide) (by decide)) (rg_w b_tk (by decide) (by decide)) (by omega)) (va_cwS 3 hts gX10_chance__X10_part_S351 rfl rfl rfl (by decide +kernel) ⟨lel 2 2 rfl, lel 47 47 rfl⟩) ⟨pn_fb, pn_use⟩ rfl rfl hl.1 rfl (lv_room (Nat.le_of_ble_eq_true rfl)) dX10_chance_30 ⟨lel 0 0 rfl, lel 0 0 rfl⟩) (fun r_20 h_r_20 => ?_)
      have b_r_20 := h_r_20
      have b_r_20 : (0 : Int) ≤ r_20.toInt ∧ r_20.toInt ≤ 40000 := b_r_20
      refine lv_goto (tgt := 38) hx hb dX10_chance_33 (by decide) ?_
      exact W.iret (v := r_20) hx hb hr (fun t ht hW => ⟨r_20, rfl, (rg_w b_r_20 (by decide) (by decide)), ht⟩) t_nil dX10_chance_38
theorem dX10_share_0 : decode cX10_share 0 = .ok (.aload_n 0, 1) := by decide +kernel
theorem dX10_share_1 : decode cX10_share 1 = .ok (.iload_n 1, 1) := by decide +kernel
theorem dX10_share_2 : decode cX10_share 2 = .ok (.invokevirtual 89, 3) := by decide +kernel
theorem dX10_share_5 : decode cX10_share 5 = .ok (.ifCond .eq 13, 3) := by decide +kernel
theorem dX10_share_8 : decode cX10_share 8 = .ok (.iload_n 2, 1) := by decide +kernel
theorem dX10_share_9 : decode cX10_share 9 = .ok (.i2l, 1) := by decide +kernel
theorem dX10_share_10 : decode cX10_share 10 = .ok (.lconst 0, 1) := by decide +kernel
theorem dX10_share_11 : decode cX10_share 11 = .ok (.lconst 1, 1) := by decide +kernel
theorem dX10_share_12 : decode cX10_share 12 = .ok (.invokestatic 82, 3) := by decide +kernel
theorem dX10_share_15 : decode cX10_share 15 = .ok (.ifCond .ne 6, 3) := by decide +kernel
theorem dX10_share_18 : decode cX10_share 18 = .ok (.bipush (-2), 2) := by decide +kernel
theorem dX10_share_20 : decode cX10_share 20 = .ok (.ireturn, 1) := by decide +kernel
theorem dX10_share_21 : decode cX10_share 21 = .ok (.aload_n 0, 1) := by decide +kernel
theorem dX10_share_22 : decode cX10_share 22 = .ok (.iload_n 1, 1) := by decide +kernel
theorem dX10_share_23 : decode cX10_share 23 = .ok (.invokevirtual 322, 3) := by decide +kernel
theorem dX10_share_26 : decode cX10_share 26 = .ok (.istore_n 3, 1) := by decide +kernel
theorem dX10_share_27 : decode cX10_share 27 = .ok (.iload_n 3, 1) := by decide +kernel
theorem dX10_share_28 : decode cX10_share 28 = .ok (.ifCond .ne 7, 3) := by decide +kernel
theorem dX10_share_31 : decode cX10_share 31 = .ok (.iconst (-1), 1) := by decide +kernel
theorem dX10_share_32 : decode cX10_share 32 = .ok (.goto 23, 3) := by decide +kernel
theorem dX10_share_35 : decode cX10_share 35 = .ok (.aload_n 0, 1) := by decide +kernel
theorem dX10_share_36 : decode cX10_share 36 = .ok (.getfield 9, 3) := by decide +kernel
theorem dX10_share_39 : decode cX10_share 39 = .ok (.iconst 2, 1) := by decide +kernel
theorem dX10_share_40 : decode cX10_share 40 = .ok (.iaload, 1) := by decide +kernel
theorem dX10_share_41 : decode cX10_share 41 = .ok (.iconst 2, 1) := by decide +kernel
theorem dX10_share_42 : decode cX10_share 42 = .ok (.aload_n 0, 1) := by decide +kernel
theorem dX10_share_43 : decode cX10_share 43 = .ok (.getfield 9, 3) := by decide +kernel
theorem dX10_share_46 : decode cX10_share 46 = .ok (.iconst 2, 1) := by decide +kernel
theorem dX10_share_47 : decode cX10_share 47 = .ok (.iaload, 1) := by decide +kernel
theorem dX10_share_48 : decode cX10_share 48 = .ok (.imul, 1) := by decide +kernel
theorem dX10_share_49 : decode cX10_share 49 = .ok (.iload_n 3, 1) := by decide +kernel
theorem dX10_share_50 : decode cX10_share 50 = .ok (.isub, 1) := by decide +kernel
theorem dX10_share_51 : decode cX10_share 51 = .ok (.iload_n 2, 1) := by decide +kernel
theorem dX10_share_52 : decode cX10_share 52 = .ok (.invokestatic 351, 3) := by decide +kernel
theorem dX10_share_55 : decode cX10_share 55 = .ok (.ireturn, 1) := by decide +kernel
def uX10_share : List Cond := .code yX10_share cX10_share 4 (some .int) :: ([.methodLink RX10 89 yX10_isLaw, .instanceMethod yX10_isLaw, .selects RX10 yX10_isLaw yX10_isLaw, .initialized RX10, .code yX10_isLaw cX10_isLaw 2 (some .boolean), .fieldLink RX10 9 "LuckyTicketModel" "world" "[I", .methodLink RX10 82 yX10_in, .static yX10_in, .code yX10_in cX10_in 6 (some .boolean), .methodLink RX10 322 yX10_allOf, .instanceMethod yX10_allOf, .selects RX10 yX10_allOf yX10_allOf, .code yX10_allOf cX10_allOf 2 (some .int), .methodLink RX10 319 yX10_rankOf, .instanceMethod yX10_rankOf, .selects RX10 yX10_rankOf yX10_rankOf, .code yX10_rankOf cX10_rankOf 5 (some .int), .fieldLink RX10 20 "LuckyTicketModel" "luck" "[I", .methodLink RX10 351 yX10_part, .static yX10_part, .code yX10_part cX10_part 4 (some .int), .methodLink RX10 348 yX10_divisor, .static yX10_divisor, .code yX10_divisor cX10_divisor 5 (some .int)] ++ wsX100)
theorem iX10_share_X10 : ∀ w ∈ wsX100, w ∈ uX10_share := fun _ h => List.mem_cons_of_mem _ (List.mem_append_right _ h)
set_option maxRecDepth 20000 in
theorem gX10_share__X10_isLaw_V89 : GoodIn uX10_share (wsV RX10 89 RX10 yX10_isLaw uX10_isLaw) := goodIn_p _ [5, 9] rfl (by decide +kernel)
set_option maxRecDepth 20000 in
theorem gX10_share__X10_in_S82 : GoodIn uX10_share (va_wsS RX10 82 yX10_in uX10_in) := goodIn_p _ [9] rfl (by decide +kernel)
set_option maxRecDepth 20000 in
theorem gX10_share__X10_allOf_V322 : GoodIn uX10_share (wsV RX10 322 RX10 yX10_allOf uX10_allOf) := goodIn_p _ [13, 17] rfl (by decide +kernel)
set_option maxRecDepth 20000 in
theorem gX10_share__X10_part_S351 : GoodIn uX10_share (va_wsS RX10 351 yX10_part uX10_part) := goodIn_p _ [21, 24] rfl (by decide +kernel)
set_option maxHeartbeats 4000000 in
set_option maxRecDepth 100000 in
theorem kX10_share (l : Launch) (dC : Nat → ClassId) (dI : Nat → Nat → Nat) (o0 : Nat) (x_th : Int32) (mwo : Nat) (mim : Nat) (mhi : Nat) (mlu : Nat) (mtp : Nat) (x_td : Int32) (mfv : Nat) (x_sz : Int32) (x_at : Int32) (x_fr : Int32) (x_to : Int32) (x_va : Int32) (x_fk : Int32) (x_fp : Int32) (mfr : Nat) (mwt : Nat) (x_wt : Int32) (x_op : Int32) (x_jo : Int32) (mfg : Nat) (mpl : Nat) (x_dr : Int64) (mtm : Nat) (mfa : Nat) (mqu : Nat) (mmo : Nat) (mwy : Nat) (mwn : Nat) (mma : Nat) (mwi : Nat) (mnu : Nat) (mmv : Nat) (c_wo : ClassId) (c_lu : ClassId) (w_wo : Nat → Int32) (w_lu : Nat → Int32) (ln : Int32) (bs : Int32) (tk : Int32) (lw : Int32) (li : Int32) (a1 : Int32) (a2 : Int32) (b_ln : (0 : Int) ≤ ln.toInt ∧ ln.toInt ≤ 12) (b_bs : (0 : Int) ≤ bs.toInt ∧ bs.toInt ≤ 16) (b_tk : (0 : Int) ≤ tk.toInt ∧ tk.toInt ≤ 20000) (b_lw : (0 : Int) ≤ lw.toInt ∧ lw.toInt ≤ 9) (hw0 : w_wo 0 = ln) (hw1 : w_wo 1 = bs) (hw2 : w_wo 2 = tk) (hw3 : w_wo 3 = lw) (hw4 : w_wo 4 = li) (hwz : (ln.toInt = 0 ∧ bs.toInt = 0 ∧ tk.toInt = 0 ∧ lw.toInt = 0) ∨ (1 ≤ ln.toInt ∧ 2 ≤ bs.toInt ∧ 1 ≤ tk.toInt)) : Met l yX10_share uX10_share ({ frames := 2, cells := 0, slots := 0, locals := 47 }) (va_Pc [.ref o0, .int a1, .int a2] (pw (dC, dI) vwCl [(o0, .inr (8, [.int x_th, .ref mwo, .ref mim, .ref mhi, .ref mlu, .ref mtp, .int x_td, .ref mfv, .int x_sz, .int x_at, .int x_fr, .int x_to, .int x_va, .int x_fk, .int x_fp, .ref mfr, .ref mwt, .int x_wt, .int x_op, .int x_jo, .ref mfg, .ref mpl, .long x_dr, .ref mtm, .ref mfa, .ref mqu, .ref mmo, .ref mwy, .ref mwn, .ref mma, .ref mwi, .ref mnu, .ref mmv])), (mwo, .inl (c_wo, 1875, .inl w_wo)), (mlu, .inl (c_lu, 20000, .inl w_lu))] [(c_wo, .int), (c_lu, .int)])) (vp_Si (fun r => ((-2 : Int) ≤ r.toInt ∧ r.toInt ≤ 40000))) 0 0 (fun _ => False) := by
  refine Met.ofW (cc := cX10_share) (maxL := 4) (ret := (some .int)) (by decide) rfl ?_
  intro p e s m args below meth c s₁ B hml hv
  obtain ⟨rfl, hP, hK, hN⟩ := hv
  have hx := B.exec
  have hb := B.bytes
  have hr := B.returns
  have hts := atoms_spec (ws := uX10_share) B.pre
  have hown : s.vm.findClass RX10 = some m.cls := findClass_of_methodNamed B.named
  have hlocks := B.notSynchronized
  have hl := lv_entry ([.ref o0, .int a1, .int a2]) (n := 4) (Nat.le_of_ble_eq_true rfl)
  rw [lg_entry_eq]
  generalize (lg_sl ([.ref o0, .int a1, .int a2]) ++ List.replicate (4 - (lg_sl ([.ref o0, .int a1, .int a2])).length) Slot.unset).toArray = ls at hl ⊢
  have hl : lv_has ls 4 [(0, .ref o0), (1, .int a1), (2, .int a2)] := hl
  refine lv_aload_n hx hb dX10_share_0 rfl (lv_at hl 0 rfl) ?_
  refine lv_iload_n hx hb dX10_share_1 rfl (lv_at hl 1 rfl) ?_
  refine vp_callSi (W.runV (As := [.int a1]) (rest := []) ⟨hx, hb, hml, hown, hts⟩ (kX10_isLaw l dC dI o0 x_th mwo mim mhi mlu mtp x_td mfv x_sz x_at x_fr x_to x_va x_fk x_fp mfr mwt x_wt x_op x_jo mfg mpl x_dr mtm mfa mqu mmo mwy mwn mma mwi mnu mmv c_wo w_wo ln bs tk lw li a1 b_ln b_bs b_tk b_lw (hw0) (hw1) (hw2) (hw3) (hw4) (hwz)) (cwV 1 hts gX10_share__X10_isLaw_V89 rfl rfl rfl (by decide +kernel) ⟨lel 2 2 rfl, lel 46 47 rfl⟩) ⟨pw_fb, va_recv hK hP (ci := 8) (q0 := 0) rfl rfl, (pw_use hP hK hN [0, 1] rfl [0] rfl)⟩ rfl rfl hl.1 rfl (lv_room (Nat.le_of_ble_eq_true rfl)) dX10_share_2 ⟨lel 0 0 rfl, lel 0 0 rfl⟩) (fun r_15 h_r_15 => ?_)
  obtain ⟨b_r_15, nz_r_15⟩ := h_r_15
  have b_r_15 : (0 : Int) ≤ r_15.toInt ∧ r_15.toInt ≤ 1 := b_r_15
  refine lv_if_eq (tgt := 18) hx hb dX10_share_5 (by decide) (fun c_16 => ?_) (fun c_16 => ?_)
  ·
    have n_c_16 : (r_15.toInt : Int) = 0 := c_eq rfl (by decide) c_16
    have b_r_15 : (0 : Int) ≤ r_15.toInt ∧ r_15.toInt ≤ 0 := r_eq1 b_r_15 (by decide : (0 : Int) ≤ (0 : Int32).toInt ∧ (0 : Int32).toInt ≤ 0) n_c_16 (by decide)
    refine lv_bipush (v := (-2)) hx hb dX10_share_18 (by decide) ?_
    exact W.iret (v := (-2)) hx hb hr (fun t ht hW => ⟨(-2), rfl, (rg_w (by decide : (-2 : Int) ≤ ((-2) : Int32).toInt ∧ ((-2) : Int32).toInt ≤ -2) (by decide) (by decide)), ht⟩) t_nil dX10_share_20
  ·
    have n_c_16 : (r_15.toInt : Int) ≠ 0 := c_ne rfl (by decide) c_16
    have b_r_15 : (1 : Int) ≤ r_15.toInt ∧ r_15.toInt ≤ 1 := r_ne1 b_r_15 (by decide : (0 : Int) ≤ (0 : Int32).toInt ∧ (0 : Int32).toInt ≤ 0) n_c_16 (by decide)
    obtain ⟨b_a1, g_17⟩ := nz_r_15 c_16
    refine lv_iload_n hx hb dX10_share_8 rfl (lv_at hl 2 rfl) ?_
    obtain ⟨z_18, e_z_18⟩ : ∃ y : Int64, y = a2.toInt64 := ⟨_, rfl⟩
    refine lv_i2l (v := z_18) hx hb dX10_share_9 e_z_18.symm ?_
    obtain ⟨q_z_18, b_z_18⟩ := ti_i2l e_z_18 (ti_rng a2)
    refine lv_lconst (v := 0) hx hb dX10_share_10 (by decide) ?_
    refine lv_lconst (v := 1) hx hb dX10_share_11 (by decide) ?_
    refine vp_callSi (W.runS (As := [.long z_18, .long 0, .long 1]) (rest := []) ⟨hx, hb, hml, hown, hts⟩ (kX10_in l dC dI z_18 0 1 ) (va_cwS 3 hts gX10_share__X10_in_S82 rfl rfl rfl (by decide +kernel) ⟨lel 1 2 rfl, lel 25 47 rfl⟩) ⟨pn_fb, pn_use⟩ rfl rfl hl.1 rfl (lv_room (Nat.le_of_ble_eq_true rfl)) dX10_share_12 ⟨lel 0 0 rfl, lel 0 0 rfl⟩) (fun r_19 h_r_19 => ?_)
    obtain ⟨b_r_19, nz_r_19⟩ := h_r_19
    have b_r_19 : (0 : Int) ≤ r_19.toInt ∧ r_19.toInt ≤ 1 := b_r_19
    refine lv_if_ne (tgt := 21) hx hb dX10_share_15 (by decide) (fun c_20 => ?_) (fun c_20 => ?_)
    ·
      have n_c_20 : (r_19.toInt : Int) ≠ 0 := c_ne rfl (by decide) c_20
      have b_r_19 : (1 : Int) ≤ r_19.toInt ∧ r_19.toInt ≤ 1 := r_ne1 b_r_19 (by decide : (0 : Int) ≤ (0 : Int32).toInt ∧ (0 : Int32).toInt ≤ 0) n_c_20 (by decide)
      have g_21 := nz_r_19 c_20
      have lt0_g_21 := (by decide : (0 : Int64).toInt = 0)
      have lt1_g_21 := (by decide : (1 : Int64).toInt = 1)
      have b_z_18 : (0 : Int) ≤ z_18.toInt ∧ z_18.toInt ≤ 1 := by
        have q0 := b_z_18
        have q1 := (by decide : (0 : Int) ≤ (0 : Int64).toInt ∧ (0 : Int64).toInt ≤ 0)
        have q2 := (by decide : (1 : Int) ≤ (1 : Int64).toInt ∧ (1 : Int64).toInt ≤ 1)
        omega
      have b_a2 : (0 : Int) ≤ a2.toInt ∧ a2.toInt ≤ 1 := by
        have q0 := b_z_18; have q1 := q_z_18; have q2 := (ti_rng a2); omega
      refine lv_aload_n hx hb dX10_share_21 rfl (lv_at hl 0 rfl) ?_
      refine lv_iload_n hx hb dX10_share_22 rfl (lv_at hl 1 rfl) ?_
      refine vp_callSi (W.runV (As := [.int a1]) (rest := []) ⟨hx, hb, hml, hown, hts⟩ (kX10_allOf l dC dI o0 x_th mwo mim mhi mlu mtp x_td mfv x_sz x_at x_fr x_to x_va x_fk x_fp mfr mwt x_wt x_op x_jo mfg mpl x_dr mtm mfa mqu mmo mwy mwn mma mwi mnu mmv c_wo c_lu w_wo w_lu ln bs tk lw li a1 b_ln b_bs b_tk b_lw (hw0) (hw1) (hw2) (hw3) (hw4) (hwz)) (cwV 1 hts gX10_share__X10_allOf_V322 rfl rfl rfl (by decide +kernel) ⟨lel 2 2 rfl, lel 45 47 rfl⟩) ⟨pw_fb, va_recv hK hP (ci := 8) (q0 := 0) rfl rfl, (pw_use hP hK hN [0, 1, 2] rfl [0, 1] rfl)⟩ rfl rfl hl.1 rfl (lv_room (Nat.le_of_ble_eq_true rfl)) dX10_share_23 ⟨lel 0 0 rfl, lel 0 0 rfl⟩) (fun r_22 h_r_22 => ?_)
      obtain ⟨b_r_22, pr_r_22⟩ := h_r_22
      have b_r_22 : (0 : Int) ≤ r_22.toInt ∧ r_22.toInt ≤ 20000 := b_r_22
      refine lv_istore_n (lv' := [(3, .int r_22), (0, .ref o0), (1, .int a1), (2, .int a2)]) hx hb dX10_share_26 rfl hl (by decide) rfl (fun ls hl => ?_)
      refine lv_iload_n hx hb dX10_share_27 rfl (lv_at hl 0 rfl) ?_
      refine lv_if_ne (tgt := 35) hx hb dX10_share_28 (by decide) (fun c_23 => ?_) (fun c_23 => ?_)
      ·
        have n_c_23 : (r_22.toInt : Int) ≠ 0 := c_ne rfl (by decide) c_23
        have b_r_22 : (1 : Int) ≤ r_22.toInt ∧ r_22.toInt ≤ 20000 := r_ne1 b_r_22 (by decide : (0 : Int) ≤ (0 : Int32).toInt ∧ (0 : Int32).toInt ≤ 0) n_c_23 (by decide)
        refine lv_aload_n hx hb dX10_share_35 rfl (lv_at hl 1 rfl) ?_
        refine va_get (D := (dC, dI)) (ci := 8) (v := .ref mwo) (C := RX10) (T := TX10) (N := 33) hx hb hts iX10_share_X10 hown hK hP 0 rfl rfl 1 (by decide) (hts (.fieldLink RX10 9 "LuckyTicketModel" "world" "[I") (List.mem_of_getElem? (i := 6) rfl)) (fun _ h9 => h9) rfl dX10_share_36 ?_
        refine lv_iconst (v := 2) hx hb dX10_share_39 (by decide) ?_
        refine va_iald hx hb hK hP 1 0 rfl rfl (vp_in_b (by decide : (2 : Int) ≤ (2 : Int32).toInt ∧ (2 : Int32).toInt ≤ 2) (by decide) (by decide)) dX10_share_40 ?_
        refine lv_topi (fun z_24 e_z_24 => ?_)
        obtain rfl : z_24 = tk := e_z_24.trans hw2
        refine lv_iconst (v := 2) hx hb dX10_share_41 (by decide) ?_
        refine lv_aload_n hx hb dX10_share_42 rfl (lv_at hl 1 rfl) ?_
        refine va_get (D := (dC, dI)) (ci := 8) (v := .ref mwo) (C := RX10) (T := TX10) (N := 33) hx hb hts iX10_share_X10 hown hK hP 0 rfl rfl 1 (by decide) (hts (.fieldLink RX10 9 "LuckyTicketModel" "world" "[I") (List.mem_of_getElem? (i := 6) rfl)) (fun _ h9 => h9) rfl dX10_share_43 ?_
        refine lv_iconst (v := 2) hx hb dX10_share_46 (by decide) ?_
        refine va_iald hx hb hK hP 1 0 rfl rfl (vp_in_b (by decide : (2 : Int) ≤ (2 : Int32).toInt ∧ (2 : Int32).toInt ≤ 2) (by decide) (by decide)) dX10_share_47 ?_
        refine lv_topi (fun z_25 e_z_25 => ?_)
        obtain rfl : z_25 = tk := e_z_25.trans hw2
        refine lv_imul hx hb dX10_share_48 ?_
        refine lv_topi (fun z_26 e_z_26 => ?_)
        obtain ⟨q_z_26, b_z_26⟩ := ti_mul (lo := 0) (hi := 40000) e_z_26 (by decide : (2 : Int32).toInt = 2) rfl (by decide : (2 : Int) ≤ (2 : Int32).toInt ∧ (2 : Int32).toInt ≤ 2) b_tk (by decide)
        refine lv_iload_n hx hb dX10_share_49 rfl (lv_at hl 0 rfl) ?_
        refine lv_isub hx hb dX10_share_50 ?_
        refine lv_topi (fun z_27 e_z_27 => ?_)
        obtain ⟨q_z_27, b_z_27⟩ := ti_sub (lo := -20000) (hi := 39999) e_z_27 rfl rfl b_z_26 b_r_22 (by decide)
        refine lv_iload_n hx hb dX10_share_51 rfl (lv_at hl 3 rfl) ?_
        refine vp_callSi (W.runS (As := [.int tk, .int z_27, .int a2]) (rest := []) ⟨hx, hb, hml, hown, hts⟩ (kX10_part l dC dI tk z_27 a2 (rg_w b_tk (by decide) (by decide)) ⟨by omega, by omega⟩ (by omega)) (va_cwS 3 hts gX10_share__X10_part_S351 rfl rfl rfl (by decide +kernel) ⟨lel 2 2 rfl, lel 47 47 rfl⟩) ⟨pn_fb, pn_use⟩ rfl rfl hl.1 rfl (lv_room (Nat.le_of_ble_eq_true rfl)) dX10_share_52 ⟨lel 0 0 rfl, lel 0 0 rfl⟩) (fun r_28 h_r_28 => ?_)
        have b_r_28 := h_r_28
        have b_r_28 : (0 : Int) ≤ r_28.toInt ∧ r_28.toInt ≤ 40000 := b_r_28
        exact W.iret (v := r_28) hx hb hr (fun t ht hW => ⟨r_28, rfl, (rg_w b_r_28 (by decide) (by decide)), ht⟩) t_nil dX10_share_55
      ·
        have n_c_23 : (r_22.toInt : Int) = 0 := c_eq rfl (by decide) c_23
        have b_r_22 : (0 : Int) ≤ r_22.toInt ∧ r_22.toInt ≤ 0 := r_eq1 b_r_22 (by decide : (0 : Int) ≤ (0 : Int32).toInt ∧ (0 : Int32).toInt ≤ 0) n_c_23 (by decide)
        refine lv_iconst (v := (-1)) hx hb dX10_share_31 (by decide) ?_
        refine lv_goto (tgt := 55) hx hb dX10_share_32 (by decide) ?_
        exact W.iret (v := (-1)) hx hb hr (fun t ht hW => ⟨(-1), rfl, (rg_w (by decide : (-1 : Int) ≤ ((-1) : Int32).toInt ∧ ((-1) : Int32).toInt ≤ -1) (by decide) (by decide)), ht⟩) t_nil dX10_share_55
    ·
      have n_c_20 : (r_19.toInt : Int) = 0 := c_eq rfl (by decide) c_20
      have b_r_19 : (0 : Int) ≤ r_19.toInt ∧ r_19.toInt ≤ 0 := r_eq1 b_r_19 (by decide : (0 : Int) ≤ (0 : Int32).toInt ∧ (0 : Int32).toInt ≤ 0) n_c_20 (by decide)
      refine lv_bipush (v := (-2)) hx hb dX10_share_18 (by decide) ?_
      exact W.iret (v := (-2)) hx hb hr (fun t ht hW => ⟨(-2), rfl, (rg_w (by decide : (-2 : Int) ≤ ((-2) : Int32).toInt ∧ ((-2) : Int32).toInt ≤ -2) (by decide) (by decide)), ht⟩) t_nil dX10_share_20
theorem dX10_whose_0 : decode cX10_whose 0 = .ok (.aload_n 0, 1) := by decide +kernel
theorem dX10_whose_1 : decode cX10_whose 1 = .ok (.iload_n 1, 1) := by decide +kernel
theorem dX10_whose_2 : decode cX10_whose 2 = .ok (.iload_n 2, 1) := by decide +kernel
theorem dX10_whose_3 : decode cX10_whose 3 = .ok (.invokevirtual 313, 3) := by decide +kernel
theorem dX10_whose_6 : decode cX10_whose 6 = .ok (.ifCond .ne 6, 3) := by decide +kernel
theorem dX10_whose_9 : decode cX10_whose 9 = .ok (.bipush (-2), 2) := by decide +kernel
theorem dX10_whose_11 : decode cX10_whose 11 = .ok (.ireturn, 1) := by decide +kernel
theorem dX10_whose_12 : decode cX10_whose 12 = .ok (.aload_n 0, 1) := by decide +kernel
theorem dX10_whose_13 : decode cX10_whose 13 = .ok (.iload_n 1, 1) := by decide +kernel
theorem dX10_whose_14 : decode cX10_whose 14 = .ok (.iload_n 2, 1) := by decide +kernel
theorem dX10_whose_15 : decode cX10_whose 15 = .ok (.invokevirtual 325, 3) := by decide +kernel
theorem dX10_whose_18 : decode cX10_whose 18 = .ok (.istore_n 3, 1) := by decide +kernel
theorem dX10_whose_19 : decode cX10_whose 19 = .ok (.iload_n 3, 1) := by decide +kernel
theorem dX10_whose_20 : decode cX10_whose 20 = .ok (.iconst (-1), 1) := by decide +kernel
theorem dX10_whose_21 : decode cX10_whose 21 = .ok (.if_icmp .ne 7, 3) := by decide +kernel
theorem dX10_whose_24 : decode cX10_whose 24 = .ok (.iconst (-1), 1) := by decide +kernel
theorem dX10_whose_25 : decode cX10_whose 25 = .ok (.goto 8, 3) := by decide +kernel
theorem dX10_whose_28 : decode cX10_whose 28 = .ok (.iload_n 3, 1) := by decide +kernel
theorem dX10_whose_29 : decode cX10_whose 29 = .ok (.iload_n 2, 1) := by decide +kernel
theorem dX10_whose_30 : decode cX10_whose 30 = .ok (.isub, 1) := by decide +kernel
theorem dX10_whose_31 : decode cX10_whose 31 = .ok (.iconst 2, 1) := by decide +kernel
theorem dX10_whose_32 : decode cX10_whose 32 = .ok (.irem, 1) := by decide +kernel
theorem dX10_whose_33 : decode cX10_whose 33 = .ok (.ireturn, 1) := by decide +kernel
def uX10_whose : List Cond := .code yX10_whose cX10_whose 4 (some .int) :: ([.methodLink RX10 313 yX10_isBoth, .instanceMethod yX10_isBoth, .selects RX10 yX10_isBoth yX10_isBoth, .initialized RX10, .code yX10_isBoth cX10_isBoth 3 (some .boolean), .methodLink RX10 89 yX10_isLaw, .instanceMethod yX10_isLaw, .selects RX10 yX10_isLaw yX10_isLaw, .code yX10_isLaw cX10_isLaw 2 (some .boolean), .fieldLink RX10 9 "LuckyTicketModel" "world" "[I", .methodLink RX10 82 yX10_in, .static yX10_in, .code yX10_in cX10_in 6 (some .boolean), .methodLink RX10 93 yX10_isTicket, .instanceMethod yX10_isTicket, .selects RX10 yX10_isTicket yX10_isTicket, .code yX10_isTicket cX10_isTicket 3 (some .boolean), .methodLink RX10 325 yX10_nextOf, .instanceMethod yX10_nextOf, .selects RX10 yX10_nextOf yX10_nextOf, .code yX10_nextOf cX10_nextOf 4 (some .int), .methodLink RX10 316 yX10_isLucky, .instanceMethod yX10_isLucky, .selects RX10 yX10_isLucky yX10_isLucky, .code yX10_isLucky cX10_isLucky 3 (some .boolean), .fieldLink RX10 20 "LuckyTicketModel" "luck" "[I"] ++ wsX100)
theorem iX10_whose_X10 : ∀ w ∈ wsX100, w ∈ uX10_whose := fun _ h => List.mem_cons_of_mem _ (List.mem_append_right _ h)
set_option maxRecDepth 20000 in
theorem gX10_whose__X10_isBoth_V313 : GoodIn uX10_whose (wsV RX10 313 RX10 yX10_isBoth uX10_isBoth) := goodIn_p _ [5, 9, 13, 17] rfl (by decide +kernel)
set_option maxRecDepth 20000 in
theorem gX10_whose__X10_nextOf_V325 : GoodIn uX10_whose (wsV RX10 325 RX10 yX10_nextOf uX10_nextOf) := goodIn_p _ [21, 25] rfl (by decide +kernel)
set_option maxHeartbeats 4000000 in
set_option maxRecDepth 100000 in
theorem kX10_whose (l : Launch) (dC : Nat → ClassId) (dI : Nat → Nat → Nat) (o0 : Nat) (x_th : Int32) (mwo : Nat) (mim : Nat) (mhi : Nat) (mlu : Nat) (mtp : Nat) (x_td : Int32) (mfv : Nat) (x_sz : Int32) (x_at : Int32) (x_fr : Int32) (x_to : Int32) (x_va : Int32) (x_fk : Int32) (x_fp : Int32) (mfr : Nat) (mwt : Nat) (x_wt : Int32) (x_op : Int32) (x_jo : Int32) (mfg : Nat) (mpl : Nat) (x_dr : Int64) (mtm : Nat) (mfa : Nat) (mqu : Nat) (mmo : Nat) (mwy : Nat) (mwn : Nat) (mma : Nat) (mwi : Nat) (mnu : Nat) (mmv : Nat) (c_wo : ClassId) (c_lu : ClassId) (w_wo : Nat → Int32) (w_lu : Nat → Int32) (ln : Int32) (bs : Int32) (tk : Int32) (lw : Int32) (li : Int32) (a1 : Int32) (a2 : Int32) (b_ln : (0 : Int) ≤ ln.toInt ∧ ln.toInt ≤ 12) (b_bs : (0 : Int) ≤ bs.toInt ∧ bs.toInt ≤ 16) (b_tk : (0 : Int) ≤ tk.toInt ∧ tk.toInt ≤ 20000) (b_lw : (0 : Int) ≤ lw.toInt ∧ lw.toInt ≤ 9) (hw0 : w_wo 0 = ln) (hw1 : w_wo 1 = bs) (hw2 : w_wo 2 = tk) (hw3 : w_wo 3 = lw) (hw4 : w_wo 4 = li) (hwz : (ln.toInt = 0 ∧ bs.toInt = 0 ∧ tk.toInt = 0 ∧ lw.toInt = 0) ∨ (1 ≤ ln.toInt ∧ 2 ≤ bs.toInt ∧ 1 ≤ tk.toInt)) : Met l yX10_whose uX10_whose ({ frames := 3, cells := 0, slots := 0, locals := 69 }) (va_Pc [.ref o0, .int a1, .int a2] (pw (dC, dI) vwCl [(o0, .inr (8, [.int x_th, .ref mwo, .ref mim, .ref mhi, .ref mlu, .ref mtp, .int x_td, .ref mfv, .int x_sz, .int x_at, .int x_fr, .int x_to, .int x_va, .int x_fk, .int x_fp, .ref mfr, .ref mwt, .int x_wt, .int x_op, .int x_jo, .ref mfg, .ref mpl, .long x_dr, .ref mtm, .ref mfa, .ref mqu, .ref mmo, .ref mwy, .ref mwn, .ref mma, .ref mwi, .ref mnu, .ref mmv])), (mwo, .inl (c_wo, 1875, .inl w_wo)), (mlu, .inl (c_lu, 20000, .inl w_lu))] [(c_wo, .int), (c_lu, .int)])) (vp_Si (fun r => True)) 0 0 (fun _ => False) := by
  refine Met.ofW (cc := cX10_whose) (maxL := 4) (ret := (some .int)) (by decide) rfl ?_
  intro p e s m args below meth c s₁ B hml hv
  obtain ⟨rfl, hP, hK, hN⟩ := hv
  have hx := B.exec
  have hb := B.bytes
  have hr := B.returns
  have hts := atoms_spec (ws := uX10_whose) B.pre
  have hown : s.vm.findClass RX10 = some m.cls := findClass_of_methodNamed B.named
  have hlocks := B.notSynchronized
  have hl := lv_entry ([.ref o0, .int a1, .int a2]) (n := 4) (Nat.le_of_ble_eq_true rfl)
  rw [lg_entry_eq]
  generalize (lg_sl ([.ref o0, .int a1, .int a2]) ++ List.replicate (4 - (lg_sl ([.ref o0, .int a1, .int a2])).length) Slot.unset).toArray = ls at hl ⊢
  have hl : lv_has ls 4 [(0, .ref o0), (1, .int a1), (2, .int a2)] := hl
  refine lv_aload_n hx hb dX10_whose_0 rfl (lv_at hl 0 rfl) ?_
  refine lv_iload_n hx hb dX10_whose_1 rfl (lv_at hl 1 rfl) ?_
  refine lv_iload_n hx hb dX10_whose_2 rfl (lv_at hl 2 rfl) ?_
  refine vp_callSi (W.runV (As := [.int a1, .int a2]) (rest := []) ⟨hx, hb, hml, hown, hts⟩ (kX10_isBoth l dC dI o0 x_th mwo mim mhi mlu mtp x_td mfv x_sz x_at x_fr x_to x_va x_fk x_fp mfr mwt x_wt x_op x_jo mfg mpl x_dr mtm mfa mqu mmo mwy mwn mma mwi mnu mmv c_wo w_wo ln bs tk lw li a1 a2 b_ln b_bs b_tk b_lw (hw0) (hw1) (hw2) (hw3) (hw4) (hwz)) (cwV 2 hts gX10_whose__X10_isBoth_V313 rfl rfl rfl (by decide +kernel) ⟨lel 3 3 rfl, lel 69 69 rfl⟩) ⟨pw_fb, va_recv hK hP (ci := 8) (q0 := 0) rfl rfl, (pw_use hP hK hN [0, 1] rfl [0] rfl)⟩ rfl rfl hl.1 rfl (lv_room (Nat.le_of_ble_eq_true rfl)) dX10_whose_3 ⟨lel 0 0 rfl, lel 0 0 rfl⟩) (fun r_8 h_r_8 => ?_)
  obtain ⟨b_r_8, nz_r_8⟩ := h_r_8
  have b_r_8 : (0 : Int) ≤ r_8.toInt ∧ r_8.toInt ≤ 1 := b_r_8
  refine lv_if_ne (tgt := 12) hx hb dX10_whose_6 (by decide) (fun c_9 => ?_) (fun c_9 => ?_)
  ·
    have n_c_9 : (r_8.toInt : Int) ≠ 0 := c_ne rfl (by decide) c_9
    have b_r_8 : (1 : Int) ≤ r_8.toInt ∧ r_8.toInt ≤ 1 := r_ne1 b_r_8 (by decide : (0 : Int) ≤ (0 : Int32).toInt ∧ (0 : Int32).toInt ≤ 0) n_c_9 (by decide)
    obtain ⟨b_a1, b_a2, g_10⟩ := nz_r_8 c_9
    refine lv_aload_n hx hb dX10_whose_12 rfl (lv_at hl 0 rfl) ?_
    refine lv_iload_n hx hb dX10_whose_13 rfl (lv_at hl 1 rfl) ?_
    refine lv_iload_n hx hb dX10_whose_14 rfl (lv_at hl 2 rfl) ?_
    refine vp_callSi (W.runV (As := [.int a1, .int a2]) (rest := []) ⟨hx, hb, hml, hown, hts⟩ (kX10_nextOf l dC dI o0 x_th mwo mim mhi mlu mtp x_td mfv x_sz x_at x_fr x_to x_va x_fk x_fp mfr mwt x_wt x_op x_jo mfg mpl x_dr mtm mfa mqu mmo mwy mwn mma mwi mnu mmv c_wo c_lu w_wo w_lu ln bs tk lw li a1 a2 b_ln b_bs b_tk b_lw (rg_w b_a2 (by decide) (by decide)) (hw0) (hw1) (hw2) (hw3) (hw4) (hwz)) (cwV 2 hts gX10_whose__X10_nextOf_V325 rfl rfl rfl (by decide +kernel) ⟨lel 2 3 rfl, lel 45 69 rfl⟩) ⟨pw_fb, va_recv hK hP (ci := 8) (q0 := 0) rfl rfl, (pw_use hP hK hN [0, 1, 2] rfl [0, 1] rfl)⟩ rfl rfl hl.1 rfl (lv_room (Nat.le_of_ble_eq_true rfl)) dX10_whose_15 ⟨lel 0 0 rfl, lel 0 0 rfl⟩) (fun r_11 h_r_11 => ?_)
    obtain ⟨b_r_11, pr_r_11⟩ := h_r_11
    have b_r_11 : (-1 : Int) ≤ r_11.toInt ∧ r_11.toInt ≤ 19999 := b_r_11
    refine lv_istore_n (lv' := [(3, .int r_11), (0, .ref o0), (1, .int a1), (2, .int a2)]) hx hb dX10_whose_18 rfl hl (by decide) rfl (fun ls hl => ?_)
    refine lv_iload_n hx hb dX10_whose_19 rfl (lv_at hl 0 rfl) ?_
    refine lv_iconst (v := (-1)) hx hb dX10_whose_20 (by decide) ?_
    refine lv_icmp_ne (tgt := 28) hx hb dX10_whose_21 (by decide) (fun c_12 => ?_) (fun c_12 => ?_)
    ·
      have n_c_12 : (r_11.toInt : Int) ≠ (-1) := c_ne rfl (by decide) c_12
      have b_r_11 : (0 : Int) ≤ r_11.toInt ∧ r_11.toInt ≤ 19999 := r_ne1 b_r_11 (by decide : (-1 : Int) ≤ ((-1) : Int32).toInt ∧ ((-1) : Int32).toInt ≤ -1) n_c_12 (by decide)
      refine lv_iload_n hx hb dX10_whose_28 rfl (lv_at hl 0 rfl) ?_
      refine lv_iload_n hx hb dX10_whose_29 rfl (lv_at hl 3 rfl) ?_
      refine lv_isub hx hb dX10_whose_30 ?_
      refine lv_topi (fun z_13 e_z_13 => ?_)
      obtain ⟨q_z_13, b_z_13⟩ := ti_sub (lo := -19999) (hi := 19999) e_z_13 rfl rfl b_r_11 b_a2 (by decide)
      refine lv_iconst (v := 2) hx hb dX10_whose_31 (by decide) ?_
      refine lv_irem hx hb dX10_whose_32 (by decide) ?_
      refine lv_topi (fun z_14 e_z_14 => ?_)
      exact W.iret (v := z_14) hx hb hr (fun t ht hW => ⟨z_14, rfl, trivial, ht⟩) t_nil dX10_whose_33
    ·
      have n_c_12 : (r_11.toInt : Int) = (-1) := c_eq rfl (by decide) c_12
      have b_r_11 : (-1 : Int) ≤ r_11.toInt ∧ r_11.toInt ≤ -1 := r_eq1 b_r_11 (by decide : (-1 : Int) ≤ ((-1) : Int32).toInt ∧ ((-1) : Int32).toInt ≤ -1) n_c_12 (by decide)
      refine lv_iconst (v := (-1)) hx hb dX10_whose_24 (by decide) ?_
      refine lv_goto (tgt := 33) hx hb dX10_whose_25 (by decide) ?_
      exact W.iret (v := (-1)) hx hb hr (fun t ht hW => ⟨(-1), rfl, trivial, ht⟩) t_nil dX10_whose_33
  ·
    have n_c_9 : (r_8.toInt : Int) = 0 := c_eq rfl (by decide) c_9
    have b_r_8 : (0 : Int) ≤ r_8.toInt ∧ r_8.toInt ≤ 0 := r_eq1 b_r_8 (by decide : (0 : Int) ≤ (0 : Int32).toInt ∧ (0 : Int32).toInt ≤ 0) n_c_9 (by decide)
    refine lv_bipush (v := (-2)) hx hb dX10_whose_9 (by decide) ?_
    exact W.iret (v := (-2)) hx hb hr (fun t ht hW => ⟨(-2), rfl, trivial, ht⟩) t_nil dX10_whose_11
theorem dX10_isSet_0 : decode cX10_isSet 0 = .ok (.aload_n 0, 1) := by decide +kernel
theorem dX10_isSet_1 : decode cX10_isSet 1 = .ok (.invokevirtual 355, 3) := by decide +kernel
theorem dX10_isSet_4 : decode cX10_isSet 4 = .ok (.ifCond .eq 27, 3) := by decide +kernel
theorem dX10_isSet_7 : decode cX10_isSet 7 = .ok (.iload_n 1, 1) := by decide +kernel
theorem dX10_isSet_8 : decode cX10_isSet 8 = .ok (.i2l, 1) := by decide +kernel
theorem dX10_isSet_9 : decode cX10_isSet 9 = .ok (.lconst 0, 1) := by decide +kernel
theorem dX10_isSet_10 : decode cX10_isSet 10 = .ok (.iconst 1, 1) := by decide +kernel
theorem dX10_isSet_11 : decode cX10_isSet 11 = .ok (.aload_n 0, 1) := by decide +kernel
theorem dX10_isSet_12 : decode cX10_isSet 12 = .ok (.getfield 9, 3) := by decide +kernel
theorem dX10_isSet_15 : decode cX10_isSet 15 = .ok (.iconst 3, 1) := by decide +kernel
theorem dX10_isSet_16 : decode cX10_isSet 16 = .ok (.iaload, 1) := by decide +kernel
theorem dX10_isSet_17 : decode cX10_isSet 17 = .ok (.ishl, 1) := by decide +kernel
theorem dX10_isSet_18 : decode cX10_isSet 18 = .ok (.iconst 1, 1) := by decide +kernel
theorem dX10_isSet_19 : decode cX10_isSet 19 = .ok (.isub, 1) := by decide +kernel
theorem dX10_isSet_20 : decode cX10_isSet 20 = .ok (.i2l, 1) := by decide +kernel
theorem dX10_isSet_21 : decode cX10_isSet 21 = .ok (.invokestatic 82, 3) := by decide +kernel
theorem dX10_isSet_24 : decode cX10_isSet 24 = .ok (.ifCond .eq 7, 3) := by decide +kernel
theorem dX10_isSet_27 : decode cX10_isSet 27 = .ok (.iconst 1, 1) := by decide +kernel
theorem dX10_isSet_28 : decode cX10_isSet 28 = .ok (.goto 4, 3) := by decide +kernel
theorem dX10_isSet_31 : decode cX10_isSet 31 = .ok (.iconst 0, 1) := by decide +kernel
theorem dX10_isSet_32 : decode cX10_isSet 32 = .ok (.ireturn, 1) := by decide +kernel
def uX10_isSet : List Cond := .code yX10_isSet cX10_isSet 2 (some .boolean) :: ([.methodLink RX10 355 yX10_isRoll, .instanceMethod yX10_isRoll, .selects RX10 yX10_isRoll yX10_isRoll, .initialized RX10, .code yX10_isRoll cX10_isRoll 1 (some .boolean), .fieldLink RX10 9 "LuckyTicketModel" "world" "[I", .methodLink RX10 82 yX10_in, .static yX10_in, .code yX10_in cX10_in 6 (some .boolean)] ++ wsX100)
theorem iX10_isSet_X10 : ∀ w ∈ wsX100, w ∈ uX10_isSet := fun _ h => List.mem_cons_of_mem _ (List.mem_append_right _ h)
set_option maxRecDepth 20000 in
theorem gX10_isSet__X10_isRoll_V355 : GoodIn uX10_isSet (wsV RX10 355 RX10 yX10_isRoll uX10_isRoll) := goodIn_p _ [5] rfl (by decide +kernel)
set_option maxRecDepth 20000 in
theorem gX10_isSet__X10_in_S82 : GoodIn uX10_isSet (va_wsS RX10 82 yX10_in uX10_in) := goodIn_p _ [9] rfl (by decide +kernel)
set_option maxHeartbeats 4000000 in
set_option maxRecDepth 100000 in
theorem kX10_isSet (l : Launch) (dC : Nat → ClassId) (dI : Nat → Nat → Nat) (o0 : Nat) (x_th : Int32) (mwo : Nat) (mim : Nat) (mhi : Nat) (mlu : Nat) (mtp : Nat) (x_td : Int32) (mfv : Nat) (x_sz : Int32) (x_at : Int32) (x_fr : Int32) (x_to : Int32) (x_va : Int32) (x_fk : Int32) (x_fp : Int32) (mfr : Nat) (mwt : Nat) (x_wt : Int32) (x_op : Int32) (x_jo : Int32) (mfg : Nat) (mpl : Nat) (x_dr : Int64) (mtm : Nat) (mfa : Nat) (mqu : Nat) (mmo : Nat) (mwy : Nat) (mwn : Nat) (mma : Nat) (mwi : Nat) (mnu : Nat) (mmv : Nat) (c_wo : ClassId) (w_wo : Nat → Int32) (ln : Int32) (bs : Int32) (tk : Int32) (lw : Int32) (li : Int32) (a1 : Int32) (b_ln : (0 : Int) ≤ ln.toInt ∧ ln.toInt ≤ 12) (b_bs : (0 : Int) ≤ bs.toInt ∧ bs.toInt ≤ 16) (b_tk : (0 : Int) ≤ tk.toInt ∧ tk.toInt ≤ 20000) (b_lw : (0 : Int) ≤ lw.toInt ∧ lw.toInt ≤ 9) (hw0 : w_wo 0 = ln) (hw1 : w_wo 1 = bs) (hw2 : w_wo 2 = tk) (hw3 : w_wo 3 = lw) (hw4 : w_wo 4 = li) (hwz : (ln.toInt = 0 ∧ bs.toInt = 0 ∧ tk.toInt = 0 ∧ lw.toInt = 0) ∨ (1 ≤ ln.toInt ∧ 2 ≤ bs.toInt ∧ 1 ≤ tk.toInt)) : Met l yX10_isSet uX10_isSet ({ frames := 1, cells := 0, slots := 0, locals := 25 }) (va_Pc [.ref o0, .int a1] (pw (dC, dI) vwCl [(o0, .inr (8, [.int x_th, .ref mwo, .ref mim, .ref mhi, .ref mlu, .ref mtp, .int x_td, .ref mfv, .int x_sz, .int x_at, .int x_fr, .int x_to, .int x_va, .int x_fk, .int x_fp, .ref mfr, .ref mwt, .int x_wt, .int x_op, .int x_jo, .ref mfg, .ref mpl, .long x_dr, .ref mtm, .ref mfa, .ref mqu, .ref mmo, .ref mwy, .ref mwn, .ref mma, .ref mwi, .ref mnu, .ref mmv])), (mwo, .inl (c_wo, 1875, .inl w_wo))] [(c_wo, .int)])) (vp_Si (fun r => ((0 : Int) ≤ r.toInt ∧ r.toInt ≤ 1))) 0 0 (fun _ => False) := by
  refine Met.ofW (cc := cX10_isSet) (maxL := 2) (ret := (some .boolean)) (by decide) rfl ?_
  intro p e s m args below meth c s₁ B hml hv
  obtain ⟨rfl, hP, hK, hN⟩ := hv
  have hx := B.exec
  have hb := B.bytes
  have hr := B.returns
  have hts := atoms_spec (ws := uX10_isSet) B.pre
  have hown : s.vm.findClass RX10 = some m.cls := findClass_of_methodNamed B.named
  have hlocks := B.notSynchronized
  have hl := lv_entry ([.ref o0, .int a1]) (n := 2) (Nat.le_of_ble_eq_true rfl)
  rw [lg_entry_eq]
  generalize (lg_sl ([.ref o0, .int a1]) ++ List.replicate (2 - (lg_sl ([.ref o0, .int a1])).length) Slot.unset).toArray = ls at hl ⊢
  have hl : lv_has ls 2 [(0, .ref o0), (1, .int a1)] := hl
  refine lv_aload_n hx hb dX10_isSet_0 rfl (lv_at hl 0 rfl) ?_
  refine vp_callSi (W.runV (As := []) (rest := []) ⟨hx, hb, hml, hown, hts⟩ (kX10_isRoll l dC dI o0 x_th mwo mim mhi mlu mtp x_td mfv x_sz x_at x_fr x_to x_va x_fk x_fp mfr mwt x_wt x_op x_jo mfg mpl x_dr mtm mfa mqu mmo mwy mwn mma mwi mnu mmv c_wo w_wo ln bs tk lw li b_ln b_bs b_tk b_lw (hw0) (hw1) (hw2) (hw3) (hw4) (hwz)) (cwV 0 hts gX10_isSet__X10_isRoll_V355 rfl rfl rfl (by decide +kernel) ⟨lel 1 1 rfl, lel 20 25 rfl⟩) ⟨pw_fb, va_recv hK hP (ci := 8) (q0 := 0) rfl rfl, (pw_use hP hK hN [0, 1] rfl [0] rfl)⟩ rfl rfl hl.1 rfl (lv_room (Nat.le_of_ble_eq_true rfl)) dX10_isSet_1 ⟨lel 0 0 rfl, lel 0 0 rfl⟩) (fun r_12 h_r_12 => ?_)
  obtain ⟨b_r_12, nz_r_12⟩ := h_r_12
  have b_r_12 : (0 : Int) ≤ r_12.toInt ∧ r_12.toInt ≤ 1 := b_r_12
  refine lv_if_eq (tgt := 31) hx hb dX10_isSet_4 (by decide) (fun c_13 => ?_) (fun c_13 => ?_)
  ·
    have n_c_13 : (r_12.toInt : Int) = 0 := c_eq rfl (by decide) c_13
    have b_r_12 : (0 : Int) ≤ r_12.toInt ∧ r_12.toInt ≤ 0 := r_eq1 b_r_12 (by decide : (0 : Int) ≤ (0 : Int32).toInt ∧ (0 : Int32).toInt ≤ 0) n_c_13 (by decide)
    refine lv_iconst (v := 0) hx hb dX10_isSet_31 (by decide) ?_
    exact W.zret (v := 0) hx hb hr rfl (fun t ht hW => ⟨0, rfl, (rg_w (by decide : (0 : Int) ≤ (0 : Int32).toInt ∧ (0 : Int32).toInt ≤ 0) (by decide) (by decide)), ht⟩) t_nil dX10_isSet_32
  ·
    have n_c_13 : (r_12.toInt : Int) ≠ 0 := c_ne rfl (by decide) c_13
    have b_r_12 : (1 : Int) ≤ r_12.toInt ∧ r_12.toInt ≤ 1 := r_ne1 b_r_12 (by decide : (0 : Int) ≤ (0 : Int32).toInt ∧ (0 : Int32).toInt ≤ 0) n_c_13 (by decide)
    obtain ⟨b_ln, g_14⟩ := nz_r_12 c_13
    refine lv_iload_n hx hb dX10_isSet_7 rfl (lv_at hl 1 rfl) ?_
    obtain ⟨z_15, e_z_15⟩ : ∃ y : Int64, y = a1.toInt64 := ⟨_, rfl⟩
    refine lv_i2l (v := z_15) hx hb dX10_isSet_8 e_z_15.symm ?_
    obtain ⟨q_z_15, b_z_15⟩ := ti_i2l e_z_15 (ti_rng a1)
    refine lv_lconst (v := 0) hx hb dX10_isSet_9 (by decide) ?_
    refine lv_iconst (v := 1) hx hb dX10_isSet_10 (by decide) ?_
    refine lv_aload_n hx hb dX10_isSet_11 rfl (lv_at hl 0 rfl) ?_
    refine va_get (D := (dC, dI)) (ci := 8) (v := .ref mwo) (C := RX10) (T := TX10) (N := 33) hx hb hts iX10_isSet_X10 hown hK hP 0 rfl rfl 1 (by decide) (hts (.fieldLink RX10 9 "LuckyTicketModel" "world" "[I") (List.mem_of_getElem? (i := 6) rfl)) (fun _ h9 => h9) rfl dX10_isSet_12 ?_
    refine lv_iconst (v := 3) hx hb dX10_isSet_15 (by decide) ?_
    refine va_iald hx hb hK hP 1 0 rfl rfl (vp_in_b (by decide : (3 : Int) ≤ (3 : Int32).toInt ∧ (3 : Int32).toInt ≤ 3) (by decide) (by decide)) dX10_isSet_16 ?_
    refine lv_topi (fun z_16 e_z_16 => ?_)
    obtain rfl : z_16 = lw := e_z_16.trans hw3
    refine lv_ishl hx hb dX10_isSet_17 ?_
    refine lv_topi (fun z_17 e_z_17 => ?_)
    refine lv_iconst (v := 1) hx hb dX10_isSet_18 (by decide) ?_
    refine lv_isub hx hb dX10_isSet_19 ?_
    refine lv_topi (fun z_18 e_z_18 => ?_)
    obtain ⟨z_19, e_z_19⟩ : ∃ y : Int64, y = z_18.toInt64 := ⟨_, rfl⟩
    refine lv_i2l (v := z_19) hx hb dX10_isSet_20 e_z_19.symm ?_
    obtain ⟨q_z_19, b_z_19⟩ := ti_i2l e_z_19 (ti_rng z_18)
    refine vp_callSi (W.runS (As := [.long z_15, .long 0, .long z_19]) (rest := []) ⟨hx, hb, hml, hown, hts⟩ (kX10_in l dC dI z_15 0 z_19 ) (va_cwS 3 hts gX10_isSet__X10_in_S82 rfl rfl rfl (by decide +kernel) ⟨lel 1 1 rfl, lel 25 25 rfl⟩) ⟨pn_fb, pn_use⟩ rfl rfl hl.1 rfl (lv_room (Nat.le_of_ble_eq_true rfl)) dX10_isSet_21 ⟨lel 0 0 rfl, lel 0 0 rfl⟩) (fun r_20 h_r_20 => ?_)
    obtain ⟨b_r_20, nz_r_20⟩ := h_r_20
    have b_r_20 : (0 : Int) ≤ r_20.toInt ∧ r_20.toInt ≤ 1 := b_r_20
    refine lv_if_eq (tgt := 31) hx hb dX10_isSet_24 (by decide) (fun c_21 => ?_) (fun c_21 => ?_)
    ·
      have n_c_21 : (r_20.toInt : Int) = 0 := c_eq rfl (by decide) c_21
      have b_r_20 : (0 : Int) ≤ r_20.toInt ∧ r_20.toInt ≤ 0 := r_eq1 b_r_20 (by decide : (0 : Int) ≤ (0 : Int32).toInt ∧ (0 : Int32).toInt ≤ 0) n_c_21 (by decide)
      refine lv_iconst (v := 0) hx hb dX10_isSet_31 (by decide) ?_
      exact W.zret (v := 0) hx hb hr rfl (fun t ht hW => ⟨0, rfl, (rg_w (by decide : (0 : Int) ≤ (0 : Int32).toInt ∧ (0 : Int32).toInt ≤ 0) (by decide) (by decide)), ht⟩) t_nil dX10_isSet_32
    ·
      have n_c_21 : (r_20.toInt : Int) ≠ 0 := c_ne rfl (by decide) c_21
      have b_r_20 : (1 : Int) ≤ r_20.toInt ∧ r_20.toInt ≤ 1 := r_ne1 b_r_20 (by decide : (0 : Int) ≤ (0 : Int32).toInt ∧ (0 : Int32).toInt ≤ 0) n_c_21 (by decide)
      have g_22 := nz_r_20 c_21
      have lt0_g_22 := (by decide : (0 : Int64).toInt = 0)
      have b_z_15 : (0 : Int) ≤ z_15.toInt ∧ z_15.toInt ≤ 2147483647 := by
        have q0 := b_z_15
        have q1 := (by decide : (0 : Int) ≤ (0 : Int64).toInt ∧ (0 : Int64).toInt ≤ 0)
        have q2 := b_z_19
        omega
      have b_a1 : (0 : Int) ≤ a1.toInt ∧ a1.toInt ≤ 2147483647 := by
        have q0 := b_z_15; have q1 := q_z_15; have q2 := (ti_rng a1); omega
      refine lv_iconst (v := 1) hx hb dX10_isSet_27 (by decide) ?_
      refine lv_goto (tgt := 32) hx hb dX10_isSet_28 (by decide) ?_
      exact W.zret (v := 1) hx hb hr rfl (fun t ht hW => ⟨1, rfl, (rg_w (by decide : (1 : Int) ≤ (1 : Int32).toInt ∧ (1 : Int32).toInt ≤ 1) (by decide) (by decide)), ht⟩) t_nil dX10_isSet_32
theorem dX10_both_0 : decode cX10_both 0 = .ok (.aload_n 0, 1) := by decide +kernel
theorem dX10_both_1 : decode cX10_both 1 = .ok (.iload_n 1, 1) := by decide +kernel
theorem dX10_both_2 : decode cX10_both 2 = .ok (.invokevirtual 358, 3) := by decide +kernel
theorem dX10_both_5 : decode cX10_both 5 = .ok (.ifCond .ne 6, 3) := by decide +kernel
theorem dX10_both_8 : decode cX10_both 8 = .ok (.bipush (-2), 2) := by decide +kernel
theorem dX10_both_10 : decode cX10_both 10 = .ok (.ireturn, 1) := by decide +kernel
theorem dX10_both_11 : decode cX10_both 11 = .ok (.iconst 0, 1) := by decide +kernel
theorem dX10_both_12 : decode cX10_both 12 = .ok (.istore_n 2, 1) := by decide +kernel
theorem dX10_both_13 : decode cX10_both 13 = .ok (.iconst 0, 1) := by decide +kernel
theorem dX10_both_14 : decode cX10_both 14 = .ok (.istore_n 3, 1) := by decide +kernel
theorem dX10_both_15 : decode cX10_both 15 = .ok (.iload_n 3, 1) := by decide +kernel
theorem dX10_both_16 : decode cX10_both 16 = .ok (.aload_n 0, 1) := by decide +kernel
theorem dX10_both_17 : decode cX10_both 17 = .ok (.getfield 9, 3) := by decide +kernel
theorem dX10_both_20 : decode cX10_both 20 = .ok (.iconst 2, 1) := by decide +kernel
theorem dX10_both_21 : decode cX10_both 21 = .ok (.iaload, 1) := by decide +kernel
theorem dX10_both_22 : decode cX10_both 22 = .ok (.if_icmp .ge 29, 3) := by decide +kernel
theorem dX10_both_25 : decode cX10_both 25 = .ok (.iload_n 2, 1) := by decide +kernel
theorem dX10_both_26 : decode cX10_both 26 = .ok (.aload_n 0, 1) := by decide +kernel
theorem dX10_both_27 : decode cX10_both 27 = .ok (.getfield 20, 3) := by decide +kernel
theorem dX10_both_30 : decode cX10_both 30 = .ok (.iload_n 3, 1) := by decide +kernel
theorem dX10_both_31 : decode cX10_both 31 = .ok (.iaload, 1) := by decide +kernel
theorem dX10_both_32 : decode cX10_both 32 = .ok (.iload_n 1, 1) := by decide +kernel
theorem dX10_both_33 : decode cX10_both 33 = .ok (.iand, 1) := by decide +kernel
theorem dX10_both_34 : decode cX10_both 34 = .ok (.iload_n 1, 1) := by decide +kernel
theorem dX10_both_35 : decode cX10_both 35 = .ok (.if_icmp .ne 7, 3) := by decide +kernel
theorem dX10_both_38 : decode cX10_both 38 = .ok (.iconst 1, 1) := by decide +kernel
theorem dX10_both_39 : decode cX10_both 39 = .ok (.goto 4, 3) := by decide +kernel
theorem dX10_both_42 : decode cX10_both 42 = .ok (.iconst 0, 1) := by decide +kernel
theorem dX10_both_43 : decode cX10_both 43 = .ok (.iadd, 1) := by decide +kernel
theorem dX10_both_44 : decode cX10_both 44 = .ok (.istore_n 2, 1) := by decide +kernel
theorem dX10_both_45 : decode cX10_both 45 = .ok (.iinc 3 1, 3) := by decide +kernel
theorem dX10_both_48 : decode cX10_both 48 = .ok (.goto (-33), 3) := by decide +kernel
theorem dX10_both_51 : decode cX10_both 51 = .ok (.iload_n 2, 1) := by decide +kernel
theorem dX10_both_52 : decode cX10_both 52 = .ok (.ireturn, 1) := by decide +kernel
def uX10_both : List Cond := .code yX10_both cX10_both 4 (some .int) :: ([.methodLink RX10 358 yX10_isSet, .instanceMethod yX10_isSet, .selects RX10 yX10_isSet yX10_isSet, .initialized RX10, .code yX10_isSet cX10_isSet 2 (some .boolean), .methodLink RX10 355 yX10_isRoll, .instanceMethod yX10_isRoll, .selects RX10 yX10_isRoll yX10_isRoll, .code yX10_isRoll cX10_isRoll 1 (some .boolean), .fieldLink RX10 9 "LuckyTicketModel" "world" "[I", .methodLink RX10 82 yX10_in, .static yX10_in, .code yX10_in cX10_in 6 (some .boolean), .fieldLink RX10 20 "LuckyTicketModel" "luck" "[I"] ++ wsX100)
theorem iX10_both_X10 : ∀ w ∈ wsX100, w ∈ uX10_both := fun _ h => List.mem_cons_of_mem _ (List.mem_append_right _ h)
set_option maxRecDepth 20000 in
theorem gX10_both__X10_isSet_V358 : GoodIn uX10_both (wsV RX10 358 RX10 yX10_isSet uX10_isSet) := goodIn_p _ [5, 9, 13] rfl (by decide +kernel)
set_option maxHeartbeats 4000000 in
set_option maxRecDepth 100000 in
theorem kX10_both (l : Launch) (dC : Nat → ClassId) (dI : Nat → Nat → Nat) (o0 : Nat) (x_th : Int32) (mwo : Nat) (mim : Nat) (mhi : Nat) (mlu : Nat) (mtp : Nat) (x_td : Int32) (mfv : Nat) (x_sz : Int32) (x_at : Int32) (x_fr : Int32) (x_to : Int32) (x_va : Int32) (x_fk : Int32) (x_fp : Int32) (mfr : Nat) (mwt : Nat) (x_wt : Int32) (x_op : Int32) (x_jo : Int32) (mfg : Nat) (mpl : Nat) (x_dr : Int64) (mtm : Nat) (mfa : Nat) (mqu : Nat) (mmo : Nat) (mwy : Nat) (mwn : Nat) (mma : Nat) (mwi : Nat) (mnu : Nat) (mmv : Nat) (c_wo : ClassId) (c_lu : ClassId) (w_wo : Nat → Int32) (w_lu : Nat → Int32) (ln : Int32) (bs : Int32) (tk : Int32) (lw : Int32) (li : Int32) (a1 : Int32) (b_ln : (0 : Int) ≤ ln.toInt ∧ ln.toInt ≤ 12) (b_bs : (0 : Int) ≤ bs.toInt ∧ bs.toInt ≤ 16) (b_tk : (0 : Int) ≤ tk.toInt ∧ tk.toInt ≤ 20000) (b_lw : (0 : Int) ≤ lw.toInt ∧ lw.toInt ≤ 9) (hw0 : w_wo 0 = ln) (hw1 : w_wo 1 = bs) (hw2 : w_wo 2 = tk) (hw3 : w_wo 3 = lw) (hw4 : w_wo 4 = li) (hwz : (ln.toInt = 0 ∧ bs.toInt = 0 ∧ tk.toInt = 0 ∧ lw.toInt = 0) ∨ (1 ≤ ln.toInt ∧ 2 ≤ bs.toInt ∧ 1 ≤ tk.toInt)) : Met l yX10_both uX10_both ({ frames := 2, cells := 0, slots := 0, locals := 46 }) (va_Pc [.ref o0, .int a1] (pw (dC, dI) vwCl [(o0, .inr (8, [.int x_th, .ref mwo, .ref mim, .ref mhi, .ref mlu, .ref mtp, .int x_td, .ref mfv, .int x_sz, .int x_at, .int x_fr, .int x_to, .int x_va, .int x_fk, .int x_fp, .ref mfr, .ref mwt, .int x_wt, .int x_op, .int x_jo, .ref mfg, .ref mpl, .long x_dr, .ref mtm, .ref mfa, .ref mqu, .ref mmo, .ref mwy, .ref mwn, .ref mma, .ref mwi, .ref mnu, .ref mmv])), (mwo, .inl (c_wo, 1875, .inl w_wo)), (mlu, .inl (c_lu, 20000, .inl w_lu))] [(c_wo, .int), (c_lu, .int)])) (vp_Si (fun r => True)) 0 0 (fun _ => False) := by
  refine Met.ofW (cc := cX10_both) (maxL := 4) (ret := (some .int)) (by decide) rfl ?_
  intro p e s m args below meth c s₁ B hml hv
  obtain ⟨rfl, hP, hK, hN⟩ := hv
  have hx := B.exec
  have hb := B.bytes
  have hr := B.returns
  have hts := atoms_spec (ws := uX10_both) B.pre
  have hown : s.vm.findClass RX10 = some m.cls := findClass_of_methodNamed B.named
  have hlocks := B.notSynchronized
  have hl := lv_entry ([.ref o0, .int a1]) (n := 4) (Nat.le_of_ble_eq_true rfl)
  rw [lg_entry_eq]
  generalize (lg_sl ([.ref o0, .int a1]) ++ List.replicate (4 - (lg_sl ([.ref o0, .int a1])).length) Slot.unset).toArray = ls at hl ⊢
  have hl : lv_has ls 4 [(0, .ref o0), (1, .int a1)] := hl
  refine lv_aload_n hx hb dX10_both_0 rfl (lv_at hl 0 rfl) ?_
  refine lv_iload_n hx hb dX10_both_1 rfl (lv_at hl 1 rfl) ?_
  refine vp_callSi (W.runV (As := [.int a1]) (rest := []) ⟨hx, hb, hml, hown, hts⟩ (kX10_isSet l dC dI o0 x_th mwo mim mhi mlu mtp x_td mfv x_sz x_at x_fr x_to x_va x_fk x_fp mfr mwt x_wt x_op x_jo mfg mpl x_dr mtm mfa mqu mmo mwy mwn mma mwi mnu mmv c_wo w_wo ln bs tk lw li a1 b_ln b_bs b_tk b_lw (hw0) (hw1) (hw2) (hw3) (hw4) (hwz)) (cwV 1 hts gX10_both__X10_isSet_V358 rfl rfl rfl (by decide +kernel) ⟨lel 2 2 rfl, lel 46 46 rfl⟩) ⟨pw_fb, va_recv hK hP (ci := 8) (q0 := 0) rfl rfl, (pw_use hP hK hN [0, 1] rfl [0] rfl)⟩ rfl rfl hl.1 rfl (lv_room (Nat.le_of_ble_eq_true rfl)) dX10_both_2 ⟨lel 0 0 rfl, lel 0 0 rfl⟩) (fun r_141 h_r_141 => ?_)
  have b_r_141 := h_r_141
  have b_r_141 : (0 : Int) ≤ r_141.toInt ∧ r_141.toInt ≤ 1 := b_r_141
  refine lv_if_ne (tgt := 11) hx hb dX10_both_5 (by decide) (fun c_142 => ?_) (fun c_142 => ?_)
  ·
    have n_c_142 : (r_141.toInt : Int) ≠ 0 := c_ne rfl (by decide) c_142
    have b_r_141 : (1 : Int) ≤ r_141.toInt ∧ r_141.toInt ≤ 1 := r_ne1 b_r_141 (by decide : (0 : Int) ≤ (0 : Int32).toInt ∧ (0 : Int32).toInt ≤ 0) n_c_142 (by decide)
    refine lv_iconst (v := 0) hx hb dX10_both_11 (by decide) ?_
    refine lv_istore_n (lv' := [(2, .int 0), (0, .ref o0), (1, .int a1)]) hx hb dX10_both_12 rfl hl (by decide) rfl (fun ls hl => ?_)
    refine lv_iconst (v := 0) hx hb dX10_both_13 (by decide) ?_
    refine lv_istore_n (lv' := [(3, .int 0), (2, .int 0), (0, .ref o0), (1, .int a1)]) hx hb dX10_both_14 rfl hl (by decide) rfl (fun ls hl => ?_)
    refine loopP (σ := Int32 × Int32) (fun v => (20000 - v.1.toInt).toNat) (fun v ls => ((0 : Int) ≤ v.1.toInt ∧ v.1.toInt ≤ 20000) ∧ lv_has ls 4 [(3, .int v.1), (2, .int v.2), (0, .ref o0), (1, .int a1)]) (fun v ls hI ih_15_272 => ?_) ((0 : Int32), (0 : Int32)) ⟨(show (0 : Int) ≤ (0 : Int32).toInt ∧ (0 : Int32).toInt ≤ 20000 from (rg_w (by decide : (0 : Int) ≤ (0 : Int32).toInt ∧ (0 : Int32).toInt ≤ 0) (by decide) (by decide))), lv_sub hl [0, 1, 2, 3] rfl⟩
    obtain ⟨y_151, y_152⟩ := v
    obtain ⟨b_y_151, hl⟩ := hI
    have b_y_151 : (0 : Int) ≤ y_151.toInt ∧ y_151.toInt ≤ 20000 := b_y_151
    have hl : lv_has ls 4 [(3, .int y_151), (2, .int y_152), (0, .ref o0), (1, .int a1)] := hl
    refine lv_iload_n hx hb dX10_both_15 rfl (lv_at hl 0 rfl) ?_
    refine lv_aload_n hx hb dX10_both_16 rfl (lv_at hl 2 rfl) ?_
    refine va_get (D := (dC, dI)) (ci := 8) (v := .ref mwo) (C := RX10) (T := TX10) (N := 33) hx hb hts iX10_both_X10 hown hK hP 0 rfl rfl 1 (by decide) (hts (.fieldLink RX10 9 "LuckyTicketModel" "world" "[I") (List.mem_of_getElem? (i := 10) rfl)) (fun _ h9 => h9) rfl dX10_both_17 ?_
    refine lv_iconst (v := 2) hx hb dX10_both_20 (by decide) ?_
    refine va_iald hx hb hK hP 1 0 rfl rfl (vp_in_b (by decide : (2 : Int) ≤ (2 : Int32).toInt ∧ (2 : Int32).toInt ≤ 2) (by decide) (by decide)) dX10_both_21 ?_
    refine lv_topi (fun z_273 e_z_273 => ?_)
    obtain rfl : z_273 = tk := e_z_273.trans hw2
    refine lv_icmp_ge (tgt := 51) hx hb dX10_both_22 (by decide) (fun c_274 => ?_) (fun c_274 => ?_)
    ·
      have n_c_274 : (tk.toInt : Int) ≤ y_151.toInt := c_ge rfl rfl c_274
      refine lv_iload_n hx hb dX10_both_51 rfl (lv_at hl 1 rfl) ?_
      exact W.iret (v := y_152) hx hb hr (fun t ht hW => ⟨y_152, rfl, trivial, ht⟩) t_nil dX10_both_52
    ·
      have n_c_274 : (y_151.toInt : Int) < tk.toInt := c_nge rfl rfl c_274
      have b_y_151 : (0 : Int) ≤ y_151.toInt ∧ y_151.toInt ≤ 19999 := r_lt1 b_y_151 b_tk n_c_274 (by decide)
      have b_tk : (1 : Int) ≤ tk.toInt ∧ tk.toInt ≤ 20000 := r_lt2 b_y_151 b_tk n_c_274 (by decide)
      refine lv_iload_n hx hb dX10_both_25 rfl (lv_at hl 1 rfl) ?_
      refine lv_aload_n hx hb dX10_both_26 rfl (lv_at hl 2 rfl) ?_
      refine va_get (D := (dC, dI)) (ci := 8) (v := .ref mlu) (C := RX10) (T := TX10) (N := 33) hx hb hts iX10_both_X10 hown hK hP 0 rfl rfl 4 (by decide) (hts (.fieldLink RX10 20 "LuckyTicketModel" "luck" "[I") (List.mem_of_getElem? (i := 14) rfl)) (fun _ h9 => h9) rfl dX10_both_27 ?_
      refine lv_iload_n hx hb dX10_both_30 rfl (lv_at hl 0 rfl) ?_
      refine va_iald hx hb hK hP 2 1 rfl rfl (vp_in_b b_y_151 (by decide) (by decide)) dX10_both_31 ?_
      refine lv_topi (fun z_275 e_z_275 => ?_)
      refine lv_iload_n hx hb dX10_both_32 rfl (lv_at hl 3 rfl) ?_
      refine lv_iand hx hb dX10_both_33 ?_
      refine lv_topi (fun z_276 e_z_276 => ?_)
      refine lv_iload_n hx hb dX10_both_34 rfl (lv_at hl 3 rfl) ?_
      refine cutP (σ := Int32) (pc2 := 43) (st2 := fun v => [.int v, .int y_152]) (cells2 := 0) (slots2 := 0) (fun v ls => ((0 : Int) ≤ v.toInt ∧ v.toInt ≤ 1) ∧ lv_has ls 4 [(3, .int y_151), (2, .int y_152), (0, .ref o0), (1, .int a1)]) (fun v ls hI => ?_) (fun hj_43_278 => ?_)
      ·
        obtain ⟨y_278, rfl⟩ : ∃ z, z = v := ⟨_, rfl⟩
        obtain ⟨b_y_278, hl⟩ := hI
        have b_y_278 : (0 : Int) ≤ y_278.toInt ∧ y_278.toInt ≤ 1 := b_y_278
        have hl : lv_has ls 4 [(3, .int y_151), (2, .int y_152), (0, .ref o0), (1, .int a1)] := hl
        refine lv_iadd hx hb dX10_both_43 ?_
        refine lv_topi (fun z_279 e_z_279 => ?_)
        refine lv_istore_n (lv' := [(2, .int z_279), (3, .int y_151), (0, .ref o0), (1, .int a1)]) hx hb dX10_both_44 rfl hl (by decide) rfl (fun ls hl => ?_)
        obtain ⟨z_280, e_z_280⟩ : ∃ y : Int32, y = y_151 + 1 := ⟨_, rfl⟩
        refine lv_iinc (v := z_280) (lv' := [(3, .int z_280), (2, .int z_279), (0, .ref o0), (1, .int a1)]) hx hb dX10_both_45 hl (k := 1) rfl (by rw [e_z_280]; rfl) (by decide) rfl (fun ls hl => ?_)
        obtain ⟨q_z_280, b_z_280⟩ := ti_add (lo := 1) (hi := 20000) e_z_280 rfl (by decide : (1 : Int32).toInt = 1) b_y_151 (by decide : (1 : Int) ≤ (1 : Int32).toInt ∧ (1 : Int32).toInt ≤ 1) (by decide)
        refine lv_goto (tgt := 15) hx hb dX10_both_48 (by decide) ?_
        exact ih_15_272 (z_280, z_279) _ ⟨(show (0 : Int) ≤ z_280.toInt ∧ z_280.toInt ≤ 20000 from (rg_w b_z_280 (by decide) (by decide))), lv_sub hl [0, 1, 2, 3] rfl⟩ (show (20000 - z_280.toInt).toNat < (20000 - y_151.toInt).toNat by omega)
      ·
        refine lv_icmp_ne (tgt := 42) hx hb dX10_both_35 (by decide) (fun c_277 => ?_) (fun c_277 => ?_)
        ·
          have n_c_277 : (z_276.toInt : Int) ≠ a1.toInt := c_ne rfl rfl c_277
          refine lv_iconst (v := 0) hx hb dX10_both_42 (by decide) ?_
          exact hj_43_278 (0 : Int32) _ ⟨(show (0 : Int) ≤ (0 : Int32).toInt ∧ (0 : Int32).toInt ≤ 1 from (rg_w (by decide : (0 : Int) ≤ (0 : Int32).toInt ∧ (0 : Int32).toInt ≤ 0) (by decide) (by decide))), lv_sub hl [0, 1, 2, 3] rfl⟩
        ·
          have n_c_277 : (z_276.toInt : Int) = a1.toInt := c_eq rfl rfl c_277
          refine lv_iconst (v := 1) hx hb dX10_both_38 (by decide) ?_
          refine lv_goto (tgt := 43) hx hb dX10_both_39 (by decide) ?_
          exact hj_43_278 (1 : Int32) _ ⟨(show (0 : Int) ≤ (1 : Int32).toInt ∧ (1 : Int32).toInt ≤ 1 from (rg_w (by decide : (1 : Int) ≤ (1 : Int32).toInt ∧ (1 : Int32).toInt ≤ 1) (by decide) (by decide))), lv_sub hl [0, 1, 2, 3] rfl⟩
  ·
    have n_c_142 : (r_141.toInt : Int) = 0 := c_eq rfl (by decide) c_142
    have b_r_141 : (0 : Int) ≤ r_141.toInt ∧ r_141.toInt ≤ 0 := r_eq1 b_r_141 (by decide : (0 : Int) ≤ (0 : Int32).toInt ∧ (0 : Int32).toInt ≤ 0) n_c_142 (by decide)
    refine lv_bipush (v := (-2)) hx hb dX10_both_8 (by decide) ?_
    exact W.iret (v := (-2)) hx hb hr (fun t ht hW => ⟨(-2), rfl, trivial, ht⟩) t_nil dX10_both_10
theorem dX10_just_0 : decode cX10_just 0 = .ok (.aload_n 0, 1) := by decide +kernel
theorem dX10_just_1 : decode cX10_just 1 = .ok (.iload_n 1, 1) := by decide +kernel
theorem dX10_just_2 : decode cX10_just 2 = .ok (.invokevirtual 358, 3) := by decide +kernel
theorem dX10_just_5 : decode cX10_just 5 = .ok (.ifCond .ne 6, 3) := by decide +kernel
theorem dX10_just_8 : decode cX10_just 8 = .ok (.bipush (-2), 2) := by decide +kernel
theorem dX10_just_10 : decode cX10_just 10 = .ok (.ireturn, 1) := by decide +kernel
theorem dX10_just_11 : decode cX10_just 11 = .ok (.iconst 0, 1) := by decide +kernel
theorem dX10_just_12 : decode cX10_just 12 = .ok (.istore_n 2, 1) := by decide +kernel
theorem dX10_just_13 : decode cX10_just 13 = .ok (.iconst 0, 1) := by decide +kernel
theorem dX10_just_14 : decode cX10_just 14 = .ok (.istore_n 3, 1) := by decide +kernel
theorem dX10_just_15 : decode cX10_just 15 = .ok (.iload_n 3, 1) := by decide +kernel
theorem dX10_just_16 : decode cX10_just 16 = .ok (.aload_n 0, 1) := by decide +kernel
theorem dX10_just_17 : decode cX10_just 17 = .ok (.getfield 9, 3) := by decide +kernel
theorem dX10_just_20 : decode cX10_just 20 = .ok (.iconst 2, 1) := by decide +kernel
theorem dX10_just_21 : decode cX10_just 21 = .ok (.iaload, 1) := by decide +kernel
theorem dX10_just_22 : decode cX10_just 22 = .ok (.if_icmp .ge 27, 3) := by decide +kernel
theorem dX10_just_25 : decode cX10_just 25 = .ok (.iload_n 2, 1) := by decide +kernel
theorem dX10_just_26 : decode cX10_just 26 = .ok (.aload_n 0, 1) := by decide +kernel
theorem dX10_just_27 : decode cX10_just 27 = .ok (.getfield 20, 3) := by decide +kernel
theorem dX10_just_30 : decode cX10_just 30 = .ok (.iload_n 3, 1) := by decide +kernel
theorem dX10_just_31 : decode cX10_just 31 = .ok (.iaload, 1) := by decide +kernel
theorem dX10_just_32 : decode cX10_just 32 = .ok (.iload_n 1, 1) := by decide +kernel
theorem dX10_just_33 : decode cX10_just 33 = .ok (.if_icmp .ne 7, 3) := by decide +kernel
theorem dX10_just_36 : decode cX10_just 36 = .ok (.iconst 1, 1) := by decide +kernel
theorem dX10_just_37 : decode cX10_just 37 = .ok (.goto 4, 3) := by decide +kernel
theorem dX10_just_40 : decode cX10_just 40 = .ok (.iconst 0, 1) := by decide +kernel
theorem dX10_just_41 : decode cX10_just 41 = .ok (.iadd, 1) := by decide +kernel
theorem dX10_just_42 : decode cX10_just 42 = .ok (.istore_n 2, 1) := by decide +kernel
theorem dX10_just_43 : decode cX10_just 43 = .ok (.iinc 3 1, 3) := by decide +kernel
theorem dX10_just_46 : decode cX10_just 46 = .ok (.goto (-31), 3) := by decide +kernel
theorem dX10_just_49 : decode cX10_just 49 = .ok (.iload_n 2, 1) := by decide +kernel
theorem dX10_just_50 : decode cX10_just 50 = .ok (.ireturn, 1) := by decide +kernel
def uX10_just : List Cond := .code yX10_just cX10_just 4 (some .int) :: ([.methodLink RX10 358 yX10_isSet, .instanceMethod yX10_isSet, .selects RX10 yX10_isSet yX10_isSet, .initialized RX10, .code yX10_isSet cX10_isSet 2 (some .boolean), .methodLink RX10 355 yX10_isRoll, .instanceMethod yX10_isRoll, .selects RX10 yX10_isRoll yX10_isRoll, .code yX10_isRoll cX10_isRoll 1 (some .boolean), .fieldLink RX10 9 "LuckyTicketModel" "world" "[I", .methodLink RX10 82 yX10_in, .static yX10_in, .code yX10_in cX10_in 6 (some .boolean), .fieldLink RX10 20 "LuckyTicketModel" "luck" "[I"] ++ wsX100)
theorem iX10_just_X10 : ∀ w ∈ wsX100, w ∈ uX10_just := fun _ h => List.mem_cons_of_mem _ (List.mem_append_right _ h)
set_option maxRecDepth 20000 in
theorem gX10_just__X10_isSet_V358 : GoodIn uX10_just (wsV RX10 358 RX10 yX10_isSet uX10_isSet) := goodIn_p _ [5, 9, 13] rfl (by decide +kernel)
set_option maxHeartbeats 4000000 in
set_option maxRecDepth 100000 in
theorem kX10_just (l : Launch) (dC : Nat → ClassId) (dI : Nat → Nat → Nat) (o0 : Nat) (x_th : Int32) (mwo : Nat) (mim : Nat) (mhi : Nat) (mlu : Nat) (mtp : Nat) (x_td : Int32) (mfv : Nat) (x_sz : Int32) (x_at : Int32) (x_fr : Int32) (x_to : Int32) (x_va : Int32) (x_fk : Int32) (x_fp : Int32) (mfr : Nat) (mwt : Nat) (x_wt : Int32) (x_op : Int32) (x_jo : Int32) (mfg : Nat) (mpl : Nat) (x_dr : Int64) (mtm : Nat) (mfa : Nat) (mqu : Nat) (mmo : Nat) (mwy : Nat) (mwn : Nat) (mma : Nat) (mwi : Nat) (mnu : Nat) (mmv : Nat) (c_wo : ClassId) (c_lu : ClassId) (w_wo : Nat → Int32) (w_lu : Nat → Int32) (ln : Int32) (bs : Int32) (tk : Int32) (lw : Int32) (li : Int32) (a1 : Int32) (b_ln : (0 : Int) ≤ ln.toInt ∧ ln.toInt ≤ 12) (b_bs : (0 : Int) ≤ bs.toInt ∧ bs.toInt ≤ 16) (b_tk : (0 : Int) ≤ tk.toInt ∧ tk.toInt ≤ 20000) (b_lw : (0 : Int) ≤ lw.toInt ∧ lw.toInt ≤ 9) (hw0 : w_wo 0 = ln) (hw1 : w_wo 1 = bs) (hw2 : w_wo 2 = tk) (hw3 : w_wo 3 = lw) (hw4 : w_wo 4 = li) (hwz : (ln.toInt = 0 ∧ bs.toInt = 0 ∧ tk.toInt = 0 ∧ lw.toInt = 0) ∨ (1 ≤ ln.toInt ∧ 2 ≤ bs.toInt ∧ 1 ≤ tk.toInt)) : Met l yX10_just uX10_just ({ frames := 2, cells := 0, slots := 0, locals := 46 }) (va_Pc [.ref o0, .int a1] (pw (dC, dI) vwCl [(o0, .inr (8, [.int x_th, .ref mwo, .ref mim, .ref mhi, .ref mlu, .ref mtp, .int x_td, .ref mfv, .int x_sz, .int x_at, .int x_fr, .int x_to, .int x_va, .int x_fk, .int x_fp, .ref mfr, .ref mwt, .int x_wt, .int x_op, .int x_jo, .ref mfg, .ref mpl, .long x_dr, .ref mtm, .ref mfa, .ref mqu, .ref mmo, .ref mwy, .ref mwn, .ref mma, .ref mwi, .ref mnu, .ref mmv])), (mwo, .inl (c_wo, 1875, .inl w_wo)), (mlu, .inl (c_lu, 20000, .inl w_lu))] [(c_wo, .int), (c_lu, .int)])) (vp_Si (fun r => True)) 0 0 (fun _ => False) := by
  refine Met.ofW (cc := cX10_just) (maxL := 4) (ret := (some .int)) (by decide) rfl ?_
  intro p e s m args below meth c s₁ B hml hv
  obtain ⟨rfl, hP, hK, hN⟩ := hv
  have hx := B.exec
  have hb := B.bytes
  have hr := B.returns
  have hts := atoms_spec (ws := uX10_just) B.pre
  have hown : s.vm.findClass RX10 = some m.cls := findClass_of_methodNamed B.named
  have hlocks := B.notSynchronized
  have hl := lv_entry ([.ref o0, .int a1]) (n := 4) (Nat.le_of_ble_eq_true rfl)
  rw [lg_entry_eq]
  generalize (lg_sl ([.ref o0, .int a1]) ++ List.replicate (4 - (lg_sl ([.ref o0, .int a1])).length) Slot.unset).toArray = ls at hl ⊢
  have hl : lv_has ls 4 [(0, .ref o0), (1, .int a1)] := hl
  refine lv_aload_n hx hb dX10_just_0 rfl (lv_at hl 0 rfl) ?_
  refine lv_iload_n hx hb dX10_just_1 rfl (lv_at hl 1 rfl) ?_
  refine vp_callSi (W.runV (As := [.int a1]) (rest := []) ⟨hx, hb, hml, hown, hts⟩ (kX10_isSet l dC dI o0 x_th mwo mim mhi mlu mtp x_td mfv x_sz x_at x_fr x_to x_va x_fk x_fp mfr mwt x_wt x_op x_jo mfg mpl x_dr mtm mfa mqu mmo mwy mwn mma mwi mnu mmv c_wo w_wo ln bs tk lw li a1 b_ln b_bs b_tk b_lw (hw0) (hw1) (hw2) (hw3) (hw4) (hwz)) (cwV 1 hts gX10_just__X10_isSet_V358 rfl rfl rfl (by decide +kernel) ⟨lel 2 2 rfl, lel 46 46 rfl⟩) ⟨pw_fb, va_recv hK hP (ci := 8) (q0 := 0) rfl rfl, (pw_use hP hK hN [0, 1] rfl [0] rfl)⟩ rfl rfl hl.1 rfl (lv_room (Nat.le_of_ble_eq_true rfl)) dX10_just_2 ⟨lel 0 0 rfl, lel 0 0 rfl⟩) (fun r_124 h_r_124 => ?_)
  have b_r_124 := h_r_124
  have b_r_124 : (0 : Int) ≤ r_124.toInt ∧ r_124.toInt ≤ 1 := b_r_124
  refine lv_if_ne (tgt := 11) hx hb dX10_just_5 (by decide) (fun c_125 => ?_) (fun c_125 => ?_)
  ·
    have n_c_125 : (r_124.toInt : Int) ≠ 0 := c_ne rfl (by decide) c_125
    have b_r_124 : (1 : Int) ≤ r_124.toInt ∧ r_124.toInt ≤ 1 := r_ne1 b_r_124 (by decide : (0 : Int) ≤ (0 : Int32).toInt ∧ (0 : Int32).toInt ≤ 0) n_c_125 (by decide)
    refine lv_iconst (v := 0) hx hb dX10_just_11 (by decide) ?_
    refine lv_istore_n (lv' := [(2, .int 0), (0, .ref o0), (1, .int a1)]) hx hb dX10_just_12 rfl hl (by decide) rfl (fun ls hl => ?_)
    refine lv_iconst (v := 0) hx hb dX10_just_13 (by decide) ?_
    refine lv_istore_n (lv' := [(3, .int 0), (2, .int 0), (0, .ref o0), (1, .int a1)]) hx hb dX10_just_14 rfl hl (by decide) rfl (fun ls hl => ?_)
    refine loopP (σ := Int32 × Int32) (fun v => (20000 - v.1.toInt).toNat) (fun v ls => ((0 : Int) ≤ v.1.toInt ∧ v.1.toInt ≤ 20000) ∧ lv_has ls 4 [(3, .int v.1), (2, .int v.2), (0, .ref o0), (1, .int a1)]) (fun v ls hI ih_15_239 => ?_) ((0 : Int32), (0 : Int32)) ⟨(show (0 : Int) ≤ (0 : Int32).toInt ∧ (0 : Int32).toInt ≤ 20000 from (rg_w (by decide : (0 : Int) ≤ (0 : Int32).toInt ∧ (0 : Int32).toInt ≤ 0) (by decide) (by decide))), lv_sub hl [0, 1, 2, 3] rfl⟩
    obtain ⟨y_133, y_134⟩ := v
    obtain ⟨b_y_133, hl⟩ := hI
    have b_y_133 : (0 : Int) ≤ y_133.toInt ∧ y_133.toInt ≤ 20000 := b_y_133
    have hl : lv_has ls 4 [(3, .int y_133), (2, .int y_134), (0, .ref o0), (1, .int a1)] := hl
    refine lv_iload_n hx hb dX10_just_15 rfl (lv_at hl 0 rfl) ?_
    refine lv_aload_n hx hb dX10_just_16 rfl (lv_at hl 2 rfl) ?_
    refine va_get (D := (dC, dI)) (ci := 8) (v := .ref mwo) (C := RX10) (T := TX10) (N := 33) hx hb hts iX10_just_X10 hown hK hP 0 rfl rfl 1 (by decide) (hts (.fieldLink RX10 9 "LuckyTicketModel" "world" "[I") (List.mem_of_getElem? (i := 10) rfl)) (fun _ h9 => h9) rfl dX10_just_17 ?_
    refine lv_iconst (v := 2) hx hb dX10_just_20 (by decide) ?_
    refine va_iald hx hb hK hP 1 0 rfl rfl (vp_in_b (by decide : (2 : Int) ≤ (2 : Int32).toInt ∧ (2 : Int32).toInt ≤ 2) (by decide) (by decide)) dX10_just_21 ?_
    refine lv_topi (fun z_240 e_z_240 => ?_)
    obtain rfl : z_240 = tk := e_z_240.trans hw2
    refine lv_icmp_ge (tgt := 49) hx hb dX10_just_22 (by decide) (fun c_241 => ?_) (fun c_241 => ?_)
    ·
      have n_c_241 : (tk.toInt : Int) ≤ y_133.toInt := c_ge rfl rfl c_241
      refine lv_iload_n hx hb dX10_just_49 rfl (lv_at hl 1 rfl) ?_
      exact W.iret (v := y_134) hx hb hr (fun t ht hW => ⟨y_134, rfl, trivial, ht⟩) t_nil dX10_just_50
    ·
      have n_c_241 : (y_133.toInt : Int) < tk.toInt := c_nge rfl rfl c_241
      have b_y_133 : (0 : Int) ≤ y_133.toInt ∧ y_133.toInt ≤ 19999 := r_lt1 b_y_133 b_tk n_c_241 (by decide)
      have b_tk : (1 : Int) ≤ tk.toInt ∧ tk.toInt ≤ 20000 := r_lt2 b_y_133 b_tk n_c_241 (by decide)
      refine lv_iload_n hx hb dX10_just_25 rfl (lv_at hl 1 rfl) ?_
      refine lv_aload_n hx hb dX10_just_26 rfl (lv_at hl 2 rfl) ?_
      refine va_get (D := (dC, dI)) (ci := 8) (v := .ref mlu) (C := RX10) (T := TX10) (N := 33) hx hb hts iX10_just_X10 hown hK hP 0 rfl rfl 4 (by decide) (hts (.fieldLink RX10 20 "LuckyTicketModel" "luck" "[I") (List.mem_of_getElem? (i := 14) rfl)) (fun _ h9 => h9) rfl dX10_just_27 ?_
      refine lv_iload_n hx hb dX10_just_30 rfl (lv_at hl 0 rfl) ?_
      refine va_iald hx hb hK hP 2 1 rfl rfl (vp_in_b b_y_133 (by decide) (by decide)) dX10_just_31 ?_
      refine lv_topi (fun z_242 e_z_242 => ?_)
      refine lv_iload_n hx hb dX10_just_32 rfl (lv_at hl 3 rfl) ?_
      refine cutP (σ := Int32) (pc2 := 41) (st2 := fun v => [.int v, .int y_134]) (cells2 := 0) (slots2 := 0) (fun v ls => ((0 : Int) ≤ v.toInt ∧ v.toInt ≤ 1) ∧ lv_has ls 4 [(3, .int y_133), (2, .int y_134), (0, .ref o0), (1, .int a1)]) (fun v ls hI => ?_) (fun hj_41_244 => ?_)
      ·
        obtain ⟨y_244, rfl⟩ : ∃ z, z = v := ⟨_, rfl⟩
        obtain ⟨b_y_244, hl⟩ := hI
        have b_y_244 : (0 : Int) ≤ y_244.toInt ∧ y_244.toInt ≤ 1 := b_y_244
        have hl : lv_has ls 4 [(3, .int y_133), (2, .int y_134), (0, .ref o0), (1, .int a1)] := hl
        refine lv_iadd hx hb dX10_just_41 ?_
        refine lv_topi (fun z_245 e_z_245 => ?_)
        refine lv_istore_n (lv' := [(2, .int z_245), (3, .int y_133), (0, .ref o0), (1, .int a1)]) hx hb dX10_just_42 rfl hl (by decide) rfl (fun ls hl => ?_)
        obtain ⟨z_246, e_z_246⟩ : ∃ y : Int32, y = y_133 + 1 := ⟨_, rfl⟩
        refine lv_iinc (v := z_246) (lv' := [(3, .int z_246), (2, .int z_245), (0, .ref o0), (1, .int a1)]) hx hb dX10_just_43 hl (k := 1) rfl (by rw [e_z_246]; rfl) (by decide) rfl (fun ls hl => ?_)
        obtain ⟨q_z_246, b_z_246⟩ := ti_add (lo := 1) (hi := 20000) e_z_246 rfl (by decide : (1 : Int32).toInt = 1) b_y_133 (by decide : (1 : Int) ≤ (1 : Int32).toInt ∧ (1 : Int32).toInt ≤ 1) (by decide)
        refine lv_goto (tgt := 15) hx hb dX10_just_46 (by decide) ?_
        exact ih_15_239 (z_246, z_245) _ ⟨(show (0 : Int) ≤ z_246.toInt ∧ z_246.toInt ≤ 20000 from (rg_w b_z_246 (by decide) (by decide))), lv_sub hl [0, 1, 2, 3] rfl⟩ (show (20000 - z_246.toInt).toNat < (20000 - y_133.toInt).toNat by omega)
      ·
        refine lv_icmp_ne (tgt := 40) hx hb dX10_just_33 (by decide) (fun c_243 => ?_) (fun c_243 => ?_)
        ·
          have n_c_243 : (z_242.toInt : Int) ≠ a1.toInt := c_ne rfl rfl c_243
          refine lv_iconst (v := 0) hx hb dX10_just_40 (by decide) ?_
          exact hj_41_244 (0 : Int32) _ ⟨(show (0 : Int) ≤ (0 : Int32).toInt ∧ (0 : Int32).toInt ≤ 1 from (rg_w (by decide : (0 : Int) ≤ (0 : Int32).toInt ∧ (0 : Int32).toInt ≤ 0) (by decide) (by decide))), lv_sub hl [0, 1, 2, 3] rfl⟩
        ·
          have n_c_243 : (z_242.toInt : Int) = a1.toInt := c_eq rfl rfl c_243
          refine lv_iconst (v := 1) hx hb dX10_just_36 (by decide) ?_
          refine lv_goto (tgt := 41) hx hb dX10_just_37 (by decide) ?_
          exact hj_41_244 (1 : Int32) _ ⟨(show (0 : Int) ≤ (1 : Int32).toInt ∧ (1 : Int32).toInt ≤ 1 from (rg_w (by decide : (1 : Int) ≤ (1 : Int32).toInt ∧ (1 : Int32).toInt ≤ 1) (by decide) (by decide))), lv_sub hl [0, 1, 2, 3] rfl⟩
  ·
    have n_c_125 : (r_124.toInt : Int) = 0 := c_eq rfl (by decide) c_125
    have b_r_124 : (0 : Int) ≤ r_124.toInt ∧ r_124.toInt ≤ 0 := r_eq1 b_r_124 (by decide : (0 : Int) ≤ (0 : Int32).toInt ∧ (0 : Int32).toInt ≤ 0) n_c_125 (by decide)
    refine lv_bipush (v := (-2)) hx hb dX10_just_8 (by decide) ?_
    exact W.iret (v := (-2)) hx hb hr (fun t ht hW => ⟨(-2), rfl, trivial, ht⟩) t_nil dX10_just_10
theorem dX10_so_0 : decode cX10_so 0 = .ok (.aload_n 0, 1) := by decide +kernel
theorem dX10_so_1 : decode cX10_so 1 = .ok (.invokevirtual 355, 3) := by decide +kernel
theorem dX10_so_4 : decode cX10_so 4 = .ok (.ifCond .eq 15, 3) := by decide +kernel
theorem dX10_so_7 : decode cX10_so 7 = .ok (.iload_n 1, 1) := by decide +kernel
theorem dX10_so_8 : decode cX10_so 8 = .ok (.i2l, 1) := by decide +kernel
theorem dX10_so_9 : decode cX10_so 9 = .ok (.lconst 0, 1) := by decide +kernel
theorem dX10_so_10 : decode cX10_so 10 = .ok (.ldc2_w 361, 3) := by decide +kernel
theorem dX10_so_13 : decode cX10_so 13 = .ok (.invokestatic 82, 3) := by decide +kernel
theorem dX10_so_16 : decode cX10_so 16 = .ok (.ifCond .ne 6, 3) := by decide +kernel
theorem dX10_so_19 : decode cX10_so 19 = .ok (.bipush (-2), 2) := by decide +kernel
theorem dX10_so_21 : decode cX10_so 21 = .ok (.ireturn, 1) := by decide +kernel
theorem dX10_so_22 : decode cX10_so 22 = .ok (.iconst 0, 1) := by decide +kernel
theorem dX10_so_23 : decode cX10_so 23 = .ok (.istore_n 2, 1) := by decide +kernel
theorem dX10_so_24 : decode cX10_so 24 = .ok (.iconst 0, 1) := by decide +kernel
theorem dX10_so_25 : decode cX10_so 25 = .ok (.istore_n 3, 1) := by decide +kernel
theorem dX10_so_26 : decode cX10_so 26 = .ok (.iload_n 3, 1) := by decide +kernel
theorem dX10_so_27 : decode cX10_so 27 = .ok (.aload_n 0, 1) := by decide +kernel
theorem dX10_so_28 : decode cX10_so 28 = .ok (.getfield 9, 3) := by decide +kernel
theorem dX10_so_31 : decode cX10_so 31 = .ok (.iconst 2, 1) := by decide +kernel
theorem dX10_so_32 : decode cX10_so 32 = .ok (.iaload, 1) := by decide +kernel
theorem dX10_so_33 : decode cX10_so 33 = .ok (.if_icmp .ge 30, 3) := by decide +kernel
theorem dX10_so_36 : decode cX10_so 36 = .ok (.iload_n 2, 1) := by decide +kernel
theorem dX10_so_37 : decode cX10_so 37 = .ok (.aload_n 0, 1) := by decide +kernel
theorem dX10_so_38 : decode cX10_so 38 = .ok (.getfield 20, 3) := by decide +kernel
theorem dX10_so_41 : decode cX10_so 41 = .ok (.iload_n 3, 1) := by decide +kernel
theorem dX10_so_42 : decode cX10_so 42 = .ok (.iaload, 1) := by decide +kernel
theorem dX10_so_43 : decode cX10_so 43 = .ok (.invokestatic 363, 3) := by decide +kernel
theorem dX10_so_46 : decode cX10_so 46 = .ok (.iload_n 1, 1) := by decide +kernel
theorem dX10_so_47 : decode cX10_so 47 = .ok (.if_icmp .ne 7, 3) := by decide +kernel
theorem dX10_so_50 : decode cX10_so 50 = .ok (.iconst 1, 1) := by decide +kernel
theorem dX10_so_51 : decode cX10_so 51 = .ok (.goto 4, 3) := by decide +kernel
theorem dX10_so_54 : decode cX10_so 54 = .ok (.iconst 0, 1) := by decide +kernel
theorem dX10_so_55 : decode cX10_so 55 = .ok (.iadd, 1) := by decide +kernel
theorem dX10_so_56 : decode cX10_so 56 = .ok (.istore_n 2, 1) := by decide +kernel
theorem dX10_so_57 : decode cX10_so 57 = .ok (.iinc 3 1, 3) := by decide +kernel
theorem dX10_so_60 : decode cX10_so 60 = .ok (.goto (-34), 3) := by decide +kernel
theorem dX10_so_63 : decode cX10_so 63 = .ok (.iload_n 2, 1) := by decide +kernel
theorem dX10_so_64 : decode cX10_so 64 = .ok (.ireturn, 1) := by decide +kernel
def uX10_so : List Cond := .code yX10_so cX10_so 4 (some .int) :: ([.methodLink RX10 355 yX10_isRoll, .instanceMethod yX10_isRoll, .selects RX10 yX10_isRoll yX10_isRoll, .initialized RX10, .code yX10_isRoll cX10_isRoll 1 (some .boolean), .fieldLink RX10 9 "LuckyTicketModel" "world" "[I", .constantLong RX10 361 (9), .methodLink RX10 82 yX10_in, .static yX10_in, .code yX10_in cX10_in 6 (some .boolean), .fieldLink RX10 20 "LuckyTicketModel" "luck" "[I", .methodLink RX10 363 yX10_bits, .static yX10_bits, .code yX10_bits cX10_bits 3 (some .int)] ++ wsX100)
theorem iX10_so_X10 : ∀ w ∈ wsX100, w ∈ uX10_so := fun _ h => List.mem_cons_of_mem _ (List.mem_append_right _ h)
set_option maxRecDepth 20000 in
theorem gX10_so__X10_isRoll_V355 : GoodIn uX10_so (wsV RX10 355 RX10 yX10_isRoll uX10_isRoll) := goodIn_p _ [5] rfl (by decide +kernel)
set_option maxRecDepth 20000 in
theorem gX10_so__X10_in_S82 : GoodIn uX10_so (va_wsS RX10 82 yX10_in uX10_in) := goodIn_p _ [10] rfl (by decide +kernel)
set_option maxRecDepth 20000 in
theorem gX10_so__X10_bits_S363 : GoodIn uX10_so (va_wsS RX10 363 yX10_bits uX10_bits) := goodIn_p _ [14] rfl (by decide +kernel)
set_option maxHeartbeats 4000000 in
set_option maxRecDepth 100000 in
theorem kX10_so (l : Launch) (dC : Nat → ClassId) (dI : Nat → Nat → Nat) (o0 : Nat) (x_th : Int32) (mwo : Nat) (mim : Nat) (mhi : Nat) (mlu : Nat) (mtp : Nat) (x_td : Int32) (mfv : Nat) (x_sz : Int32) (x_at : Int32) (x_fr : Int32) (x_to : Int32) (x_va : Int32) (x_fk : Int32) (x_fp : Int32) (mfr : Nat) (mwt : Nat) (x_wt : Int32) (x_op : Int32) (x_jo : Int32) (mfg : Nat) (mpl : Nat) (x_dr : Int64) (mtm : Nat) (mfa : Nat) (mqu : Nat) (mmo : Nat) (mwy : Nat) (mwn : Nat) (mma : Nat) (mwi : Nat) (mnu : Nat) (mmv : Nat) (c_wo : ClassId) (c_lu : ClassId) (w_wo : Nat → Int32) (w_lu : Nat → Int32) (ln : Int32) (bs : Int32) (tk : Int32) (lw : Int32) (li : Int32) (a1 : Int32) (b_ln : (0 : Int) ≤ ln.toInt ∧ ln.toInt ≤ 12) (b_bs : (0 : Int) ≤ bs.toInt ∧ bs.toInt ≤ 16) (b_tk : (0 : Int) ≤ tk.toInt ∧ tk.toInt ≤ 20000) (b_lw : (0 : Int) ≤ lw.toInt ∧ lw.toInt ≤ 9) (hw0 : w_wo 0 = ln) (hw1 : w_wo 1 = bs) (hw2 : w_wo 2 = tk) (hw3 : w_wo 3 = lw) (hw4 : w_wo 4 = li) (hwz : (ln.toInt = 0 ∧ bs.toInt = 0 ∧ tk.toInt = 0 ∧ lw.toInt = 0) ∨ (1 ≤ ln.toInt ∧ 2 ≤ bs.toInt ∧ 1 ≤ tk.toInt)) : Met l yX10_so uX10_so ({ frames := 1, cells := 0, slots := 0, locals := 25 }) (va_Pc [.ref o0, .int a1] (pw (dC, dI) vwCl [(o0, .inr (8, [.int x_th, .ref mwo, .ref mim, .ref mhi, .ref mlu, .ref mtp, .int x_td, .ref mfv, .int x_sz, .int x_at, .int x_fr, .int x_to, .int x_va, .int x_fk, .int x_fp, .ref mfr, .ref mwt, .int x_wt, .int x_op, .int x_jo, .ref mfg, .ref mpl, .long x_dr, .ref mtm, .ref mfa, .ref mqu, .ref mmo, .ref mwy, .ref mwn, .ref mma, .ref mwi, .ref mnu, .ref mmv])), (mwo, .inl (c_wo, 1875, .inl w_wo)), (mlu, .inl (c_lu, 20000, .inl w_lu))] [(c_wo, .int), (c_lu, .int)])) (vp_Si (fun r => True)) 0 0 (fun _ => False) := by
  refine Met.ofW (cc := cX10_so) (maxL := 4) (ret := (some .int)) (by decide) rfl ?_
  intro p e s m args below meth c s₁ B hml hv
  obtain ⟨rfl, hP, hK, hN⟩ := hv
  have hx := B.exec
  have hb := B.bytes
  have hr := B.returns
  have hts := atoms_spec (ws := uX10_so) B.pre
  have hown : s.vm.findClass RX10 = some m.cls := findClass_of_methodNamed B.named
  have hlocks := B.notSynchronized
  have hl := lv_entry ([.ref o0, .int a1]) (n := 4) (Nat.le_of_ble_eq_true rfl)
  rw [lg_entry_eq]
  generalize (lg_sl ([.ref o0, .int a1]) ++ List.replicate (4 - (lg_sl ([.ref o0, .int a1])).length) Slot.unset).toArray = ls at hl ⊢
  have hl : lv_has ls 4 [(0, .ref o0), (1, .int a1)] := hl
  refine lv_aload_n hx hb dX10_so_0 rfl (lv_at hl 0 rfl) ?_
  refine vp_callSi (W.runV (As := []) (rest := []) ⟨hx, hb, hml, hown, hts⟩ (kX10_isRoll l dC dI o0 x_th mwo mim mhi mlu mtp x_td mfv x_sz x_at x_fr x_to x_va x_fk x_fp mfr mwt x_wt x_op x_jo mfg mpl x_dr mtm mfa mqu mmo mwy mwn mma mwi mnu mmv c_wo w_wo ln bs tk lw li b_ln b_bs b_tk b_lw (hw0) (hw1) (hw2) (hw3) (hw4) (hwz)) (cwV 0 hts gX10_so__X10_isRoll_V355 rfl rfl rfl (by decide +kernel) ⟨lel 1 1 rfl, lel 20 25 rfl⟩) ⟨pw_fb, va_recv hK hP (ci := 8) (q0 := 0) rfl rfl, (pw_use hP hK hN [0, 1] rfl [0] rfl)⟩ rfl rfl hl.1 rfl (lv_room (Nat.le_of_ble_eq_true rfl)) dX10_so_1 ⟨lel 0 0 rfl, lel 0 0 rfl⟩) (fun r_146 h_r_146 => ?_)
  obtain ⟨b_r_146, nz_r_146⟩ := h_r_146
  have b_r_146 : (0 : Int) ≤ r_146.toInt ∧ r_146.toInt ≤ 1 := b_r_146
  refine lv_if_eq (tgt := 19) hx hb dX10_so_4 (by decide) (fun c_147 => ?_) (fun c_147 => ?_)
  ·
    have n_c_147 : (r_146.toInt : Int) = 0 := c_eq rfl (by decide) c_147
    have b_r_146 : (0 : Int) ≤ r_146.toInt ∧ r_146.toInt ≤ 0 := r_eq1 b_r_146 (by decide : (0 : Int) ≤ (0 : Int32).toInt ∧ (0 : Int32).toInt ≤ 0) n_c_147 (by decide)
    refine lv_bipush (v := (-2)) hx hb dX10_so_19 (by decide) ?_
    exact W.iret (v := (-2)) hx hb hr (fun t ht hW => ⟨(-2), rfl, trivial, ht⟩) t_nil dX10_so_21
  ·
    have n_c_147 : (r_146.toInt : Int) ≠ 0 := c_ne rfl (by decide) c_147
    have b_r_146 : (1 : Int) ≤ r_146.toInt ∧ r_146.toInt ≤ 1 := r_ne1 b_r_146 (by decide : (0 : Int) ≤ (0 : Int32).toInt ∧ (0 : Int32).toInt ≤ 0) n_c_147 (by decide)
    obtain ⟨b_ln, g_148⟩ := nz_r_146 c_147
    refine lv_iload_n hx hb dX10_so_7 rfl (lv_at hl 1 rfl) ?_
    obtain ⟨z_149, e_z_149⟩ : ∃ y : Int64, y = a1.toInt64 := ⟨_, rfl⟩
    refine lv_i2l (v := z_149) hx hb dX10_so_8 e_z_149.symm ?_
    obtain ⟨q_z_149, b_z_149⟩ := ti_i2l e_z_149 (ti_rng a1)
    refine lv_lconst (v := 0) hx hb dX10_so_9 (by decide) ?_
    refine lv_ldc2 (v := 9) hx hb hown (hts (.constantLong RX10 361 (9)) (List.mem_of_getElem? (i := 7) rfl)) dX10_so_10 ?_
    refine vp_callSi (W.runS (As := [.long z_149, .long 0, .long 9]) (rest := []) ⟨hx, hb, hml, hown, hts⟩ (kX10_in l dC dI z_149 0 9 ) (va_cwS 3 hts gX10_so__X10_in_S82 rfl rfl rfl (by decide +kernel) ⟨lel 1 1 rfl, lel 25 25 rfl⟩) ⟨pn_fb, pn_use⟩ rfl rfl hl.1 rfl (lv_room (Nat.le_of_ble_eq_true rfl)) dX10_so_13 ⟨lel 0 0 rfl, lel 0 0 rfl⟩) (fun r_150 h_r_150 => ?_)
    obtain ⟨b_r_150, nz_r_150⟩ := h_r_150
    have b_r_150 : (0 : Int) ≤ r_150.toInt ∧ r_150.toInt ≤ 1 := b_r_150
    refine lv_if_ne (tgt := 22) hx hb dX10_so_16 (by decide) (fun c_151 => ?_) (fun c_151 => ?_)
    ·
      have n_c_151 : (r_150.toInt : Int) ≠ 0 := c_ne rfl (by decide) c_151
      have b_r_150 : (1 : Int) ≤ r_150.toInt ∧ r_150.toInt ≤ 1 := r_ne1 b_r_150 (by decide : (0 : Int) ≤ (0 : Int32).toInt ∧ (0 : Int32).toInt ≤ 0) n_c_151 (by decide)
      have g_152 := nz_r_150 c_151
      have lt0_g_152 := (by decide : (0 : Int64).toInt = 0)
      have lt1_g_152 := (by decide : (9 : Int64).toInt = 9)
      have b_z_149 : (0 : Int) ≤ z_149.toInt ∧ z_149.toInt ≤ 9 := by
        have q0 := b_z_149
        have q1 := (by decide : (0 : Int) ≤ (0 : Int64).toInt ∧ (0 : Int64).toInt ≤ 0)
        have q2 := (by decide : (9 : Int) ≤ (9 : Int64).toInt ∧ (9 : Int64).toInt ≤ 9)
        omega
      have b_a1 : (0 : Int) ≤ a1.toInt ∧ a1.toInt ≤ 9 := by
        have q0 := b_z_149; have q1 := q_z_149; have q2 := (ti_rng a1); omega
      refine lv_iconst (v := 0) hx hb dX10_so_22 (by decide) ?_
      refine lv_istore_n (lv' := [(2, .int 0), (0, .ref o0), (1, .int a1)]) hx hb dX10_so_23 rfl hl (by decide) rfl (fun ls hl => ?_)
      refine lv_iconst (v := 0) hx hb dX10_so_24 (by decide) ?_
      refine lv_istore_n (lv' := [(3, .int 0), (2, .int 0), (0, .ref o0), (1, .int a1)]) hx hb dX10_so_25 rfl hl (by decide) rfl (fun ls hl => ?_)
      refine loopP (σ := Int32 × Int32) (fun v => (20000 - v.1.toInt).toNat) (fun v ls => ((0 : Int) ≤ v.1.toInt ∧ v.1.toInt ≤ 20000) ∧ lv_has ls 4 [(3, .int v.1), (2, .int v.2), (0, .ref o0), (1, .int a1)]) (fun v ls hI ih_26_282 => ?_) ((0 : Int32), (0 : Int32)) ⟨(show (0 : Int) ≤ (0 : Int32).toInt ∧ (0 : Int32).toInt ≤ 20000 from (rg_w (by decide : (0 : Int) ≤ (0 : Int32).toInt ∧ (0 : Int32).toInt ≤ 0) (by decide) (by decide))), lv_sub hl [0, 1, 2, 3] rfl⟩
      obtain ⟨y_161, y_162⟩ := v
      obtain ⟨b_y_161, hl⟩ := hI
      have b_y_161 : (0 : Int) ≤ y_161.toInt ∧ y_161.toInt ≤ 20000 := b_y_161
      have hl : lv_has ls 4 [(3, .int y_161), (2, .int y_162), (0, .ref o0), (1, .int a1)] := hl
      refine lv_iload_n hx hb dX10_so_26 rfl (lv_at hl 0 rfl) ?_
      refine lv_aload_n hx hb dX10_so_27 rfl (lv_at hl 2 rfl) ?_
      refine va_get (D := (dC, dI)) (ci := 8) (v := .ref mwo) (C := RX10) (T := TX10) (N := 33) hx hb hts iX10_so_X10 hown hK hP 0 rfl rfl 1 (by decide) (hts (.fieldLink RX10 9 "LuckyTicketModel" "world" "[I") (List.mem_of_getElem? (i := 6) rfl)) (fun _ h9 => h9) rfl dX10_so_28 ?_
      refine lv_iconst (v := 2) hx hb dX10_so_31 (by decide) ?_
      refine va_iald hx hb hK hP 1 0 rfl rfl (vp_in_b (by decide : (2 : Int) ≤ (2 : Int32).toInt ∧ (2 : Int32).toInt ≤ 2) (by decide) (by decide)) dX10_so_32 ?_
      refine lv_topi (fun z_283 e_z_283 => ?_)
      obtain rfl : z_283 = tk := e_z_283.trans hw2
      refine lv_icmp_ge (tgt := 63) hx hb dX10_so_33 (by decide) (fun c_284 => ?_) (fun c_284 => ?_)
      ·
        have n_c_284 : (tk.toInt : Int) ≤ y_161.toInt := c_ge rfl rfl c_284
        refine lv_iload_n hx hb dX10_so_63 rfl (lv_at hl 1 rfl) ?_
        exact W.iret (v := y_162) hx hb hr (fun t ht hW => ⟨y_162, rfl, trivial, ht⟩) t_nil dX10_so_64
      ·
        have n_c_284 : (y_161.toInt : Int) < tk.toInt := c_nge rfl rfl c_284
        have b_y_161 : (0 : Int) ≤ y_161.toInt ∧ y_161.toInt ≤ 19999 := r_lt1 b_y_161 b_tk n_c_284 (by decide)
        have b_tk : (1 : Int) ≤ tk.toInt ∧ tk.toInt ≤ 20000 := r_lt2 b_y_161 b_tk n_c_284 (by decide)
        refine lv_iload_n hx hb dX10_so_36 rfl (lv_at hl 1 rfl) ?_
        refine lv_aload_n hx hb dX10_so_37 rfl (lv_at hl 2 rfl) ?_
        refine va_get (D := (dC, dI)) (ci := 8) (v := .ref mlu) (C := RX10) (T := TX10) (N := 33) hx hb hts iX10_so_X10 hown hK hP 0 rfl rfl 4 (by decide) (hts (.fieldLink RX10 20 "LuckyTicketModel" "luck" "[I") (List.mem_of_getElem? (i := 11) rfl)) (fun _ h9 => h9) rfl dX10_so_38 ?_
        refine lv_iload_n hx hb dX10_so_41 rfl (lv_at hl 0 rfl) ?_
        refine va_iald hx hb hK hP 2 1 rfl rfl (vp_in_b b_y_161 (by decide) (by decide)) dX10_so_42 ?_
        refine lv_topi (fun z_285 e_z_285 => ?_)
        refine vp_callSi (W.runS (As := [.int z_285]) (rest := [.int y_162]) ⟨hx, hb, hml, hown, hts⟩ (kX10_bits l dC dI z_285 ) (va_cwS 1 hts gX10_so__X10_bits_S363 rfl rfl rfl (by decide +kernel) ⟨lel 1 1 rfl, lel 22 25 rfl⟩) ⟨pn_fb, pn_use⟩ rfl rfl hl.1 rfl (lv_room (Nat.le_of_ble_eq_true rfl)) dX10_so_43 ⟨lel 0 0 rfl, lel 0 0 rfl⟩) (fun r_286 h_r_286 => ?_)
        refine lv_iload_n hx hb dX10_so_46 rfl (lv_at hl 3 rfl) ?_
        refine cutP (σ := Int32) (pc2 := 55) (st2 := fun v => [.int v, .int y_162]) (cells2 := 0) (slots2 := 0) (fun v ls => ((0 : Int) ≤ v.toInt ∧ v.toInt ≤ 1) ∧ lv_has ls 4 [(3, .int y_161), (2, .int y_162), (0, .ref o0), (1, .int a1)]) (fun v ls hI => ?_) (fun hj_55_288 => ?_)
        ·
          obtain ⟨y_288, rfl⟩ : ∃ z, z = v := ⟨_, rfl⟩
          obtain ⟨b_y_288, hl⟩ := hI
          have b_y_288 : (0 : Int) ≤ y_288.toInt ∧ y_288.toInt ≤ 1 := b_y_288
          have hl : lv_has ls 4 [(3, .int y_161), (2, .int y_162), (0, .ref o0), (1, .int a1)] := hl
          refine lv_iadd hx hb dX10_so_55 ?_
          refine lv_topi (fun z_289 e_z_289 => ?_)
          refine lv_istore_n (lv' := [(2, .int z_289), (3, .int y_161), (0, .ref o0), (1, .int a1)]) hx hb dX10_so_56 rfl hl (by decide) rfl (fun ls hl => ?_)
          obtain ⟨z_290, e_z_290⟩ : ∃ y : Int32, y = y_161 + 1 := ⟨_, rfl⟩
          refine lv_iinc (v := z_290) (lv' := [(3, .int z_290), (2, .int z_289), (0, .ref o0), (1, .int a1)]) hx hb dX10_so_57 hl (k := 1) rfl (by rw [e_z_290]; rfl) (by decide) rfl (fun ls hl => ?_)
          obtain ⟨q_z_290, b_z_290⟩ := ti_add (lo := 1) (hi := 20000) e_z_290 rfl (by decide : (1 : Int32).toInt = 1) b_y_161 (by decide : (1 : Int) ≤ (1 : Int32).toInt ∧ (1 : Int32).toInt ≤ 1) (by decide)
          refine lv_goto (tgt := 26) hx hb dX10_so_60 (by decide) ?_
          exact ih_26_282 (z_290, z_289) _ ⟨(show (0 : Int) ≤ z_290.toInt ∧ z_290.toInt ≤ 20000 from (rg_w b_z_290 (by decide) (by decide))), lv_sub hl [0, 1, 2, 3] rfl⟩ (show (20000 - z_290.toInt).toNat < (20000 - y_161.toInt).toNat by omega)
        ·
          refine lv_icmp_ne (tgt := 54) hx hb dX10_so_47 (by decide) (fun c_287 => ?_) (fun c_287 => ?_)
          ·
            have n_c_287 : (r_286.toInt : Int) ≠ a1.toInt := c_ne rfl rfl c_287
            refine lv_iconst (v := 0) hx hb dX10_so_54 (by decide) ?_
            exact hj_55_288 (0 : Int32) _ ⟨(show (0 : Int) ≤ (0 : Int32).toInt ∧ (0 : Int32).toInt ≤ 1 from (rg_w (by decide : (0 : Int) ≤ (0 : Int32).toInt ∧ (0 : Int32).toInt ≤ 0) (by decide) (by decide))), lv_sub hl [0, 1, 2, 3] rfl⟩
          ·
            have n_c_287 : (r_286.toInt : Int) = a1.toInt := c_eq rfl rfl c_287
            have b_r_286 : (0 : Int) ≤ r_286.toInt ∧ r_286.toInt ≤ 9 := r_eq1 (ti_rng r_286) b_a1 n_c_287 (by decide)
            refine lv_iconst (v := 1) hx hb dX10_so_50 (by decide) ?_
            refine lv_goto (tgt := 55) hx hb dX10_so_51 (by decide) ?_
            exact hj_55_288 (1 : Int32) _ ⟨(show (0 : Int) ≤ (1 : Int32).toInt ∧ (1 : Int32).toInt ≤ 1 from (rg_w (by decide : (1 : Int) ≤ (1 : Int32).toInt ∧ (1 : Int32).toInt ≤ 1) (by decide) (by decide))), lv_sub hl [0, 1, 2, 3] rfl⟩
    ·
      have n_c_151 : (r_150.toInt : Int) = 0 := c_eq rfl (by decide) c_151
      have b_r_150 : (0 : Int) ≤ r_150.toInt ∧ r_150.toInt ≤ 0 := r_eq1 b_r_150 (by decide : (0 : Int) ≤ (0 : Int32).toInt ∧ (0 : Int32).toInt ≤ 0) n_c_151 (by decide)
      refine lv_bipush (v := (-2)) hx hb dX10_so_19 (by decide) ?_
      exact W.iret (v := (-2)) hx hb hr (fun t ht hW => ⟨(-2), rfl, trivial, ht⟩) t_nil dX10_so_21
theorem dX10_differOf_0 : decode cX10_differOf 0 = .ok (.iconst 0, 1) := by decide +kernel
theorem dX10_differOf_1 : decode cX10_differOf 1 = .ok (.istore_n 3, 1) := by decide +kernel
theorem dX10_differOf_2 : decode cX10_differOf 2 = .ok (.iload_n 3, 1) := by decide +kernel
theorem dX10_differOf_3 : decode cX10_differOf 3 = .ok (.aload_n 0, 1) := by decide +kernel
theorem dX10_differOf_4 : decode cX10_differOf 4 = .ok (.getfield 9, 3) := by decide +kernel
theorem dX10_differOf_7 : decode cX10_differOf 7 = .ok (.iconst 2, 1) := by decide +kernel
theorem dX10_differOf_8 : decode cX10_differOf 8 = .ok (.iaload, 1) := by decide +kernel
theorem dX10_differOf_9 : decode cX10_differOf 9 = .ok (.if_icmp .ge 26, 3) := by decide +kernel
theorem dX10_differOf_12 : decode cX10_differOf 12 = .ok (.aload_n 0, 1) := by decide +kernel
theorem dX10_differOf_13 : decode cX10_differOf 13 = .ok (.iload_n 1, 1) := by decide +kernel
theorem dX10_differOf_14 : decode cX10_differOf 14 = .ok (.iload_n 3, 1) := by decide +kernel
theorem dX10_differOf_15 : decode cX10_differOf 15 = .ok (.invokevirtual 316, 3) := by decide +kernel
theorem dX10_differOf_18 : decode cX10_differOf 18 = .ok (.aload_n 0, 1) := by decide +kernel
theorem dX10_differOf_19 : decode cX10_differOf 19 = .ok (.iload_n 2, 1) := by decide +kernel
theorem dX10_differOf_20 : decode cX10_differOf 20 = .ok (.iload_n 3, 1) := by decide +kernel
theorem dX10_differOf_21 : decode cX10_differOf 21 = .ok (.invokevirtual 316, 3) := by decide +kernel
theorem dX10_differOf_24 : decode cX10_differOf 24 = .ok (.if_icmp .eq 5, 3) := by decide +kernel
theorem dX10_differOf_27 : decode cX10_differOf 27 = .ok (.iload_n 3, 1) := by decide +kernel
theorem dX10_differOf_28 : decode cX10_differOf 28 = .ok (.ireturn, 1) := by decide +kernel
theorem dX10_differOf_29 : decode cX10_differOf 29 = .ok (.iinc 3 1, 3) := by decide +kernel
theorem dX10_differOf_32 : decode cX10_differOf 32 = .ok (.goto (-30), 3) := by decide +kernel
theorem dX10_differOf_35 : decode cX10_differOf 35 = .ok (.iconst (-1), 1) := by decide +kernel
theorem dX10_differOf_36 : decode cX10_differOf 36 = .ok (.ireturn, 1) := by decide +kernel
def uX10_differOf : List Cond := .code yX10_differOf cX10_differOf 4 (some .int) :: ([.fieldLink RX10 9 "LuckyTicketModel" "world" "[I", .methodLink RX10 316 yX10_isLucky, .instanceMethod yX10_isLucky, .selects RX10 yX10_isLucky yX10_isLucky, .initialized RX10, .code yX10_isLucky cX10_isLucky 3 (some .boolean), .fieldLink RX10 20 "LuckyTicketModel" "luck" "[I"] ++ wsX100)
theorem iX10_differOf_X10 : ∀ w ∈ wsX100, w ∈ uX10_differOf := fun _ h => List.mem_cons_of_mem _ (List.mem_append_right _ h)
set_option maxRecDepth 20000 in
theorem gX10_differOf__X10_isLucky_V316 : GoodIn uX10_differOf (wsV RX10 316 RX10 yX10_isLucky uX10_isLucky) := goodIn_p _ [6] rfl (by decide +kernel)
set_option maxHeartbeats 4000000 in
set_option maxRecDepth 100000 in
theorem kX10_differOf (l : Launch) (dC : Nat → ClassId) (dI : Nat → Nat → Nat) (o0 : Nat) (x_th : Int32) (mwo : Nat) (mim : Nat) (mhi : Nat) (mlu : Nat) (mtp : Nat) (x_td : Int32) (mfv : Nat) (x_sz : Int32) (x_at : Int32) (x_fr : Int32) (x_to : Int32) (x_va : Int32) (x_fk : Int32) (x_fp : Int32) (mfr : Nat) (mwt : Nat) (x_wt : Int32) (x_op : Int32) (x_jo : Int32) (mfg : Nat) (mpl : Nat) (x_dr : Int64) (mtm : Nat) (mfa : Nat) (mqu : Nat) (mmo : Nat) (mwy : Nat) (mwn : Nat) (mma : Nat) (mwi : Nat) (mnu : Nat) (mmv : Nat) (c_wo : ClassId) (c_lu : ClassId) (w_wo : Nat → Int32) (w_lu : Nat → Int32) (ln : Int32) (bs : Int32) (tk : Int32) (lw : Int32) (li : Int32) (a1 : Int32) (a2 : Int32) (b_ln : (0 : Int) ≤ ln.toInt ∧ ln.toInt ≤ 12) (b_bs : (0 : Int) ≤ bs.toInt ∧ bs.toInt ≤ 16) (b_tk : (0 : Int) ≤ tk.toInt ∧ tk.toInt ≤ 20000) (b_lw : (0 : Int) ≤ lw.toInt ∧ lw.toInt ≤ 9) (hw0 : w_wo 0 = ln) (hw1 : w_wo 1 = bs) (hw2 : w_wo 2 = tk) (hw3 : w_wo 3 = lw) (hw4 : w_wo 4 = li) (hwz : (ln.toInt = 0 ∧ bs.toInt = 0 ∧ tk.toInt = 0 ∧ lw.toInt = 0) ∨ (1 ≤ ln.toInt ∧ 2 ≤ bs.toInt ∧ 1 ≤ tk.toInt)) : Met l yX10_differOf uX10_differOf ({ frames := 1, cells := 0, slots := 0, locals := 22 }) (va_Pc [.ref o0, .int a1, .int a2] (pw (dC, dI) vwCl [(o0, .inr (8, [.int x_th, .ref mwo, .ref mim, .ref mhi, .ref mlu, .ref mtp, .int x_td, .ref mfv, .int x_sz, .int x_at, .int x_fr, .int x_to, .int x_va, .int x_fk, .int x_fp, .ref mfr, .ref mwt, .int x_wt, .int x_op, .int x_jo, .ref mfg, .ref mpl, .long x_dr, .ref mtm, .ref mfa, .ref mqu, .ref mmo, .ref mwy, .ref mwn, .ref mma, .ref mwi, .ref mnu, .ref mmv])), (mwo, .inl (c_wo, 1875, .inl w_wo)), (mlu, .inl (c_lu, 20000, .inl w_lu))] [(c_wo, .int), (c_lu, .int)])) (vp_Si (fun r => ((-1 : Int) ≤ r.toInt ∧ r.toInt ≤ 19999))) 0 0 (fun _ => False) := by
  refine Met.ofW (cc := cX10_differOf) (maxL := 4) (ret := (some .int)) (by decide) rfl ?_
  intro p e s m args below meth c s₁ B hml hv
  obtain ⟨rfl, hP, hK, hN⟩ := hv
  have hx := B.exec
  have hb := B.bytes
  have hr := B.returns
  have hts := atoms_spec (ws := uX10_differOf) B.pre
  have hown : s.vm.findClass RX10 = some m.cls := findClass_of_methodNamed B.named
  have hlocks := B.notSynchronized
  have hl := lv_entry ([.ref o0, .int a1, .int a2]) (n := 4) (Nat.le_of_ble_eq_true rfl)
  rw [lg_entry_eq]
  generalize (lg_sl ([.ref o0, .int a1, .int a2]) ++ List.replicate (4 - (lg_sl ([.ref o0, .int a1, .int a2])).length) Slot.unset).toArray = ls at hl ⊢
  have hl : lv_has ls 4 [(0, .ref o0), (1, .int a1), (2, .int a2)] := hl
  refine lv_iconst (v := 0) hx hb dX10_differOf_0 (by decide) ?_
  refine lv_istore_n (lv' := [(3, .int 0), (0, .ref o0), (1, .int a1), (2, .int a2)]) hx hb dX10_differOf_1 rfl hl (by decide) rfl (fun ls hl => ?_)
  refine loopP (σ := Int32) (fun v => (20000 - v.toInt).toNat) (fun v ls => ((0 : Int) ≤ v.toInt ∧ v.toInt ≤ 20000) ∧ lv_has ls 4 [(3, .int v), (0, .ref o0), (1, .int a1), (2, .int a2)]) (fun v ls hI ih_2_152 => ?_) (0 : Int32) ⟨(show (0 : Int) ≤ (0 : Int32).toInt ∧ (0 : Int32).toInt ≤ 20000 from (rg_w (by decide : (0 : Int) ≤ (0 : Int32).toInt ∧ (0 : Int32).toInt ≤ 0) (by decide) (by decide))), lv_sub hl [0, 1, 2, 3] rfl⟩
  obtain ⟨y_86, rfl⟩ : ∃ z, z = v := ⟨_, rfl⟩
  obtain ⟨b_y_86, hl⟩ := hI
  have b_y_86 : (0 : Int) ≤ y_86.toInt ∧ y_86.toInt ≤ 20000 := b_y_86
  have hl : lv_has ls 4 [(3, .int y_86), (0, .ref o0), (1, .int a1), (2, .int a2)] := hl
  refine lv_iload_n hx hb dX10_differOf_2 rfl (lv_at hl 0 rfl) ?_
  refine lv_aload_n hx hb dX10_differOf_3 rfl (lv_at hl 1 rfl) ?_
  refine va_get (D := (dC, dI)) (ci := 8) (v := .ref mwo) (C := RX10) (T := TX10) (N := 33) hx hb hts iX10_differOf_X10 hown hK hP 0 rfl rfl 1 (by decide) (hts (.fieldLink RX10 9 "LuckyTicketModel" "world" "[I") (List.mem_of_getElem? (i := 1) rfl)) (fun _ h9 => h9) rfl dX10_differOf_4 ?_
  refine lv_iconst (v := 2) hx hb dX10_differOf_7 (by decide) ?_
  refine va_iald hx hb hK hP 1 0 rfl rfl (vp_in_b (by decide : (2 : Int) ≤ (2 : Int32).toInt ∧ (2 : Int32).toInt ≤ 2) (by decide) (by decide)) dX10_differOf_8 ?_
  refine lv_topi (fun z_153 e_z_153 => ?_)
  obtain rfl : z_153 = tk := e_z_153.trans hw2
  refine lv_icmp_ge (tgt := 35) hx hb dX10_differOf_9 (by decide) (fun c_154 => ?_) (fun c_154 => ?_)
  ·
    have n_c_154 : (tk.toInt : Int) ≤ y_86.toInt := c_ge rfl rfl c_154
    refine lv_iconst (v := (-1)) hx hb dX10_differOf_35 (by decide) ?_
    exact W.iret (v := (-1)) hx hb hr (fun t ht hW => ⟨(-1), rfl, (rg_w (by decide : (-1 : Int) ≤ ((-1) : Int32).toInt ∧ ((-1) : Int32).toInt ≤ -1) (by decide) (by decide)), ht⟩) t_nil dX10_differOf_36
  ·
    have n_c_154 : (y_86.toInt : Int) < tk.toInt := c_nge rfl rfl c_154
    have b_y_86 : (0 : Int) ≤ y_86.toInt ∧ y_86.toInt ≤ 19999 := r_lt1 b_y_86 b_tk n_c_154 (by decide)
    have b_tk : (1 : Int) ≤ tk.toInt ∧ tk.toInt ≤ 20000 := r_lt2 b_y_86 b_tk n_c_154 (by decide)
    refine lv_aload_n hx hb dX10_differOf_12 rfl (lv_at hl 1 rfl) ?_
    refine lv_iload_n hx hb dX10_differOf_13 rfl (lv_at hl 2 rfl) ?_
    refine lv_iload_n hx hb dX10_differOf_14 rfl (lv_at hl 0 rfl) ?_
    refine vp_callSi (W.runV (As := [.int a1, .int y_86]) (rest := []) ⟨hx, hb, hml, hown, hts⟩ (kX10_isLucky l dC dI o0 x_th mwo mim mhi mlu mtp x_td mfv x_sz x_at x_fr x_to x_va x_fk x_fp mfr mwt x_wt x_op x_jo mfg mpl x_dr mtm mfa mqu mmo mwy mwn mma mwi mnu mmv c_wo c_lu w_wo w_lu ln bs tk lw li a1 y_86 b_ln b_bs (rg_w b_tk (by decide) (by decide)) b_lw b_y_86 (hw0) (hw1) (hw2) (hw3) (hw4) (hwz)) (cwV 2 hts gX10_differOf__X10_isLucky_V316 rfl rfl rfl (by decide +kernel) ⟨lel 1 1 rfl, lel 22 22 rfl⟩) ⟨pw_fb, va_recv hK hP (ci := 8) (q0 := 0) rfl rfl, (pw_use hP hK hN [0, 1, 2] rfl [0, 1] rfl)⟩ rfl rfl hl.1 rfl (lv_room (Nat.le_of_ble_eq_true rfl)) dX10_differOf_15 ⟨lel 0 0 rfl, lel 0 0 rfl⟩) (fun r_155 h_r_155 => ?_)
    have b_r_155 := h_r_155
    have b_r_155 : (0 : Int) ≤ r_155.toInt ∧ r_155.toInt ≤ 1 := b_r_155
    refine lv_aload_n hx hb dX10_differOf_18 rfl (lv_at hl 1 rfl) ?_
    refine lv_iload_n hx hb dX10_differOf_19 rfl (lv_at hl 3 rfl) ?_
    refine lv_iload_n hx hb dX10_differOf_20 rfl (lv_at hl 0 rfl) ?_
    refine vp_callSi (W.runV (As := [.int a2, .int y_86]) (rest := [.int r_155]) ⟨hx, hb, hml, hown, hts⟩ (kX10_isLucky l dC dI o0 x_th mwo mim mhi mlu mtp x_td mfv x_sz x_at x_fr x_to x_va x_fk x_fp mfr mwt x_wt x_op x_jo mfg mpl x_dr mtm mfa mqu mmo mwy mwn mma mwi mnu mmv c_wo c_lu w_wo w_lu ln bs tk lw li a2 y_86 b_ln b_bs (rg_w b_tk (by decide) (by decide)) b_lw b_y_86 (hw0) (hw1) (hw2) (hw3) (hw4) (hwz)) (cwV 2 hts gX10_differOf__X10_isLucky_V316 rfl rfl rfl (by decide +kernel) ⟨lel 1 1 rfl, lel 22 22 rfl⟩) ⟨pw_fb, va_recv hK hP (ci := 8) (q0 := 0) rfl rfl, (pw_use hP hK hN [0, 1, 2] rfl [0, 1] rfl)⟩ rfl rfl hl.1 rfl (lv_room (Nat.le_of_ble_eq_true rfl)) dX10_differOf_21 ⟨lel 0 0 rfl, lel 0 0 rfl⟩) (fun r_156 h_r_156 => ?_)
    have b_r_156 := h_r_156
    have b_r_156 : (0 : Int) ≤ r_156.toInt ∧ r_156.toInt ≤ 1 := b_r_156
    refine lv_icmp_eq (tgt := 29) hx hb dX10_differOf_24 (by decide) (fun c_157 => ?_) (fun c_157 => ?_)
    ·
      have n_c_157 : (r_155.toInt : Int) = r_156.toInt := c_eq rfl rfl c_157
      obtain ⟨z_158, e_z_158⟩ : ∃ y : Int32, y = y_86 + 1 := ⟨_, rfl⟩
      refine lv_iinc (v := z_158) (lv' := [(3, .int z_158), (0, .ref o0), (1, .int a1), (2, .int a2)]) hx hb dX10_differOf_29 hl (k := 0) rfl (by rw [e_z_158]; rfl) (by decide) rfl (fun ls hl => ?_)
      obtain ⟨q_z_158, b_z_158⟩ := ti_add (lo := 1) (hi := 20000) e_z_158 rfl (by decide : (1 : Int32).toInt = 1) b_y_86 (by decide : (1 : Int) ≤ (1 : Int32).toInt ∧ (1 : Int32).toInt ≤ 1) (by decide)
      refine lv_goto (tgt := 2) hx hb dX10_differOf_32 (by decide) ?_
      exact ih_2_152 z_158 _ ⟨(show (0 : Int) ≤ z_158.toInt ∧ z_158.toInt ≤ 20000 from (rg_w b_z_158 (by decide) (by decide))), lv_sub hl [0, 1, 2, 3] rfl⟩ (show (20000 - z_158.toInt).toNat < (20000 - y_86.toInt).toNat by omega)
    ·
      have n_c_157 : (r_155.toInt : Int) ≠ r_156.toInt := c_ne rfl rfl c_157
      refine lv_iload_n hx hb dX10_differOf_27 rfl (lv_at hl 0 rfl) ?_
      exact W.iret (v := y_86) hx hb hr (fun t ht hW => ⟨y_86, rfl, (rg_w b_y_86 (by decide) (by decide)), ht⟩) t_nil dX10_differOf_28
theorem dX10_alike_0 : decode cX10_alike 0 = .ok (.aload_n 0, 1) := by decide +kernel
theorem dX10_alike_1 : decode cX10_alike 1 = .ok (.iload_n 1, 1) := by decide +kernel
theorem dX10_alike_2 : decode cX10_alike 2 = .ok (.invokevirtual 89, 3) := by decide +kernel
theorem dX10_alike_5 : decode cX10_alike 5 = .ok (.ifCond .eq 29, 3) := by decide +kernel
theorem dX10_alike_8 : decode cX10_alike 8 = .ok (.aload_n 0, 1) := by decide +kernel
theorem dX10_alike_9 : decode cX10_alike 9 = .ok (.iload_n 2, 1) := by decide +kernel
theorem dX10_alike_10 : decode cX10_alike 10 = .ok (.invokevirtual 89, 3) := by decide +kernel
theorem dX10_alike_13 : decode cX10_alike 13 = .ok (.ifCond .eq 21, 3) := by decide +kernel
theorem dX10_alike_16 : decode cX10_alike 16 = .ok (.aload_n 0, 1) := by decide +kernel
theorem dX10_alike_17 : decode cX10_alike 17 = .ok (.iload_n 1, 1) := by decide +kernel
theorem dX10_alike_18 : decode cX10_alike 18 = .ok (.iload_n 2, 1) := by decide +kernel
theorem dX10_alike_19 : decode cX10_alike 19 = .ok (.invokevirtual 366, 3) := by decide +kernel
theorem dX10_alike_22 : decode cX10_alike 22 = .ok (.iconst (-1), 1) := by decide +kernel
theorem dX10_alike_23 : decode cX10_alike 23 = .ok (.if_icmp .ne 7, 3) := by decide +kernel
theorem dX10_alike_26 : decode cX10_alike 26 = .ok (.iconst 1, 1) := by decide +kernel
theorem dX10_alike_27 : decode cX10_alike 27 = .ok (.goto 9, 3) := by decide +kernel
theorem dX10_alike_30 : decode cX10_alike 30 = .ok (.iconst 0, 1) := by decide +kernel
theorem dX10_alike_31 : decode cX10_alike 31 = .ok (.goto 5, 3) := by decide +kernel
theorem dX10_alike_34 : decode cX10_alike 34 = .ok (.bipush (-2), 2) := by decide +kernel
theorem dX10_alike_36 : decode cX10_alike 36 = .ok (.ireturn, 1) := by decide +kernel
def uX10_alike : List Cond := .code yX10_alike cX10_alike 3 (some .int) :: ([.methodLink RX10 89 yX10_isLaw, .instanceMethod yX10_isLaw, .selects RX10 yX10_isLaw yX10_isLaw, .initialized RX10, .code yX10_isLaw cX10_isLaw 2 (some .boolean), .fieldLink RX10 9 "LuckyTicketModel" "world" "[I", .methodLink RX10 82 yX10_in, .static yX10_in, .code yX10_in cX10_in 6 (some .boolean), .methodLink RX10 366 yX10_differOf, .instanceMethod yX10_differOf, .selects RX10 yX10_differOf yX10_differOf, .code yX10_differOf cX10_differOf 4 (some .int), .methodLink RX10 316 yX10_isLucky, .instanceMethod yX10_isLucky, .selects RX10 yX10_isLucky yX10_isLucky, .code yX10_isLucky cX10_isLucky 3 (some .boolean), .fieldLink RX10 20 "LuckyTicketModel" "luck" "[I"] ++ wsX100)
theorem iX10_alike_X10 : ∀ w ∈ wsX100, w ∈ uX10_alike := fun _ h => List.mem_cons_of_mem _ (List.mem_append_right _ h)
set_option maxRecDepth 20000 in
theorem gX10_alike__X10_isLaw_V89 : GoodIn uX10_alike (wsV RX10 89 RX10 yX10_isLaw uX10_isLaw) := goodIn_p _ [5, 9] rfl (by decide +kernel)
set_option maxRecDepth 20000 in
theorem gX10_alike__X10_differOf_V366 : GoodIn uX10_alike (wsV RX10 366 RX10 yX10_differOf uX10_differOf) := goodIn_p _ [13, 17] rfl (by decide +kernel)
set_option maxHeartbeats 4000000 in
set_option maxRecDepth 100000 in
theorem kX10_alike (l : Launch) (dC : Nat → ClassId) (dI : Nat → Nat → Nat) (o0 : Nat) (x_th : Int32) (mwo : Nat) (mim : Nat) (mhi : Nat) (mlu : Nat) (mtp : Nat) (x_td : Int32) (mfv : Nat) (x_sz : Int32) (x_at : Int32) (x_fr : Int32) (x_to : Int32) (x_va : Int32) (x_fk : Int32) (x_fp : Int32) (mfr : Nat) (mwt : Nat) (x_wt : Int32) (x_op : Int32) (x_jo : Int32) (mfg : Nat) (mpl : Nat) (x_dr : Int64) (mtm : Nat) (mfa : Nat) (mqu : Nat) (mmo : Nat) (mwy : Nat) (mwn : Nat) (mma : Nat) (mwi : Nat) (mnu : Nat) (mmv : Nat) (c_wo : ClassId) (c_lu : ClassId) (w_wo : Nat → Int32) (w_lu : Nat → Int32) (ln : Int32) (bs : Int32) (tk : Int32) (lw : Int32) (li : Int32) (a1 : Int32) (a2 : Int32) (b_ln : (0 : Int) ≤ ln.toInt ∧ ln.toInt ≤ 12) (b_bs : (0 : Int) ≤ bs.toInt ∧ bs.toInt ≤ 16) (b_tk : (0 : Int) ≤ tk.toInt ∧ tk.toInt ≤ 20000) (b_lw : (0 : Int) ≤ lw.toInt ∧ lw.toInt ≤ 9) (hw0 : w_wo 0 = ln) (hw1 : w_wo 1 = bs) (hw2 : w_wo 2 = tk) (hw3 : w_wo 3 = lw) (hw4 : w_wo 4 = li) (hwz : (ln.toInt = 0 ∧ bs.toInt = 0 ∧ tk.toInt = 0 ∧ lw.toInt = 0) ∨ (1 ≤ ln.toInt ∧ 2 ≤ bs.toInt ∧ 1 ≤ tk.toInt)) : Met l yX10_alike uX10_alike ({ frames := 2, cells := 0, slots := 0, locals := 46 }) (va_Pc [.ref o0, .int a1, .int a2] (pw (dC, dI) vwCl [(o0, .inr (8, [.int x_th, .ref mwo, .ref mim, .ref mhi, .ref mlu, .ref mtp, .int x_td, .ref mfv, .int x_sz, .int x_at, .int x_fr, .int x_to, .int x_va, .int x_fk, .int x_fp, .ref mfr, .ref mwt, .int x_wt, .int x_op, .int x_jo, .ref mfg, .ref mpl, .long x_dr, .ref mtm, .ref mfa, .ref mqu, .ref mmo, .ref mwy, .ref mwn, .ref mma, .ref mwi, .ref mnu, .ref mmv])), (mwo, .inl (c_wo, 1875, .inl w_wo)), (mlu, .inl (c_lu, 20000, .inl w_lu))] [(c_wo, .int), (c_lu, .int)])) (vp_Si (fun r => ((-2 : Int) ≤ r.toInt ∧ r.toInt ≤ 1))) 0 0 (fun _ => False) := by
  refine Met.ofW (cc := cX10_alike) (maxL := 3) (ret := (some .int)) (by decide) rfl ?_
  intro p e s m args below meth c s₁ B hml hv
  obtain ⟨rfl, hP, hK, hN⟩ := hv
  have hx := B.exec
  have hb := B.bytes
  have hr := B.returns
  have hts := atoms_spec (ws := uX10_alike) B.pre
  have hown : s.vm.findClass RX10 = some m.cls := findClass_of_methodNamed B.named
  have hlocks := B.notSynchronized
  have hl := lv_entry ([.ref o0, .int a1, .int a2]) (n := 3) (Nat.le_of_ble_eq_true rfl)
  rw [lg_entry_eq]
  generalize (lg_sl ([.ref o0, .int a1, .int a2]) ++ List.replicate (3 - (lg_sl ([.ref o0, .int a1, .int a2])).length) Slot.unset).toArray = ls at hl ⊢
  have hl : lv_has ls 3 [(0, .ref o0), (1, .int a1), (2, .int a2)] := hl
  refine lv_aload_n hx hb dX10_alike_0 rfl (lv_at hl 0 rfl) ?_
  refine lv_iload_n hx hb dX10_alike_1 rfl (lv_at hl 1 rfl) ?_
  refine vp_callSi (W.runV (As := [.int a1]) (rest := []) ⟨hx, hb, hml, hown, hts⟩ (kX10_isLaw l dC dI o0 x_th mwo mim mhi mlu mtp x_td mfv x_sz x_at x_fr x_to x_va x_fk x_fp mfr mwt x_wt x_op x_jo mfg mpl x_dr mtm mfa mqu mmo mwy mwn mma mwi mnu mmv c_wo w_wo ln bs tk lw li a1 b_ln b_bs b_tk b_lw (hw0) (hw1) (hw2) (hw3) (hw4) (hwz)) (cwV 1 hts gX10_alike__X10_isLaw_V89 rfl rfl rfl (by decide +kernel) ⟨lel 2 2 rfl, lel 46 46 rfl⟩) ⟨pw_fb, va_recv hK hP (ci := 8) (q0 := 0) rfl rfl, (pw_use hP hK hN [0, 1] rfl [0] rfl)⟩ rfl rfl hl.1 rfl (lv_room (Nat.le_of_ble_eq_true rfl)) dX10_alike_2 ⟨lel 0 0 rfl, lel 0 0 rfl⟩) (fun r_9 h_r_9 => ?_)
  obtain ⟨b_r_9, nz_r_9⟩ := h_r_9
  have b_r_9 : (0 : Int) ≤ r_9.toInt ∧ r_9.toInt ≤ 1 := b_r_9
  refine lv_if_eq (tgt := 34) hx hb dX10_alike_5 (by decide) (fun c_10 => ?_) (fun c_10 => ?_)
  ·
    have n_c_10 : (r_9.toInt : Int) = 0 := c_eq rfl (by decide) c_10
    have b_r_9 : (0 : Int) ≤ r_9.toInt ∧ r_9.toInt ≤ 0 := r_eq1 b_r_9 (by decide : (0 : Int) ≤ (0 : Int32).toInt ∧ (0 : Int32).toInt ≤ 0) n_c_10 (by decide)
    refine lv_bipush (v := (-2)) hx hb dX10_alike_34 (by decide) ?_
    exact W.iret (v := (-2)) hx hb hr (fun t ht hW => ⟨(-2), rfl, (rg_w (by decide : (-2 : Int) ≤ ((-2) : Int32).toInt ∧ ((-2) : Int32).toInt ≤ -2) (by decide) (by decide)), ht⟩) t_nil dX10_alike_36
  ·
    have n_c_10 : (r_9.toInt : Int) ≠ 0 := c_ne rfl (by decide) c_10
    have b_r_9 : (1 : Int) ≤ r_9.toInt ∧ r_9.toInt ≤ 1 := r_ne1 b_r_9 (by decide : (0 : Int) ≤ (0 : Int32).toInt ∧ (0 : Int32).toInt ≤ 0) n_c_10 (by decide)
    obtain ⟨b_a1, g_11⟩ := nz_r_9 c_10
    refine lv_aload_n hx hb dX10_alike_8 rfl (lv_at hl 0 rfl) ?_
    refine lv_iload_n hx hb dX10_alike_9 rfl (lv_at hl 2 rfl) ?_
    refine vp_callSi (W.runV (As := [.int a2]) (rest := []) ⟨hx, hb, hml, hown, hts⟩ (kX10_isLaw l dC dI o0 x_th mwo mim mhi mlu mtp x_td mfv x_sz x_at x_fr x_to x_va x_fk x_fp mfr mwt x_wt x_op x_jo mfg mpl x_dr mtm mfa mqu mmo mwy mwn mma mwi mnu mmv c_wo w_wo ln bs tk lw li a2 b_ln b_bs b_tk b_lw (hw0) (hw1) (hw2) (hw3) (hw4) (hwz)) (cwV 1 hts gX10_alike__X10_isLaw_V89 rfl rfl rfl (by decide +kernel) ⟨lel 2 2 rfl, lel 46 46 rfl⟩) ⟨pw_fb, va_recv hK hP (ci := 8) (q0 := 0) rfl rfl, (pw_use hP hK hN [0, 1] rfl [0] rfl)⟩ rfl rfl hl.1 rfl (lv_room (Nat.le_of_ble_eq_true rfl)) dX10_alike_10 ⟨lel 0 0 rfl, lel 0 0 rfl⟩) (fun r_12 h_r_12 => ?_)
    obtain ⟨b_r_12, nz_r_12⟩ := h_r_12
    have b_r_12 : (0 : Int) ≤ r_12.toInt ∧ r_12.toInt ≤ 1 := b_r_12
    refine lv_if_eq (tgt := 34) hx hb dX10_alike_13 (by decide) (fun c_13 => ?_) (fun c_13 => ?_)
    ·
      have n_c_13 : (r_12.toInt : Int) = 0 := c_eq rfl (by decide) c_13
      have b_r_12 : (0 : Int) ≤ r_12.toInt ∧ r_12.toInt ≤ 0 := r_eq1 b_r_12 (by decide : (0 : Int) ≤ (0 : Int32).toInt ∧ (0 : Int32).toInt ≤ 0) n_c_13 (by decide)
      refine lv_bipush (v := (-2)) hx hb dX10_alike_34 (by decide) ?_
      exact W.iret (v := (-2)) hx hb hr (fun t ht hW => ⟨(-2), rfl, (rg_w (by decide : (-2 : Int) ≤ ((-2) : Int32).toInt ∧ ((-2) : Int32).toInt ≤ -2) (by decide) (by decide)), ht⟩) t_nil dX10_alike_36
    ·
      have n_c_13 : (r_12.toInt : Int) ≠ 0 := c_ne rfl (by decide) c_13
      have b_r_12 : (1 : Int) ≤ r_12.toInt ∧ r_12.toInt ≤ 1 := r_ne1 b_r_12 (by decide : (0 : Int) ≤ (0 : Int32).toInt ∧ (0 : Int32).toInt ≤ 0) n_c_13 (by decide)
      obtain ⟨b_a2, g_14⟩ := nz_r_12 c_13
      refine lv_aload_n hx hb dX10_alike_16 rfl (lv_at hl 0 rfl) ?_
      refine lv_iload_n hx hb dX10_alike_17 rfl (lv_at hl 1 rfl) ?_
      refine lv_iload_n hx hb dX10_alike_18 rfl (lv_at hl 2 rfl) ?_
      refine vp_callSi (W.runV (As := [.int a1, .int a2]) (rest := []) ⟨hx, hb, hml, hown, hts⟩ (kX10_differOf l dC dI o0 x_th mwo mim mhi mlu mtp x_td mfv x_sz x_at x_fr x_to x_va x_fk x_fp mfr mwt x_wt x_op x_jo mfg mpl x_dr mtm mfa mqu mmo mwy mwn mma mwi mnu mmv c_wo c_lu w_wo w_lu ln bs tk lw li a1 a2 b_ln b_bs b_tk b_lw (hw0) (hw1) (hw2) (hw3) (hw4) (hwz)) (cwV 2 hts gX10_alike__X10_differOf_V366 rfl rfl rfl (by decide +kernel) ⟨lel 2 2 rfl, lel 45 46 rfl⟩) ⟨pw_fb, va_recv hK hP (ci := 8) (q0 := 0) rfl rfl, (pw_use hP hK hN [0, 1, 2] rfl [0, 1] rfl)⟩ rfl rfl hl.1 rfl (lv_room (Nat.le_of_ble_eq_true rfl)) dX10_alike_19 ⟨lel 0 0 rfl, lel 0 0 rfl⟩) (fun r_15 h_r_15 => ?_)
      have b_r_15 := h_r_15
      have b_r_15 : (-1 : Int) ≤ r_15.toInt ∧ r_15.toInt ≤ 19999 := b_r_15
      refine lv_iconst (v := (-1)) hx hb dX10_alike_22 (by decide) ?_
      refine lv_icmp_ne (tgt := 30) hx hb dX10_alike_23 (by decide) (fun c_16 => ?_) (fun c_16 => ?_)
      ·
        have n_c_16 : (r_15.toInt : Int) ≠ (-1) := c_ne rfl (by decide) c_16
        have b_r_15 : (0 : Int) ≤ r_15.toInt ∧ r_15.toInt ≤ 19999 := r_ne1 b_r_15 (by decide : (-1 : Int) ≤ ((-1) : Int32).toInt ∧ ((-1) : Int32).toInt ≤ -1) n_c_16 (by decide)
        refine lv_iconst (v := 0) hx hb dX10_alike_30 (by decide) ?_
        refine lv_goto (tgt := 36) hx hb dX10_alike_31 (by decide) ?_
        exact W.iret (v := 0) hx hb hr (fun t ht hW => ⟨0, rfl, (rg_w (by decide : (0 : Int) ≤ (0 : Int32).toInt ∧ (0 : Int32).toInt ≤ 0) (by decide) (by decide)), ht⟩) t_nil dX10_alike_36
      ·
        have n_c_16 : (r_15.toInt : Int) = (-1) := c_eq rfl (by decide) c_16
        have b_r_15 : (-1 : Int) ≤ r_15.toInt ∧ r_15.toInt ≤ -1 := r_eq1 b_r_15 (by decide : (-1 : Int) ≤ ((-1) : Int32).toInt ∧ ((-1) : Int32).toInt ≤ -1) n_c_16 (by decide)
        refine lv_iconst (v := 1) hx hb dX10_alike_26 (by decide) ?_
        refine lv_goto (tgt := 36) hx hb dX10_alike_27 (by decide) ?_
        exact W.iret (v := 1) hx hb hr (fun t ht hW => ⟨1, rfl, (rg_w (by decide : (1 : Int) ≤ (1 : Int32).toInt ∧ (1 : Int32).toInt ≤ 1) (by decide) (by decide)), ht⟩) t_nil dX10_alike_36
theorem dX10_differ_0 : decode cX10_differ 0 = .ok (.aload_n 0, 1) := by decide +kernel
theorem dX10_differ_1 : decode cX10_differ 1 = .ok (.iload_n 1, 1) := by decide +kernel
theorem dX10_differ_2 : decode cX10_differ 2 = .ok (.invokevirtual 89, 3) := by decide +kernel
theorem dX10_differ_5 : decode cX10_differ 5 = .ok (.ifCond .eq 20, 3) := by decide +kernel
theorem dX10_differ_8 : decode cX10_differ 8 = .ok (.aload_n 0, 1) := by decide +kernel
theorem dX10_differ_9 : decode cX10_differ 9 = .ok (.iload_n 2, 1) := by decide +kernel
theorem dX10_differ_10 : decode cX10_differ 10 = .ok (.invokevirtual 89, 3) := by decide +kernel
theorem dX10_differ_13 : decode cX10_differ 13 = .ok (.ifCond .eq 12, 3) := by decide +kernel
theorem dX10_differ_16 : decode cX10_differ 16 = .ok (.aload_n 0, 1) := by decide +kernel
theorem dX10_differ_17 : decode cX10_differ 17 = .ok (.iload_n 1, 1) := by decide +kernel
theorem dX10_differ_18 : decode cX10_differ 18 = .ok (.iload_n 2, 1) := by decide +kernel
theorem dX10_differ_19 : decode cX10_differ 19 = .ok (.invokevirtual 366, 3) := by decide +kernel
theorem dX10_differ_22 : decode cX10_differ 22 = .ok (.goto 5, 3) := by decide +kernel
theorem dX10_differ_25 : decode cX10_differ 25 = .ok (.bipush (-2), 2) := by decide +kernel
theorem dX10_differ_27 : decode cX10_differ 27 = .ok (.ireturn, 1) := by decide +kernel
def uX10_differ : List Cond := .code yX10_differ cX10_differ 3 (some .int) :: ([.methodLink RX10 89 yX10_isLaw, .instanceMethod yX10_isLaw, .selects RX10 yX10_isLaw yX10_isLaw, .initialized RX10, .code yX10_isLaw cX10_isLaw 2 (some .boolean), .fieldLink RX10 9 "LuckyTicketModel" "world" "[I", .methodLink RX10 82 yX10_in, .static yX10_in, .code yX10_in cX10_in 6 (some .boolean), .methodLink RX10 366 yX10_differOf, .instanceMethod yX10_differOf, .selects RX10 yX10_differOf yX10_differOf, .code yX10_differOf cX10_differOf 4 (some .int), .methodLink RX10 316 yX10_isLucky, .instanceMethod yX10_isLucky, .selects RX10 yX10_isLucky yX10_isLucky, .code yX10_isLucky cX10_isLucky 3 (some .boolean), .fieldLink RX10 20 "LuckyTicketModel" "luck" "[I"] ++ wsX100)
theorem iX10_differ_X10 : ∀ w ∈ wsX100, w ∈ uX10_differ := fun _ h => List.mem_cons_of_mem _ (List.mem_append_right _ h)
set_option maxRecDepth 20000 in
theorem gX10_differ__X10_isLaw_V89 : GoodIn uX10_differ (wsV RX10 89 RX10 yX10_isLaw uX10_isLaw) := goodIn_p _ [5, 9] rfl (by decide +kernel)
set_option maxRecDepth 20000 in
theorem gX10_differ__X10_differOf_V366 : GoodIn uX10_differ (wsV RX10 366 RX10 yX10_differOf uX10_differOf) := goodIn_p _ [13, 17] rfl (by decide +kernel)
set_option maxHeartbeats 4000000 in
set_option maxRecDepth 100000 in
theorem kX10_differ (l : Launch) (dC : Nat → ClassId) (dI : Nat → Nat → Nat) (o0 : Nat) (x_th : Int32) (mwo : Nat) (mim : Nat) (mhi : Nat) (mlu : Nat) (mtp : Nat) (x_td : Int32) (mfv : Nat) (x_sz : Int32) (x_at : Int32) (x_fr : Int32) (x_to : Int32) (x_va : Int32) (x_fk : Int32) (x_fp : Int32) (mfr : Nat) (mwt : Nat) (x_wt : Int32) (x_op : Int32) (x_jo : Int32) (mfg : Nat) (mpl : Nat) (x_dr : Int64) (mtm : Nat) (mfa : Nat) (mqu : Nat) (mmo : Nat) (mwy : Nat) (mwn : Nat) (mma : Nat) (mwi : Nat) (mnu : Nat) (mmv : Nat) (c_wo : ClassId) (c_lu : ClassId) (w_wo : Nat → Int32) (w_lu : Nat → Int32) (ln : Int32) (bs : Int32) (tk : Int32) (lw : Int32) (li : Int32) (a1 : Int32) (a2 : Int32) (b_ln : (0 : Int) ≤ ln.toInt ∧ ln.toInt ≤ 12) (b_bs : (0 : Int) ≤ bs.toInt ∧ bs.toInt ≤ 16) (b_tk : (0 : Int) ≤ tk.toInt ∧ tk.toInt ≤ 20000) (b_lw : (0 : Int) ≤ lw.toInt ∧ lw.toInt ≤ 9) (hw0 : w_wo 0 = ln) (hw1 : w_wo 1 = bs) (hw2 : w_wo 2 = tk) (hw3 : w_wo 3 = lw) (hw4 : w_wo 4 = li) (hwz : (ln.toInt = 0 ∧ bs.toInt = 0 ∧ tk.toInt = 0 ∧ lw.toInt = 0) ∨ (1 ≤ ln.toInt ∧ 2 ≤ bs.toInt ∧ 1 ≤ tk.toInt)) : Met l yX10_differ uX10_differ ({ frames := 2, cells := 0, slots := 0, locals := 46 }) (va_Pc [.ref o0, .int a1, .int a2] (pw (dC, dI) vwCl [(o0, .inr (8, [.int x_th, .ref mwo, .ref mim, .ref mhi, .ref mlu, .ref mtp, .int x_td, .ref mfv, .int x_sz, .int x_at, .int x_fr, .int x_to, .int x_va, .int x_fk, .int x_fp, .ref mfr, .ref mwt, .int x_wt, .int x_op, .int x_jo, .ref mfg, .ref mpl, .long x_dr, .ref mtm, .ref mfa, .ref mqu, .ref mmo, .ref mwy, .ref mwn, .ref mma, .ref mwi, .ref mnu, .ref mmv])), (mwo, .inl (c_wo, 1875, .inl w_wo)), (mlu, .inl (c_lu, 20000, .inl w_lu))] [(c_wo, .int), (c_lu, .int)])) (vp_Si (fun r => ((-2 : Int) ≤ r.toInt ∧ r.toInt ≤ 19999))) 0 0 (fun _ => False) := by
  refine Met.ofW (cc := cX10_differ) (maxL := 3) (ret := (some .int)) (by decide) rfl ?_
  intro p e s m args below meth c s₁ B hml hv
  obtain ⟨rfl, hP, hK, hN⟩ := hv
  have hx := B.exec
  have hb := B.bytes
  have hr := B.returns
  have hts := atoms_spec (ws := uX10_differ) B.pre
  have hown : s.vm.findClass RX10 = some m.cls := findClass_of_methodNamed B.named
  have hlocks := B.notSynchronized
  have hl := lv_entry ([.ref o0, .int a1, .int a2]) (n := 3) (Nat.le_of_ble_eq_true rfl)
  rw [lg_entry_eq]
  generalize (lg_sl ([.ref o0, .int a1, .int a2]) ++ List.replicate (3 - (lg_sl ([.ref o0, .int a1, .int a2])).length) Slot.unset).toArray = ls at hl ⊢
  have hl : lv_has ls 3 [(0, .ref o0), (1, .int a1), (2, .int a2)] := hl
  refine lv_aload_n hx hb dX10_differ_0 rfl (lv_at hl 0 rfl) ?_
  refine lv_iload_n hx hb dX10_differ_1 rfl (lv_at hl 1 rfl) ?_
  refine vp_callSi (W.runV (As := [.int a1]) (rest := []) ⟨hx, hb, hml, hown, hts⟩ (kX10_isLaw l dC dI o0 x_th mwo mim mhi mlu mtp x_td mfv x_sz x_at x_fr x_to x_va x_fk x_fp mfr mwt x_wt x_op x_jo mfg mpl x_dr mtm mfa mqu mmo mwy mwn mma mwi mnu mmv c_wo w_wo ln bs tk lw li a1 b_ln b_bs b_tk b_lw (hw0) (hw1) (hw2) (hw3) (hw4) (hwz)) (cwV 1 hts gX10_differ__X10_isLaw_V89 rfl rfl rfl (by decide +kernel) ⟨lel 2 2 rfl, lel 46 46 rfl⟩) ⟨pw_fb, va_recv hK hP (ci := 8) (q0 := 0) rfl rfl, (pw_use hP hK hN [0, 1] rfl [0] rfl)⟩ rfl rfl hl.1 rfl (lv_room (Nat.le_of_ble_eq_true rfl)) dX10_differ_2 ⟨lel 0 0 rfl, lel 0 0 rfl⟩) (fun r_8 h_r_8 => ?_)
  obtain ⟨b_r_8, nz_r_8⟩ := h_r_8
  have b_r_8 : (0 : Int) ≤ r_8.toInt ∧ r_8.toInt ≤ 1 := b_r_8
  refine lv_if_eq (tgt := 25) hx hb dX10_differ_5 (by decide) (fun c_9 => ?_) (fun c_9 => ?_)
  ·
    have n_c_9 : (r_8.toInt : Int) = 0 := c_eq rfl (by decide) c_9
    have b_r_8 : (0 : Int) ≤ r_8.toInt ∧ r_8.toInt ≤ 0 := r_eq1 b_r_8 (by decide : (0 : Int) ≤ (0 : Int32).toInt ∧ (0 : Int32).toInt ≤ 0) n_c_9 (by decide)
    refine lv_bipush (v := (-2)) hx hb dX10_differ_25 (by decide) ?_
    exact W.iret (v := (-2)) hx hb hr (fun t ht hW => ⟨(-2), rfl, (rg_w (by decide : (-2 : Int) ≤ ((-2) : Int32).toInt ∧ ((-2) : Int32).toInt ≤ -2) (by decide) (by decide)), ht⟩) t_nil dX10_differ_27
  ·
    have n_c_9 : (r_8.toInt : Int) ≠ 0 := c_ne rfl (by decide) c_9
    have b_r_8 : (1 : Int) ≤ r_8.toInt ∧ r_8.toInt ≤ 1 := r_ne1 b_r_8 (by decide : (0 : Int) ≤ (0 : Int32).toInt ∧ (0 : Int32).toInt ≤ 0) n_c_9 (by decide)
    obtain ⟨b_a1, g_10⟩ := nz_r_8 c_9
    refine lv_aload_n hx hb dX10_differ_8 rfl (lv_at hl 0 rfl) ?_
    refine lv_iload_n hx hb dX10_differ_9 rfl (lv_at hl 2 rfl) ?_
    refine vp_callSi (W.runV (As := [.int a2]) (rest := []) ⟨hx, hb, hml, hown, hts⟩ (kX10_isLaw l dC dI o0 x_th mwo mim mhi mlu mtp x_td mfv x_sz x_at x_fr x_to x_va x_fk x_fp mfr mwt x_wt x_op x_jo mfg mpl x_dr mtm mfa mqu mmo mwy mwn mma mwi mnu mmv c_wo w_wo ln bs tk lw li a2 b_ln b_bs b_tk b_lw (hw0) (hw1) (hw2) (hw3) (hw4) (hwz)) (cwV 1 hts gX10_differ__X10_isLaw_V89 rfl rfl rfl (by decide +kernel) ⟨lel 2 2 rfl, lel 46 46 rfl⟩) ⟨pw_fb, va_recv hK hP (ci := 8) (q0 := 0) rfl rfl, (pw_use hP hK hN [0, 1] rfl [0] rfl)⟩ rfl rfl hl.1 rfl (lv_room (Nat.le_of_ble_eq_true rfl)) dX10_differ_10 ⟨lel 0 0 rfl, lel 0 0 rfl⟩) (fun r_11 h_r_11 => ?_)
    obtain ⟨b_r_11, nz_r_11⟩ := h_r_11
    have b_r_11 : (0 : Int) ≤ r_11.toInt ∧ r_11.toInt ≤ 1 := b_r_11
    refine lv_if_eq (tgt := 25) hx hb dX10_differ_13 (by decide) (fun c_12 => ?_) (fun c_12 => ?_)
    ·
      have n_c_12 : (r_11.toInt : Int) = 0 := c_eq rfl (by decide) c_12
      have b_r_11 : (0 : Int) ≤ r_11.toInt ∧ r_11.toInt ≤ 0 := r_eq1 b_r_11 (by decide : (0 : Int) ≤ (0 : Int32).toInt ∧ (0 : Int32).toInt ≤ 0) n_c_12 (by decide)
      refine lv_bipush (v := (-2)) hx hb dX10_differ_25 (by decide) ?_
      exact W.iret (v := (-2)) hx hb hr (fun t ht hW => ⟨(-2), rfl, (rg_w (by decide : (-2 : Int) ≤ ((-2) : Int32).toInt ∧ ((-2) : Int32).toInt ≤ -2) (by decide) (by decide)), ht⟩) t_nil dX10_differ_27
    ·
      have n_c_12 : (r_11.toInt : Int) ≠ 0 := c_ne rfl (by decide) c_12
      have b_r_11 : (1 : Int) ≤ r_11.toInt ∧ r_11.toInt ≤ 1 := r_ne1 b_r_11 (by decide : (0 : Int) ≤ (0 : Int32).toInt ∧ (0 : Int32).toInt ≤ 0) n_c_12 (by decide)
      obtain ⟨b_a2, g_13⟩ := nz_r_11 c_12
      refine lv_aload_n hx hb dX10_differ_16 rfl (lv_at hl 0 rfl) ?_
      refine lv_iload_n hx hb dX10_differ_17 rfl (lv_at hl 1 rfl) ?_
      refine lv_iload_n hx hb dX10_differ_18 rfl (lv_at hl 2 rfl) ?_
      refine vp_callSi (W.runV (As := [.int a1, .int a2]) (rest := []) ⟨hx, hb, hml, hown, hts⟩ (kX10_differOf l dC dI o0 x_th mwo mim mhi mlu mtp x_td mfv x_sz x_at x_fr x_to x_va x_fk x_fp mfr mwt x_wt x_op x_jo mfg mpl x_dr mtm mfa mqu mmo mwy mwn mma mwi mnu mmv c_wo c_lu w_wo w_lu ln bs tk lw li a1 a2 b_ln b_bs b_tk b_lw (hw0) (hw1) (hw2) (hw3) (hw4) (hwz)) (cwV 2 hts gX10_differ__X10_differOf_V366 rfl rfl rfl (by decide +kernel) ⟨lel 2 2 rfl, lel 45 46 rfl⟩) ⟨pw_fb, va_recv hK hP (ci := 8) (q0 := 0) rfl rfl, (pw_use hP hK hN [0, 1, 2] rfl [0, 1] rfl)⟩ rfl rfl hl.1 rfl (lv_room (Nat.le_of_ble_eq_true rfl)) dX10_differ_19 ⟨lel 0 0 rfl, lel 0 0 rfl⟩) (fun r_14 h_r_14 => ?_)
      have b_r_14 := h_r_14
      have b_r_14 : (-1 : Int) ≤ r_14.toInt ∧ r_14.toInt ≤ 19999 := b_r_14
      refine lv_goto (tgt := 27) hx hb dX10_differ_22 (by decide) ?_
      exact W.iret (v := r_14) hx hb hr (fun t ht hW => ⟨r_14, rfl, (rg_w b_r_14 (by decide) (by decide)), ht⟩) t_nil dX10_differ_27
theorem dX10_farFrom_0 : decode cX10_farFrom 0 = .ok (.iconst 0, 1) := by decide +kernel
theorem dX10_farFrom_1 : decode cX10_farFrom 1 = .ok (.istore_n 3, 1) := by decide +kernel
theorem dX10_farFrom_2 : decode cX10_farFrom 2 = .ok (.iload_n 1, 1) := by decide +kernel
theorem dX10_farFrom_3 : decode cX10_farFrom 3 = .ok (.istore 4, 2) := by decide +kernel
theorem dX10_farFrom_5 : decode cX10_farFrom 5 = .ok (.iload_n 2, 1) := by decide +kernel
theorem dX10_farFrom_6 : decode cX10_farFrom 6 = .ok (.istore 5, 2) := by decide +kernel
theorem dX10_farFrom_8 : decode cX10_farFrom 8 = .ok (.iconst 0, 1) := by decide +kernel
theorem dX10_farFrom_9 : decode cX10_farFrom 9 = .ok (.istore 6, 2) := by decide +kernel
theorem dX10_farFrom_11 : decode cX10_farFrom 11 = .ok (.iload 6, 2) := by decide +kernel
theorem dX10_farFrom_13 : decode cX10_farFrom 13 = .ok (.aload_n 0, 1) := by decide +kernel
theorem dX10_farFrom_14 : decode cX10_farFrom 14 = .ok (.getfield 9, 3) := by decide +kernel
theorem dX10_farFrom_17 : decode cX10_farFrom 17 = .ok (.iconst 0, 1) := by decide +kernel
theorem dX10_farFrom_18 : decode cX10_farFrom 18 = .ok (.iaload, 1) := by decide +kernel
theorem dX10_farFrom_19 : decode cX10_farFrom 19 = .ok (.if_icmp .ge 60, 3) := by decide +kernel
theorem dX10_farFrom_22 : decode cX10_farFrom 22 = .ok (.iload_n 3, 1) := by decide +kernel
theorem dX10_farFrom_23 : decode cX10_farFrom 23 = .ok (.iload 4, 2) := by decide +kernel
theorem dX10_farFrom_25 : decode cX10_farFrom 25 = .ok (.aload_n 0, 1) := by decide +kernel
theorem dX10_farFrom_26 : decode cX10_farFrom 26 = .ok (.getfield 9, 3) := by decide +kernel
theorem dX10_farFrom_29 : decode cX10_farFrom 29 = .ok (.iconst 1, 1) := by decide +kernel
theorem dX10_farFrom_30 : decode cX10_farFrom 30 = .ok (.iaload, 1) := by decide +kernel
theorem dX10_farFrom_31 : decode cX10_farFrom 31 = .ok (.irem, 1) := by decide +kernel
theorem dX10_farFrom_32 : decode cX10_farFrom 32 = .ok (.iload 5, 2) := by decide +kernel
theorem dX10_farFrom_34 : decode cX10_farFrom 34 = .ok (.aload_n 0, 1) := by decide +kernel
theorem dX10_farFrom_35 : decode cX10_farFrom 35 = .ok (.getfield 9, 3) := by decide +kernel
theorem dX10_farFrom_38 : decode cX10_farFrom 38 = .ok (.iconst 1, 1) := by decide +kernel
theorem dX10_farFrom_39 : decode cX10_farFrom 39 = .ok (.iaload, 1) := by decide +kernel
theorem dX10_farFrom_40 : decode cX10_farFrom 40 = .ok (.irem, 1) := by decide +kernel
theorem dX10_farFrom_41 : decode cX10_farFrom 41 = .ok (.if_icmp .ne 7, 3) := by decide +kernel
theorem dX10_farFrom_44 : decode cX10_farFrom 44 = .ok (.iconst 0, 1) := by decide +kernel
theorem dX10_farFrom_45 : decode cX10_farFrom 45 = .ok (.goto 4, 3) := by decide +kernel
theorem dX10_farFrom_48 : decode cX10_farFrom 48 = .ok (.iconst 1, 1) := by decide +kernel
theorem dX10_farFrom_49 : decode cX10_farFrom 49 = .ok (.iadd, 1) := by decide +kernel
theorem dX10_farFrom_50 : decode cX10_farFrom 50 = .ok (.istore_n 3, 1) := by decide +kernel
theorem dX10_farFrom_51 : decode cX10_farFrom 51 = .ok (.iload 4, 2) := by decide +kernel
theorem dX10_farFrom_53 : decode cX10_farFrom 53 = .ok (.aload_n 0, 1) := by decide +kernel
theorem dX10_farFrom_54 : decode cX10_farFrom 54 = .ok (.getfield 9, 3) := by decide +kernel
theorem dX10_farFrom_57 : decode cX10_farFrom 57 = .ok (.iconst 1, 1) := by decide +kernel
theorem dX10_farFrom_58 : decode cX10_farFrom 58 = .ok (.iaload, 1) := by decide +kernel
theorem dX10_farFrom_59 : decode cX10_farFrom 59 = .ok (.idiv, 1) := by decide +kernel
theorem dX10_farFrom_60 : decode cX10_farFrom 60 = .ok (.istore 4, 2) := by decide +kernel
theorem dX10_farFrom_62 : decode cX10_farFrom 62 = .ok (.iload 5, 2) := by decide +kernel
theorem dX10_farFrom_64 : decode cX10_farFrom 64 = .ok (.aload_n 0, 1) := by decide +kernel
theorem dX10_farFrom_65 : decode cX10_farFrom 65 = .ok (.getfield 9, 3) := by decide +kernel
theorem dX10_farFrom_68 : decode cX10_farFrom 68 = .ok (.iconst 1, 1) := by decide +kernel
theorem dX10_farFrom_69 : decode cX10_farFrom 69 = .ok (.iaload, 1) := by decide +kernel
theorem dX10_farFrom_70 : decode cX10_farFrom 70 = .ok (.idiv, 1) := by decide +kernel
theorem dX10_farFrom_71 : decode cX10_farFrom 71 = .ok (.istore 5, 2) := by decide +kernel
theorem dX10_farFrom_73 : decode cX10_farFrom 73 = .ok (.iinc 6 1, 3) := by decide +kernel
theorem dX10_farFrom_76 : decode cX10_farFrom 76 = .ok (.goto (-65), 3) := by decide +kernel
theorem dX10_farFrom_79 : decode cX10_farFrom 79 = .ok (.iload_n 3, 1) := by decide +kernel
theorem dX10_farFrom_80 : decode cX10_farFrom 80 = .ok (.ireturn, 1) := by decide +kernel
def uX10_farFrom : List Cond := .code yX10_farFrom cX10_farFrom 7 (some .int) :: ([.fieldLink RX10 9 "LuckyTicketModel" "world" "[I"] ++ wsX100)
theorem iX10_farFrom_X10 : ∀ w ∈ wsX100, w ∈ uX10_farFrom := fun _ h => List.mem_cons_of_mem _ (List.mem_append_right _ h)
set_option maxHeartbeats 4000000 in
set_option maxRecDepth 100000 in
theorem kX10_farFrom (l : Launch) (dC : Nat → ClassId) (dI : Nat → Nat → Nat) (o0 : Nat) (x_th : Int32) (mwo : Nat) (mim : Nat) (mhi : Nat) (mlu : Nat) (mtp : Nat) (x_td : Int32) (mfv : Nat) (x_sz : Int32) (x_at : Int32) (x_fr : Int32) (x_to : Int32) (x_va : Int32) (x_fk : Int32) (x_fp : Int32) (mfr : Nat) (mwt : Nat) (x_wt : Int32) (x_op : Int32) (x_jo : Int32) (mfg : Nat) (mpl : Nat) (x_dr : Int64) (mtm : Nat) (mfa : Nat) (mqu : Nat) (mmo : Nat) (mwy : Nat) (mwn : Nat) (mma : Nat) (mwi : Nat) (mnu : Nat) (mmv : Nat) (c_wo : ClassId) (w_wo : Nat → Int32) (ln : Int32) (bs : Int32) (tk : Int32) (lw : Int32) (li : Int32) (a1 : Int32) (a2 : Int32) (b_ln : (0 : Int) ≤ ln.toInt ∧ ln.toInt ≤ 12) (b_bs : (0 : Int) ≤ bs.toInt ∧ bs.toInt ≤ 16) (b_tk : (0 : Int) ≤ tk.toInt ∧ tk.toInt ≤ 20000) (b_lw : (0 : Int) ≤ lw.toInt ∧ lw.toInt ≤ 9) (b_a1 : (0 : Int) ≤ a1.toInt ∧ a1.toInt ≤ 19999) (b_a2 : (0 : Int) ≤ a2.toInt ∧ a2.toInt ≤ 19999) (hw0 : w_wo 0 = ln) (hw1 : w_wo 1 = bs) (hw2 : w_wo 2 = tk) (hw3 : w_wo 3 = lw) (hw4 : w_wo 4 = li) (hwz : (ln.toInt = 0 ∧ bs.toInt = 0 ∧ tk.toInt = 0 ∧ lw.toInt = 0) ∨ (1 ≤ ln.toInt ∧ 2 ≤ bs.toInt ∧ 1 ≤ tk.toInt)) : Met l yX10_farFrom uX10_farFrom ({ frames := 0, cells := 0, slots := 0, locals := 0 }) (va_Pc [.ref o0, .int a1, .int a2] (pw (dC, dI) vwCl [(o0, .inr (8, [.int x_th, .ref mwo, .ref mim, .ref mhi, .ref mlu, .ref mtp, .int x_td, .ref mfv, .int x_sz, .int x_at, .int x_fr, .int x_to, .int x_va, .int x_fk, .int x_fp, .ref mfr, .ref mwt, .int x_wt, .int x_op, .int x_jo, .ref mfg, .ref mpl, .long x_dr, .ref mtm, .ref mfa, .ref mqu, .ref mmo, .ref mwy, .ref mwn, .ref mma, .ref mwi, .ref mnu, .ref mmv])), (mwo, .inl (c_wo, 1875, .inl w_wo))] [(c_wo, .int)])) (vp_Si (fun r => True)) 0 0 (fun _ => False) := by
  refine Met.ofW (cc := cX10_farFrom) (maxL := 7) (ret := (some .int)) (by decide) rfl ?_
  intro p e s m args below meth c s₁ B hml hv
  obtain ⟨rfl, hP, hK, hN⟩ := hv
  have hx := B.exec
  have hb := B.bytes
  have hr := B.returns
  have hts := atoms_spec (ws := uX10_farFrom) B.pre
  have hown : s.vm.findClass RX10 = some m.cls := findClass_of_methodNamed B.named
  have hlocks := B.notSynchronized
  have hl := lv_entry ([.ref o0, .int a1, .int a2]) (n := 7) (Nat.le_of_ble_eq_true rfl)
  rw [lg_entry_eq]
  generalize (lg_sl ([.ref o0, .int a1, .int a2]) ++ List.replicate (7 - (lg_sl ([.ref o0, .int a1, .int a2])).length) Slot.unset).toArray = ls at hl ⊢
  have hl : lv_has ls 7 [(0, .ref o0), (1, .int a1), (2, .int a2)] := hl
  refine lv_iconst (v := 0) hx hb dX10_farFrom_0 (by decide) ?_
  refine lv_istore_n (lv' := [(3, .int 0), (0, .ref o0), (1, .int a1), (2, .int a2)]) hx hb dX10_farFrom_1 rfl hl (by decide) rfl (fun ls hl => ?_)
  refine lv_iload_n hx hb dX10_farFrom_2 rfl (lv_at hl 2 rfl) ?_
  refine lv_istore (lv' := [(4, .int a1), (3, .int 0), (0, .ref o0), (1, .int a1), (2, .int a2)]) hx hb dX10_farFrom_3 hl (by decide) rfl (fun ls hl => ?_)
  refine lv_iload_n hx hb dX10_farFrom_5 rfl (lv_at hl 4 rfl) ?_
  refine lv_istore (lv' := [(5, .int a2), (4, .int a1), (3, .int 0), (0, .ref o0), (1, .int a1), (2, .int a2)]) hx hb dX10_farFrom_6 hl (by decide) rfl (fun ls hl => ?_)
  refine lv_iconst (v := 0) hx hb dX10_farFrom_8 (by decide) ?_
  refine lv_istore (lv' := [(6, .int 0), (5, .int a2), (4, .int a1), (3, .int 0), (0, .ref o0), (1, .int a1), (2, .int a2)]) hx hb dX10_farFrom_9 hl (by decide) rfl (fun ls hl => ?_)
  refine loopP (σ := Int32 × Int32 × Int32 × Int32) (fun v => (12 - v.1.toInt).toNat) (fun v ls => ((0 : Int) ≤ v.1.toInt ∧ v.1.toInt ≤ 12) ∧ ((0 : Int) ≤ v.2.1.toInt ∧ v.2.1.toInt ≤ 19999) ∧ ((0 : Int) ≤ v.2.2.1.toInt ∧ v.2.2.1.toInt ≤ 19999) ∧ lv_has ls 7 [(6, .int v.1), (5, .int v.2.1), (4, .int v.2.2.1), (3, .int v.2.2.2), (0, .ref o0), (1, .int a1), (2, .int a2)]) (fun v ls hI ih_11_470 => ?_) ((0 : Int32), a2, a1, (0 : Int32)) ⟨(show (0 : Int) ≤ (0 : Int32).toInt ∧ (0 : Int32).toInt ≤ 12 from (rg_w (by decide : (0 : Int) ≤ (0 : Int32).toInt ∧ (0 : Int32).toInt ≤ 0) (by decide) (by decide))), (show (0 : Int) ≤ a2.toInt ∧ a2.toInt ≤ 19999 from b_a2), (show (0 : Int) ≤ a1.toInt ∧ a1.toInt ≤ 19999 from b_a1), lv_sub hl [0, 1, 2, 3, 4, 5, 6] rfl⟩
  obtain ⟨y_257, y_258, y_259, y_260⟩ := v
  obtain ⟨b_y_257, b_y_258, b_y_259, hl⟩ := hI
  have b_y_257 : (0 : Int) ≤ y_257.toInt ∧ y_257.toInt ≤ 12 := b_y_257
  have b_y_258 : (0 : Int) ≤ y_258.toInt ∧ y_258.toInt ≤ 19999 := b_y_258
  have b_y_259 : (0 : Int) ≤ y_259.toInt ∧ y_259.toInt ≤ 19999 := b_y_259
  have hl : lv_has ls 7 [(6, .int y_257), (5, .int y_258), (4, .int y_259), (3, .int y_260), (0, .ref o0), (1, .int a1), (2, .int a2)] := hl
  refine lv_iload hx hb dX10_farFrom_11 (lv_at hl 0 rfl) ?_
  refine lv_aload_n hx hb dX10_farFrom_13 rfl (lv_at hl 4 rfl) ?_
  refine va_get (D := (dC, dI)) (ci := 8) (v := .ref mwo) (C := RX10) (T := TX10) (N := 33) hx hb hts iX10_farFrom_X10 hown hK hP 0 rfl rfl 1 (by decide) (hts (.fieldLink RX10 9 "LuckyTicketModel" "world" "[I") (List.mem_of_getElem? (i := 1) rfl)) (fun _ h9 => h9) rfl dX10_farFrom_14 ?_
  refine lv_iconst (v := 0) hx hb dX10_farFrom_17 (by decide) ?_
  refine va_iald hx hb hK hP 1 0 rfl rfl (vp_in_b (by decide : (0 : Int) ≤ (0 : Int32).toInt ∧ (0 : Int32).toInt ≤ 0) (by decide) (by decide)) dX10_farFrom_18 ?_
  refine lv_topi (fun z_471 e_z_471 => ?_)
  obtain rfl : z_471 = ln := e_z_471.trans hw0
  refine lv_icmp_ge (tgt := 79) hx hb dX10_farFrom_19 (by decide) (fun c_472 => ?_) (fun c_472 => ?_)
  ·
    have n_c_472 : (ln.toInt : Int) ≤ y_257.toInt := c_ge rfl rfl c_472
    refine lv_iload_n hx hb dX10_farFrom_79 rfl (lv_at hl 3 rfl) ?_
    exact W.iret (v := y_260) hx hb hr (fun t ht hW => ⟨y_260, rfl, trivial, ht⟩) t_nil dX10_farFrom_80
  ·
    have n_c_472 : (y_257.toInt : Int) < ln.toInt := c_nge rfl rfl c_472
    have b_y_257 : (0 : Int) ≤ y_257.toInt ∧ y_257.toInt ≤ 11 := r_lt1 b_y_257 b_ln n_c_472 (by decide)
    have b_ln : (1 : Int) ≤ ln.toInt ∧ ln.toInt ≤ 12 := r_lt2 b_y_257 b_ln n_c_472 (by decide)
    refine lv_iload_n hx hb dX10_farFrom_22 rfl (lv_at hl 3 rfl) ?_
    refine lv_iload hx hb dX10_farFrom_23 (lv_at hl 2 rfl) ?_
    refine lv_aload_n hx hb dX10_farFrom_25 rfl (lv_at hl 4 rfl) ?_
    refine va_get (D := (dC, dI)) (ci := 8) (v := .ref mwo) (C := RX10) (T := TX10) (N := 33) hx hb hts iX10_farFrom_X10 hown hK hP 0 rfl rfl 1 (by decide) (hts (.fieldLink RX10 9 "LuckyTicketModel" "world" "[I") (List.mem_of_getElem? (i := 1) rfl)) (fun _ h9 => h9) rfl dX10_farFrom_26 ?_
    refine lv_iconst (v := 1) hx hb dX10_farFrom_29 (by decide) ?_
    refine va_iald hx hb hK hP 1 0 rfl rfl (vp_in_b (by decide : (1 : Int) ≤ (1 : Int32).toInt ∧ (1 : Int32).toInt ≤ 1) (by decide) (by decide)) dX10_farFrom_30 ?_
    refine lv_topi (fun z_473 e_z_473 => ?_)
    obtain rfl : z_473 = bs := e_z_473.trans hw1
    have b_bs : (1 : Int) ≤ bs.toInt ∧ bs.toInt ≤ 16 := ⟨by omega, (b_bs).2⟩
    refine lv_irem hx hb dX10_farFrom_31 (ti_ne b_bs (by decide)) ?_
    refine lv_topi (fun z_474 e_z_474 => ?_)
    obtain ⟨q_z_474, b_z_474⟩ := ti_rem (hi := 15) e_z_474 rfl rfl b_y_259 b_bs (by decide)
    refine lv_iload hx hb dX10_farFrom_32 (lv_at hl 1 rfl) ?_
    refine lv_aload_n hx hb dX10_farFrom_34 rfl (lv_at hl 4 rfl) ?_
    refine va_get (D := (dC, dI)) (ci := 8) (v := .ref mwo) (C := RX10) (T := TX10) (N := 33) hx hb hts iX10_farFrom_X10 hown hK hP 0 rfl rfl 1 (by decide) (hts (.fieldLink RX10 9 "LuckyTicketModel" "world" "[I") (List.mem_of_getElem? (i := 1) rfl)) (fun _ h9 => h9) rfl dX10_farFrom_35 ?_
    refine lv_iconst (v := 1) hx hb dX10_farFrom_38 (by decide) ?_
    refine va_iald hx hb hK hP 1 0 rfl rfl (vp_in_b (by decide : (1 : Int) ≤ (1 : Int32).toInt ∧ (1 : Int32).toInt ≤ 1) (by decide) (by decide)) dX10_farFrom_39 ?_
    refine lv_topi (fun z_475 e_z_475 => ?_)
    obtain rfl : z_475 = bs := e_z_475.trans hw1
    refine lv_irem hx hb dX10_farFrom_40 (ti_ne b_bs (by decide)) ?_
    refine lv_topi (fun z_476 e_z_476 => ?_)
    obtain ⟨q_z_476, b_z_476⟩ := ti_rem (hi := 15) e_z_476 rfl rfl b_y_258 b_bs (by decide)
    refine cutP (σ := Int32) (pc2 := 49) (st2 := fun v => [.int v, .int y_260]) (cells2 := 0) (slots2 := 0) (fun v ls => ((0 : Int) ≤ v.toInt ∧ v.toInt ≤ 1) ∧ lv_has ls 7 [(6, .int y_257), (5, .int y_258), (4, .int y_259), (3, .int y_260), (0, .ref o0), (1, .int a1), (2, .int a2)]) (fun v ls hI => ?_) (fun hj_49_478 => ?_)
    ·
      obtain ⟨y_478, rfl⟩ : ∃ z, z = v := ⟨_, rfl⟩
      obtain ⟨b_y_478, hl⟩ := hI
      have b_y_478 : (0 : Int) ≤ y_478.toInt ∧ y_478.toInt ≤ 1 := b_y_478
      have hl : lv_has ls 7 [(6, .int y_257), (5, .int y_258), (4, .int y_259), (3, .int y_260), (0, .ref o0), (1, .int a1), (2, .int a2)] := hl
      refine lv_iadd hx hb dX10_farFrom_49 ?_
      refine lv_topi (fun z_479 e_z_479 => ?_)
      refine lv_istore_n (lv' := [(3, .int z_479), (6, .int y_257), (5, .int y_258), (4, .int y_259), (0, .ref o0), (1, .int a1), (2, .int a2)]) hx hb dX10_farFrom_50 rfl hl (by decide) rfl (fun ls hl => ?_)
      refine lv_iload hx hb dX10_farFrom_51 (lv_at hl 3 rfl) ?_
      refine lv_aload_n hx hb dX10_farFrom_53 rfl (lv_at hl 4 rfl) ?_
      refine va_get (D := (dC, dI)) (ci := 8) (v := .ref mwo) (C := RX10) (T := TX10) (N := 33) hx hb hts iX10_farFrom_X10 hown hK hP 0 rfl rfl 1 (by decide) (hts (.fieldLink RX10 9 "LuckyTicketModel" "world" "[I") (List.mem_of_getElem? (i := 1) rfl)) (fun _ h9 => h9) rfl dX10_farFrom_54 ?_
      refine lv_iconst (v := 1) hx hb dX10_farFrom_57 (by decide) ?_
      refine va_iald hx hb hK hP 1 0 rfl rfl (vp_in_b (by decide : (1 : Int) ≤ (1 : Int32).toInt ∧ (1 : Int32).toInt ≤ 1) (by decide) (by decide)) dX10_farFrom_58 ?_
      refine lv_topi (fun z_480 e_z_480 => ?_)
      obtain rfl : z_480 = bs := e_z_480.trans hw1
      refine lv_idiv hx hb dX10_farFrom_59 (ti_ne b_bs (by decide)) ?_
      refine lv_topi (fun z_481 e_z_481 => ?_)
      obtain ⟨q_z_481, b_z_481⟩ := ti_div (hi := 19999) e_z_481 rfl rfl b_y_259 b_bs (by decide)
      refine lv_istore (lv' := [(4, .int z_481), (3, .int z_479), (6, .int y_257), (5, .int y_258), (0, .ref o0), (1, .int a1), (2, .int a2)]) hx hb dX10_farFrom_60 hl (by decide) rfl (fun ls hl => ?_)
      refine lv_iload hx hb dX10_farFrom_62 (lv_at hl 3 rfl) ?_
      refine lv_aload_n hx hb dX10_farFrom_64 rfl (lv_at hl 4 rfl) ?_
      refine va_get (D := (dC, dI)) (ci := 8) (v := .ref mwo) (C := RX10) (T := TX10) (N := 33) hx hb hts iX10_farFrom_X10 hown hK hP 0 rfl rfl 1 (by decide) (hts (.fieldLink RX10 9 "LuckyTicketModel" "world" "[I") (List.mem_of_getElem? (i := 1) rfl)) (fun _ h9 => h9) rfl dX10_farFrom_65 ?_
      refine lv_iconst (v := 1) hx hb dX10_farFrom_68 (by decide) ?_
      refine va_iald hx hb hK hP 1 0 rfl rfl (vp_in_b (by decide : (1 : Int) ≤ (1 : Int32).toInt ∧ (1 : Int32).toInt ≤ 1) (by decide) (by decide)) dX10_farFrom_69 ?_
      refine lv_topi (fun z_482 e_z_482 => ?_)
      obtain rfl : z_482 = bs := e_z_482.trans hw1
      refine lv_idiv hx hb dX10_farFrom_70 (ti_ne b_bs (by decide)) ?_
      refine lv_topi (fun z_483 e_z_483 => ?_)
      obtain ⟨q_z_483, b_z_483⟩ := ti_div (hi := 19999) e_z_483 rfl rfl b_y_258 b_bs (by decide)
      refine lv_istore (lv' := [(5, .int z_483), (4, .int z_481), (3, .int z_479), (6, .int y_257), (0, .ref o0), (1, .int a1), (2, .int a2)]) hx hb dX10_farFrom_71 hl (by decide) rfl (fun ls hl => ?_)
      obtain ⟨z_484, e_z_484⟩ : ∃ y : Int32, y = y_257 + 1 := ⟨_, rfl⟩
      refine lv_iinc (v := z_484) (lv' := [(6, .int z_484), (5, .int z_483), (4, .int z_481), (3, .int z_479), (0, .ref o0), (1, .int a1), (2, .int a2)]) hx hb dX10_farFrom_73 hl (k := 3) rfl (by rw [e_z_484]; rfl) (by decide) rfl (fun ls hl => ?_)
      obtain ⟨q_z_484, b_z_484⟩ := ti_add (lo := 1) (hi := 12) e_z_484 rfl (by decide : (1 : Int32).toInt = 1) b_y_257 (by decide : (1 : Int) ≤ (1 : Int32).toInt ∧ (1 : Int32).toInt ≤ 1) (by decide)
      refine lv_goto (tgt := 11) hx hb dX10_farFrom_76 (by decide) ?_
      exact ih_11_470 (z_484, z_483, z_481, z_479) _ ⟨(show (0 : Int) ≤ z_484.toInt ∧ z_484.toInt ≤ 12 from (rg_w b_z_484 (by decide) (by decide))), (show (0 : Int) ≤ z_483.toInt ∧ z_483.toInt ≤ 19999 from b_z_483), (show (0 : Int) ≤ z_481.toInt ∧ z_481.toInt ≤ 19999 from b_z_481), lv_sub hl [0, 1, 2, 3, 4, 5, 6] rfl⟩ (show (12 - z_484.toInt).toNat < (12 - y_257.toInt).toNat by omega)
    ·
      refine lv_icmp_ne (tgt := 48) hx hb dX10_farFrom_41 (by decide) (fun c_477 => ?_) (fun c_477 => ?_)
      ·
        have n_c_477 : (z_474.toInt : Int) ≠ z_476.toInt := c_ne rfl rfl c_477
        refine lv_iconst (v := 1) hx hb dX10_farFrom_48 (by decide) ?_
        exact hj_49_478 (1 : Int32) _ ⟨(show (0 : Int) ≤ (1 : Int32).toInt ∧ (1 : Int32).toInt ≤ 1 from (rg_w (by decide : (1 : Int) ≤ (1 : Int32).toInt ∧ (1 : Int32).toInt ≤ 1) (by decide) (by decide))), lv_sub hl [0, 1, 2, 3, 4, 5, 6] rfl⟩
      ·
        have n_c_477 : (z_474.toInt : Int) = z_476.toInt := c_eq rfl rfl c_477
        refine lv_iconst (v := 0) hx hb dX10_farFrom_44 (by decide) ?_
        refine lv_goto (tgt := 49) hx hb dX10_farFrom_45 (by decide) ?_
        exact hj_49_478 (0 : Int32) _ ⟨(show (0 : Int) ≤ (0 : Int32).toInt ∧ (0 : Int32).toInt ≤ 1 from (rg_w (by decide : (0 : Int) ≤ (0 : Int32).toInt ∧ (0 : Int32).toInt ≤ 0) (by decide) (by decide))), lv_sub hl [0, 1, 2, 3, 4, 5, 6] rfl⟩
theorem dX10_mendedOf_0 : decode cX10_mendedOf 0 = .ok (.iconst (-1), 1) := by decide +kernel
theorem dX10_mendedOf_1 : decode cX10_mendedOf 1 = .ok (.istore_n 3, 1) := by decide +kernel
theorem dX10_mendedOf_2 : decode cX10_mendedOf 2 = .ok (.bipush 13, 2) := by decide +kernel
theorem dX10_mendedOf_4 : decode cX10_mendedOf 4 = .ok (.istore 4, 2) := by decide +kernel
theorem dX10_mendedOf_6 : decode cX10_mendedOf 6 = .ok (.iconst 0, 1) := by decide +kernel
theorem dX10_mendedOf_7 : decode cX10_mendedOf 7 = .ok (.istore 5, 2) := by decide +kernel
theorem dX10_mendedOf_9 : decode cX10_mendedOf 9 = .ok (.iload 5, 2) := by decide +kernel
theorem dX10_mendedOf_11 : decode cX10_mendedOf 11 = .ok (.aload_n 0, 1) := by decide +kernel
theorem dX10_mendedOf_12 : decode cX10_mendedOf 12 = .ok (.getfield 9, 3) := by decide +kernel
theorem dX10_mendedOf_15 : decode cX10_mendedOf 15 = .ok (.iconst 2, 1) := by decide +kernel
theorem dX10_mendedOf_16 : decode cX10_mendedOf 16 = .ok (.iaload, 1) := by decide +kernel
theorem dX10_mendedOf_17 : decode cX10_mendedOf 17 = .ok (.if_icmp .ge 46, 3) := by decide +kernel
theorem dX10_mendedOf_20 : decode cX10_mendedOf 20 = .ok (.aload_n 0, 1) := by decide +kernel
theorem dX10_mendedOf_21 : decode cX10_mendedOf 21 = .ok (.iload_n 1, 1) := by decide +kernel
theorem dX10_mendedOf_22 : decode cX10_mendedOf 22 = .ok (.iload 5, 2) := by decide +kernel
theorem dX10_mendedOf_24 : decode cX10_mendedOf 24 = .ok (.invokevirtual 316, 3) := by decide +kernel
theorem dX10_mendedOf_27 : decode cX10_mendedOf 27 = .ok (.ifCond .eq 30, 3) := by decide +kernel
theorem dX10_mendedOf_30 : decode cX10_mendedOf 30 = .ok (.aload_n 0, 1) := by decide +kernel
theorem dX10_mendedOf_31 : decode cX10_mendedOf 31 = .ok (.iload 5, 2) := by decide +kernel
theorem dX10_mendedOf_33 : decode cX10_mendedOf 33 = .ok (.iload_n 2, 1) := by decide +kernel
theorem dX10_mendedOf_34 : decode cX10_mendedOf 34 = .ok (.invokevirtual 384, 3) := by decide +kernel
theorem dX10_mendedOf_37 : decode cX10_mendedOf 37 = .ok (.iload 4, 2) := by decide +kernel
theorem dX10_mendedOf_39 : decode cX10_mendedOf 39 = .ok (.if_icmp .lt 6, 3) := by decide +kernel
theorem dX10_mendedOf_42 : decode cX10_mendedOf 42 = .ok (.goto 15, 3) := by decide +kernel
theorem dX10_mendedOf_45 : decode cX10_mendedOf 45 = .ok (.iload 5, 2) := by decide +kernel
theorem dX10_mendedOf_47 : decode cX10_mendedOf 47 = .ok (.istore_n 3, 1) := by decide +kernel
theorem dX10_mendedOf_48 : decode cX10_mendedOf 48 = .ok (.aload_n 0, 1) := by decide +kernel
theorem dX10_mendedOf_49 : decode cX10_mendedOf 49 = .ok (.iload 5, 2) := by decide +kernel
theorem dX10_mendedOf_51 : decode cX10_mendedOf 51 = .ok (.iload_n 2, 1) := by decide +kernel
theorem dX10_mendedOf_52 : decode cX10_mendedOf 52 = .ok (.invokevirtual 384, 3) := by decide +kernel
theorem dX10_mendedOf_55 : decode cX10_mendedOf 55 = .ok (.istore 4, 2) := by decide +kernel
theorem dX10_mendedOf_57 : decode cX10_mendedOf 57 = .ok (.iinc 5 1, 3) := by decide +kernel
theorem dX10_mendedOf_60 : decode cX10_mendedOf 60 = .ok (.goto (-51), 3) := by decide +kernel
theorem dX10_mendedOf_63 : decode cX10_mendedOf 63 = .ok (.iload_n 3, 1) := by decide +kernel
theorem dX10_mendedOf_64 : decode cX10_mendedOf 64 = .ok (.ireturn, 1) := by decide +kernel
def uX10_mendedOf : List Cond := .code yX10_mendedOf cX10_mendedOf 6 (some .int) :: ([.fieldLink RX10 9 "LuckyTicketModel" "world" "[I", .methodLink RX10 316 yX10_isLucky, .instanceMethod yX10_isLucky, .selects RX10 yX10_isLucky yX10_isLucky, .initialized RX10, .code yX10_isLucky cX10_isLucky 3 (some .boolean), .fieldLink RX10 20 "LuckyTicketModel" "luck" "[I", .methodLink RX10 384 yX10_farFrom, .instanceMethod yX10_farFrom, .selects RX10 yX10_farFrom yX10_farFrom, .code yX10_farFrom cX10_farFrom 7 (some .int)] ++ wsX100)
theorem iX10_mendedOf_X10 : ∀ w ∈ wsX100, w ∈ uX10_mendedOf := fun _ h => List.mem_cons_of_mem _ (List.mem_append_right _ h)
set_option maxRecDepth 20000 in
theorem gX10_mendedOf__X10_isLucky_V316 : GoodIn uX10_mendedOf (wsV RX10 316 RX10 yX10_isLucky uX10_isLucky) := goodIn_p _ [6] rfl (by decide +kernel)
set_option maxRecDepth 20000 in
theorem gX10_mendedOf__X10_farFrom_V384 : GoodIn uX10_mendedOf (wsV RX10 384 RX10 yX10_farFrom uX10_farFrom) := goodIn_p _ [11] rfl (by decide +kernel)
set_option maxHeartbeats 4000000 in
set_option maxRecDepth 100000 in
theorem kX10_mendedOf (l : Launch) (dC : Nat → ClassId) (dI : Nat → Nat → Nat) (o0 : Nat) (x_th : Int32) (mwo : Nat) (mim : Nat) (mhi : Nat) (mlu : Nat) (mtp : Nat) (x_td : Int32) (mfv : Nat) (x_sz : Int32) (x_at : Int32) (x_fr : Int32) (x_to : Int32) (x_va : Int32) (x_fk : Int32) (x_fp : Int32) (mfr : Nat) (mwt : Nat) (x_wt : Int32) (x_op : Int32) (x_jo : Int32) (mfg : Nat) (mpl : Nat) (x_dr : Int64) (mtm : Nat) (mfa : Nat) (mqu : Nat) (mmo : Nat) (mwy : Nat) (mwn : Nat) (mma : Nat) (mwi : Nat) (mnu : Nat) (mmv : Nat) (c_wo : ClassId) (c_lu : ClassId) (w_wo : Nat → Int32) (w_lu : Nat → Int32) (ln : Int32) (bs : Int32) (tk : Int32) (lw : Int32) (li : Int32) (a1 : Int32) (a2 : Int32) (b_ln : (0 : Int) ≤ ln.toInt ∧ ln.toInt ≤ 12) (b_bs : (0 : Int) ≤ bs.toInt ∧ bs.toInt ≤ 16) (b_tk : (0 : Int) ≤ tk.toInt ∧ tk.toInt ≤ 20000) (b_lw : (0 : Int) ≤ lw.toInt ∧ lw.toInt ≤ 9) (b_a2 : (0 : Int) ≤ a2.toInt ∧ a2.toInt ≤ 19999) (hw0 : w_wo 0 = ln) (hw1 : w_wo 1 = bs) (hw2 : w_wo 2 = tk) (hw3 : w_wo 3 = lw) (hw4 : w_wo 4 = li) (hwz : (ln.toInt = 0 ∧ bs.toInt = 0 ∧ tk.toInt = 0 ∧ lw.toInt = 0) ∨ (1 ≤ ln.toInt ∧ 2 ≤ bs.toInt ∧ 1 ≤ tk.toInt)) : Met l yX10_mendedOf uX10_mendedOf ({ frames := 1, cells := 0, slots := 0, locals := 26 }) (va_Pc [.ref o0, .int a1, .int a2] (pw (dC, dI) vwCl [(o0, .inr (8, [.int x_th, .ref mwo, .ref mim, .ref mhi, .ref mlu, .ref mtp, .int x_td, .ref mfv, .int x_sz, .int x_at, .int x_fr, .int x_to, .int x_va, .int x_fk, .int x_fp, .ref mfr, .ref mwt, .int x_wt, .int x_op, .int x_jo, .ref mfg, .ref mpl, .long x_dr, .ref mtm, .ref mfa, .ref mqu, .ref mmo, .ref mwy, .ref mwn, .ref mma, .ref mwi, .ref mnu, .ref mmv])), (mwo, .inl (c_wo, 1875, .inl w_wo)), (mlu, .inl (c_lu, 20000, .inl w_lu))] [(c_wo, .int), (c_lu, .int)])) (vp_Si (fun r => ((-1 : Int) ≤ r.toInt ∧ r.toInt ≤ 19999))) 0 0 (fun _ => False) := by
  refine Met.ofW (cc := cX10_mendedOf) (maxL := 6) (ret := (some .int)) (by decide) rfl ?_
  intro p e s m args below meth c s₁ B hml hv
  obtain ⟨rfl, hP, hK, hN⟩ := hv
  have hx := B.exec
  have hb := B.bytes
  have hr := B.returns
  have hts := atoms_spec (ws := uX10_mendedOf) B.pre
  have hown : s.vm.findClass RX10 = some m.cls := findClass_of_methodNamed B.named
  have hlocks := B.notSynchronized
  have hl := lv_entry ([.ref o0, .int a1, .int a2]) (n := 6) (Nat.le_of_ble_eq_true rfl)
  rw [lg_entry_eq]
  generalize (lg_sl ([.ref o0, .int a1, .int a2]) ++ List.replicate (6 - (lg_sl ([.ref o0, .int a1, .int a2])).length) Slot.unset).toArray = ls at hl ⊢
  have hl : lv_has ls 6 [(0, .ref o0), (1, .int a1), (2, .int a2)] := hl
  refine lv_iconst (v := (-1)) hx hb dX10_mendedOf_0 (by decide) ?_
  refine lv_istore_n (lv' := [(3, .int (-1)), (0, .ref o0), (1, .int a1), (2, .int a2)]) hx hb dX10_mendedOf_1 rfl hl (by decide) rfl (fun ls hl => ?_)
  refine lv_bipush (v := 13) hx hb dX10_mendedOf_2 (by decide) ?_
  refine lv_istore (lv' := [(4, .int 13), (3, .int (-1)), (0, .ref o0), (1, .int a1), (2, .int a2)]) hx hb dX10_mendedOf_4 hl (by decide) rfl (fun ls hl => ?_)
  refine lv_iconst (v := 0) hx hb dX10_mendedOf_6 (by decide) ?_
  refine lv_istore (lv' := [(5, .int 0), (4, .int 13), (3, .int (-1)), (0, .ref o0), (1, .int a1), (2, .int a2)]) hx hb dX10_mendedOf_7 hl (by decide) rfl (fun ls hl => ?_)
  refine loopP (σ := Int32 × Int32 × Int32) (fun v => (20000 - v.1.toInt).toNat) (fun v ls => ((0 : Int) ≤ v.1.toInt ∧ v.1.toInt ≤ 20000) ∧ ((-1 : Int) ≤ v.2.2.toInt ∧ v.2.2.toInt ≤ 19999) ∧ lv_has ls 6 [(5, .int v.1), (4, .int v.2.1), (3, .int v.2.2), (0, .ref o0), (1, .int a1), (2, .int a2)]) (fun v ls hI ih_9_331 => ?_) ((0 : Int32), (13 : Int32), (-1 : Int32)) ⟨(show (0 : Int) ≤ (0 : Int32).toInt ∧ (0 : Int32).toInt ≤ 20000 from (rg_w (by decide : (0 : Int) ≤ (0 : Int32).toInt ∧ (0 : Int32).toInt ≤ 0) (by decide) (by decide))), (show (-1 : Int) ≤ (-1 : Int32).toInt ∧ (-1 : Int32).toInt ≤ 19999 from (rg_w (by decide : (-1 : Int) ≤ ((-1) : Int32).toInt ∧ ((-1) : Int32).toInt ≤ -1) (by decide) (by decide))), lv_sub hl [0, 1, 2, 3, 4, 5] rfl⟩
  obtain ⟨y_186, y_187, y_188⟩ := v
  obtain ⟨b_y_186, b_y_188, hl⟩ := hI
  have b_y_186 : (0 : Int) ≤ y_186.toInt ∧ y_186.toInt ≤ 20000 := b_y_186
  have b_y_188 : (-1 : Int) ≤ y_188.toInt ∧ y_188.toInt ≤ 19999 := b_y_188
  have hl : lv_has ls 6 [(5, .int y_186), (4, .int y_187), (3, .int y_188), (0, .ref o0), (1, .int a1), (2, .int a2)] := hl
  refine lv_iload hx hb dX10_mendedOf_9 (lv_at hl 0 rfl) ?_
  refine lv_aload_n hx hb dX10_mendedOf_11 rfl (lv_at hl 3 rfl) ?_
  refine va_get (D := (dC, dI)) (ci := 8) (v := .ref mwo) (C := RX10) (T := TX10) (N := 33) hx hb hts iX10_mendedOf_X10 hown hK hP 0 rfl rfl 1 (by decide) (hts (.fieldLink RX10 9 "LuckyTicketModel" "world" "[I") (List.mem_of_getElem? (i := 1) rfl)) (fun _ h9 => h9) rfl dX10_mendedOf_12 ?_
  refine lv_iconst (v := 2) hx hb dX10_mendedOf_15 (by decide) ?_
  refine va_iald hx hb hK hP 1 0 rfl rfl (vp_in_b (by decide : (2 : Int) ≤ (2 : Int32).toInt ∧ (2 : Int32).toInt ≤ 2) (by decide) (by decide)) dX10_mendedOf_16 ?_
  refine lv_topi (fun z_332 e_z_332 => ?_)
  obtain rfl : z_332 = tk := e_z_332.trans hw2
  refine lv_icmp_ge (tgt := 63) hx hb dX10_mendedOf_17 (by decide) (fun c_333 => ?_) (fun c_333 => ?_)
  ·
    have n_c_333 : (tk.toInt : Int) ≤ y_186.toInt := c_ge rfl rfl c_333
    refine lv_iload_n hx hb dX10_mendedOf_63 rfl (lv_at hl 2 rfl) ?_
    exact W.iret (v := y_188) hx hb hr (fun t ht hW => ⟨y_188, rfl, b_y_188, ht⟩) t_nil dX10_mendedOf_64
  ·
    have n_c_333 : (y_186.toInt : Int) < tk.toInt := c_nge rfl rfl c_333
    have b_y_186 : (0 : Int) ≤ y_186.toInt ∧ y_186.toInt ≤ 19999 := r_lt1 b_y_186 b_tk n_c_333 (by decide)
    have b_tk : (1 : Int) ≤ tk.toInt ∧ tk.toInt ≤ 20000 := r_lt2 b_y_186 b_tk n_c_333 (by decide)
    refine lv_aload_n hx hb dX10_mendedOf_20 rfl (lv_at hl 3 rfl) ?_
    refine lv_iload_n hx hb dX10_mendedOf_21 rfl (lv_at hl 4 rfl) ?_
    refine lv_iload hx hb dX10_mendedOf_22 (lv_at hl 0 rfl) ?_
    refine vp_callSi (W.runV (As := [.int a1, .int y_186]) (rest := []) ⟨hx, hb, hml, hown, hts⟩ (kX10_isLucky l dC dI o0 x_th mwo mim mhi mlu mtp x_td mfv x_sz x_at x_fr x_to x_va x_fk x_fp mfr mwt x_wt x_op x_jo mfg mpl x_dr mtm mfa mqu mmo mwy mwn mma mwi mnu mmv c_wo c_lu w_wo w_lu ln bs tk lw li a1 y_186 b_ln b_bs (rg_w b_tk (by decide) (by decide)) b_lw b_y_186 (hw0) (hw1) (hw2) (hw3) (hw4) (hwz)) (cwV 2 hts gX10_mendedOf__X10_isLucky_V316 rfl rfl rfl (by decide +kernel) ⟨lel 1 1 rfl, lel 22 26 rfl⟩) ⟨pw_fb, va_recv hK hP (ci := 8) (q0 := 0) rfl rfl, (pw_use hP hK hN [0, 1, 2] rfl [0, 1] rfl)⟩ rfl rfl hl.1 rfl (lv_room (Nat.le_of_ble_eq_true rfl)) dX10_mendedOf_24 ⟨lel 0 0 rfl, lel 0 0 rfl⟩) (fun r_334 h_r_334 => ?_)
    have b_r_334 := h_r_334
    have b_r_334 : (0 : Int) ≤ r_334.toInt ∧ r_334.toInt ≤ 1 := b_r_334
    refine cutP (σ := Int32 × Int32) (pc2 := 57) (st2 := fun v => []) (cells2 := 0) (slots2 := 0) (fun v ls => ((-1 : Int) ≤ v.2.toInt ∧ v.2.toInt ≤ 19999) ∧ lv_has ls 6 [(5, .int y_186), (4, .int v.1), (3, .int v.2), (0, .ref o0), (1, .int a1), (2, .int a2)]) (fun v ls hI => ?_) (fun hj_57_340 => ?_)
    ·
      obtain ⟨y_339, y_340⟩ := v
      obtain ⟨b_y_340, hl⟩ := hI
      have b_y_340 : (-1 : Int) ≤ y_340.toInt ∧ y_340.toInt ≤ 19999 := b_y_340
      have hl : lv_has ls 6 [(5, .int y_186), (4, .int y_339), (3, .int y_340), (0, .ref o0), (1, .int a1), (2, .int a2)] := hl
      obtain ⟨z_341, e_z_341⟩ : ∃ y : Int32, y = y_186 + 1 := ⟨_, rfl⟩
      refine lv_iinc (v := z_341) (lv' := [(5, .int z_341), (4, .int y_339), (3, .int y_340), (0, .ref o0), (1, .int a1), (2, .int a2)]) hx hb dX10_mendedOf_57 hl (k := 0) rfl (by rw [e_z_341]; rfl) (by decide) rfl (fun ls hl => ?_)
      obtain ⟨q_z_341, b_z_341⟩ := ti_add (lo := 1) (hi := 20000) e_z_341 rfl (by decide : (1 : Int32).toInt = 1) b_y_186 (by decide : (1 : Int) ≤ (1 : Int32).toInt ∧ (1 : Int32).toInt ≤ 1) (by decide)
      refine lv_goto (tgt := 9) hx hb dX10_mendedOf_60 (by decide) ?_
      exact ih_9_331 (z_341, y_339, y_340) _ ⟨(show (0 : Int) ≤ z_341.toInt ∧ z_341.toInt ≤ 20000 from (rg_w b_z_341 (by decide) (by decide))), (show (-1 : Int) ≤ y_340.toInt ∧ y_340.toInt ≤ 19999 from b_y_340), lv_sub hl [0, 1, 2, 3, 4, 5] rfl⟩ (show (20000 - z_341.toInt).toNat < (20000 - y_186.toInt).toNat by omega)
    ·
      refine lv_if_eq (tgt := 57) hx hb dX10_mendedOf_27 (by decide) (fun c_335 => ?_) (fun c_335 => ?_)
      ·
        have n_c_335 : (r_334.toInt : Int) = 0 := c_eq rfl (by decide) c_335
        have b_r_334 : (0 : Int) ≤ r_334.toInt ∧ r_334.toInt ≤ 0 := r_eq1 b_r_334 (by decide : (0 : Int) ≤ (0 : Int32).toInt ∧ (0 : Int32).toInt ≤ 0) n_c_335 (by decide)
        exact hj_57_340 (y_187, y_188) _ ⟨(show (-1 : Int) ≤ y_188.toInt ∧ y_188.toInt ≤ 19999 from b_y_188), lv_sub hl [0, 1, 2, 3, 4, 5] rfl⟩
      ·
        have n_c_335 : (r_334.toInt : Int) ≠ 0 := c_ne rfl (by decide) c_335
        have b_r_334 : (1 : Int) ≤ r_334.toInt ∧ r_334.toInt ≤ 1 := r_ne1 b_r_334 (by decide : (0 : Int) ≤ (0 : Int32).toInt ∧ (0 : Int32).toInt ≤ 0) n_c_335 (by decide)
        refine lv_aload_n hx hb dX10_mendedOf_30 rfl (lv_at hl 3 rfl) ?_
        refine lv_iload hx hb dX10_mendedOf_31 (lv_at hl 0 rfl) ?_
        refine lv_iload_n hx hb dX10_mendedOf_33 rfl (lv_at hl 5 rfl) ?_
        refine vp_callSi (W.runV (As := [.int y_186, .int a2]) (rest := []) ⟨hx, hb, hml, hown, hts⟩ (kX10_farFrom l dC dI o0 x_th mwo mim mhi mlu mtp x_td mfv x_sz x_at x_fr x_to x_va x_fk x_fp mfr mwt x_wt x_op x_jo mfg mpl x_dr mtm mfa mqu mmo mwy mwn mma mwi mnu mmv c_wo w_wo ln bs tk lw li y_186 a2 b_ln b_bs (rg_w b_tk (by decide) (by decide)) b_lw b_y_186 b_a2 (hw0) (hw1) (hw2) (hw3) (hw4) (hwz)) (cwV 2 hts gX10_mendedOf__X10_farFrom_V384 rfl rfl rfl (by decide +kernel) ⟨lel 1 1 rfl, lel 26 26 rfl⟩) ⟨pw_fb, va_recv hK hP (ci := 8) (q0 := 0) rfl rfl, (pw_use hP hK hN [0, 1] rfl [0] rfl)⟩ rfl rfl hl.1 rfl (lv_room (Nat.le_of_ble_eq_true rfl)) dX10_mendedOf_34 ⟨lel 0 0 rfl, lel 0 0 rfl⟩) (fun r_342 h_r_342 => ?_)
        refine lv_iload hx hb dX10_mendedOf_37 (lv_at hl 1 rfl) ?_
        refine lv_icmp_lt (tgt := 45) hx hb dX10_mendedOf_39 (by decide) (fun c_343 => ?_) (fun c_343 => ?_)
        ·
          have n_c_343 : (r_342.toInt : Int) < y_187.toInt := c_lt rfl rfl c_343
          have b_r_342 : (-2147483648 : Int) ≤ r_342.toInt ∧ r_342.toInt ≤ 2147483646 := r_lt1 (ti_rng r_342) (ti_rng y_187) n_c_343 (by decide)
          have b_y_187 : (-2147483647 : Int) ≤ y_187.toInt ∧ y_187.toInt ≤ 2147483647 := r_lt2 (ti_rng r_342) (ti_rng y_187) n_c_343 (by decide)
          refine lv_iload hx hb dX10_mendedOf_45 (lv_at hl 0 rfl) ?_
          refine lv_istore_n (lv' := [(3, .int y_186), (5, .int y_186), (4, .int y_187), (0, .ref o0), (1, .int a1), (2, .int a2)]) hx hb dX10_mendedOf_47 rfl hl (by decide) rfl (fun ls hl => ?_)
          refine lv_aload_n hx hb dX10_mendedOf_48 rfl (lv_at hl 3 rfl) ?_
          refine lv_iload hx hb dX10_mendedOf_49 (lv_at hl 1 rfl) ?_
          refine lv_iload_n hx hb dX10_mendedOf_51 rfl (lv_at hl 5 rfl) ?_
          refine vp_callSi (W.runV (As := [.int y_186, .int a2]) (rest := []) ⟨hx, hb, hml, hown, hts⟩ (kX10_farFrom l dC dI o0 x_th mwo mim mhi mlu mtp x_td mfv x_sz x_at x_fr x_to x_va x_fk x_fp mfr mwt x_wt x_op x_jo mfg mpl x_dr mtm mfa mqu mmo mwy mwn mma mwi mnu mmv c_wo w_wo ln bs tk lw li y_186 a2 b_ln b_bs (rg_w b_tk (by decide) (by decide)) b_lw b_y_186 b_a2 (hw0) (hw1) (hw2) (hw3) (hw4) (hwz)) (cwV 2 hts gX10_mendedOf__X10_farFrom_V384 rfl rfl rfl (by decide +kernel) ⟨lel 1 1 rfl, lel 26 26 rfl⟩) ⟨pw_fb, va_recv hK hP (ci := 8) (q0 := 0) rfl rfl, (pw_use hP hK hN [0, 1] rfl [0] rfl)⟩ rfl rfl hl.1 rfl (lv_room (Nat.le_of_ble_eq_true rfl)) dX10_mendedOf_52 ⟨lel 0 0 rfl, lel 0 0 rfl⟩) (fun r_344 h_r_344 => ?_)
          refine lv_istore (lv' := [(4, .int r_344), (3, .int y_186), (5, .int y_186), (0, .ref o0), (1, .int a1), (2, .int a2)]) hx hb dX10_mendedOf_55 hl (by decide) rfl (fun ls hl => ?_)
          exact hj_57_340 (r_344, y_186) _ ⟨(show (-1 : Int) ≤ y_186.toInt ∧ y_186.toInt ≤ 19999 from (rg_w b_y_186 (by decide) (by decide))), lv_sub hl [2, 0, 1, 3, 4, 5] rfl⟩
        ·
          have n_c_343 : (y_187.toInt : Int) ≤ r_342.toInt := c_nlt rfl rfl c_343
          refine lv_goto (tgt := 57) hx hb dX10_mendedOf_42 (by decide) ?_
          exact hj_57_340 (y_187, y_188) _ ⟨(show (-1 : Int) ≤ y_188.toInt ∧ y_188.toInt ≤ 19999 from b_y_188), lv_sub hl [0, 1, 2, 3, 4, 5] rfl⟩
theorem dX10_mend_0 : decode cX10_mend 0 = .ok (.aload_n 0, 1) := by decide +kernel
theorem dX10_mend_1 : decode cX10_mend 1 = .ok (.iload_n 1, 1) := by decide +kernel
theorem dX10_mend_2 : decode cX10_mend 2 = .ok (.iload_n 2, 1) := by decide +kernel
theorem dX10_mend_3 : decode cX10_mend 3 = .ok (.invokevirtual 313, 3) := by decide +kernel
theorem dX10_mend_6 : decode cX10_mend 6 = .ok (.ifCond .ne 6, 3) := by decide +kernel
theorem dX10_mend_9 : decode cX10_mend 9 = .ok (.bipush (-2), 2) := by decide +kernel
theorem dX10_mend_11 : decode cX10_mend 11 = .ok (.ireturn, 1) := by decide +kernel
theorem dX10_mend_12 : decode cX10_mend 12 = .ok (.aload_n 0, 1) := by decide +kernel
theorem dX10_mend_13 : decode cX10_mend 13 = .ok (.iload_n 1, 1) := by decide +kernel
theorem dX10_mend_14 : decode cX10_mend 14 = .ok (.iload_n 2, 1) := by decide +kernel
theorem dX10_mend_15 : decode cX10_mend 15 = .ok (.invokevirtual 387, 3) := by decide +kernel
theorem dX10_mend_18 : decode cX10_mend 18 = .ok (.istore_n 3, 1) := by decide +kernel
theorem dX10_mend_19 : decode cX10_mend 19 = .ok (.iload_n 3, 1) := by decide +kernel
theorem dX10_mend_20 : decode cX10_mend 20 = .ok (.iconst (-1), 1) := by decide +kernel
theorem dX10_mend_21 : decode cX10_mend 21 = .ok (.if_icmp .ne 7, 3) := by decide +kernel
theorem dX10_mend_24 : decode cX10_mend 24 = .ok (.iconst (-1), 1) := by decide +kernel
theorem dX10_mend_25 : decode cX10_mend 25 = .ok (.goto 9, 3) := by decide +kernel
theorem dX10_mend_28 : decode cX10_mend 28 = .ok (.aload_n 0, 1) := by decide +kernel
theorem dX10_mend_29 : decode cX10_mend 29 = .ok (.iload_n 3, 1) := by decide +kernel
theorem dX10_mend_30 : decode cX10_mend 30 = .ok (.iload_n 2, 1) := by decide +kernel
theorem dX10_mend_31 : decode cX10_mend 31 = .ok (.invokevirtual 384, 3) := by decide +kernel
theorem dX10_mend_34 : decode cX10_mend 34 = .ok (.ireturn, 1) := by decide +kernel
def uX10_mend : List Cond := .code yX10_mend cX10_mend 4 (some .int) :: ([.methodLink RX10 313 yX10_isBoth, .instanceMethod yX10_isBoth, .selects RX10 yX10_isBoth yX10_isBoth, .initialized RX10, .code yX10_isBoth cX10_isBoth 3 (some .boolean), .methodLink RX10 89 yX10_isLaw, .instanceMethod yX10_isLaw, .selects RX10 yX10_isLaw yX10_isLaw, .code yX10_isLaw cX10_isLaw 2 (some .boolean), .fieldLink RX10 9 "LuckyTicketModel" "world" "[I", .methodLink RX10 82 yX10_in, .static yX10_in, .code yX10_in cX10_in 6 (some .boolean), .methodLink RX10 93 yX10_isTicket, .instanceMethod yX10_isTicket, .selects RX10 yX10_isTicket yX10_isTicket, .code yX10_isTicket cX10_isTicket 3 (some .boolean), .methodLink RX10 387 yX10_mendedOf, .instanceMethod yX10_mendedOf, .selects RX10 yX10_mendedOf yX10_mendedOf, .code yX10_mendedOf cX10_mendedOf 6 (some .int), .methodLink RX10 316 yX10_isLucky, .instanceMethod yX10_isLucky, .selects RX10 yX10_isLucky yX10_isLucky, .code yX10_isLucky cX10_isLucky 3 (some .boolean), .fieldLink RX10 20 "LuckyTicketModel" "luck" "[I", .methodLink RX10 384 yX10_farFrom, .instanceMethod yX10_farFrom, .selects RX10 yX10_farFrom yX10_farFrom, .code yX10_farFrom cX10_farFrom 7 (some .int)] ++ wsX100)
theorem iX10_mend_X10 : ∀ w ∈ wsX100, w ∈ uX10_mend := fun _ h => List.mem_cons_of_mem _ (List.mem_append_right _ h)
set_option maxRecDepth 20000 in
theorem gX10_mend__X10_isBoth_V313 : GoodIn uX10_mend (wsV RX10 313 RX10 yX10_isBoth uX10_isBoth) := goodIn_p _ [5, 9, 13, 17] rfl (by decide +kernel)
set_option maxRecDepth 20000 in
theorem gX10_mend__X10_mendedOf_V387 : GoodIn uX10_mend (wsV RX10 387 RX10 yX10_mendedOf uX10_mendedOf) := goodIn_p _ [21, 25, 30] rfl (by decide +kernel)
set_option maxRecDepth 20000 in
theorem gX10_mend__X10_farFrom_V384 : GoodIn uX10_mend (wsV RX10 384 RX10 yX10_farFrom uX10_farFrom) := goodIn_p _ [30] rfl (by decide +kernel)
set_option maxHeartbeats 4000000 in
set_option maxRecDepth 100000 in
theorem kX10_mend (l : Launch) (dC : Nat → ClassId) (dI : Nat → Nat → Nat) (o0 : Nat) (x_th : Int32) (mwo : Nat) (mim : Nat) (mhi : Nat) (mlu : Nat) (mtp : Nat) (x_td : Int32) (mfv : Nat) (x_sz : Int32) (x_at : Int32) (x_fr : Int32) (x_to : Int32) (x_va : Int32) (x_fk : Int32) (x_fp : Int32) (mfr : Nat) (mwt : Nat) (x_wt : Int32) (x_op : Int32) (x_jo : Int32) (mfg : Nat) (mpl : Nat) (x_dr : Int64) (mtm : Nat) (mfa : Nat) (mqu : Nat) (mmo : Nat) (mwy : Nat) (mwn : Nat) (mma : Nat) (mwi : Nat) (mnu : Nat) (mmv : Nat) (c_wo : ClassId) (c_lu : ClassId) (w_wo : Nat → Int32) (w_lu : Nat → Int32) (ln : Int32) (bs : Int32) (tk : Int32) (lw : Int32) (li : Int32) (a1 : Int32) (a2 : Int32) (b_ln : (0 : Int) ≤ ln.toInt ∧ ln.toInt ≤ 12) (b_bs : (0 : Int) ≤ bs.toInt ∧ bs.toInt ≤ 16) (b_tk : (0 : Int) ≤ tk.toInt ∧ tk.toInt ≤ 20000) (b_lw : (0 : Int) ≤ lw.toInt ∧ lw.toInt ≤ 9) (hw0 : w_wo 0 = ln) (hw1 : w_wo 1 = bs) (hw2 : w_wo 2 = tk) (hw3 : w_wo 3 = lw) (hw4 : w_wo 4 = li) (hwz : (ln.toInt = 0 ∧ bs.toInt = 0 ∧ tk.toInt = 0 ∧ lw.toInt = 0) ∨ (1 ≤ ln.toInt ∧ 2 ≤ bs.toInt ∧ 1 ≤ tk.toInt)) : Met l yX10_mend uX10_mend ({ frames := 3, cells := 0, slots := 0, locals := 69 }) (va_Pc [.ref o0, .int a1, .int a2] (pw (dC, dI) vwCl [(o0, .inr (8, [.int x_th, .ref mwo, .ref mim, .ref mhi, .ref mlu, .ref mtp, .int x_td, .ref mfv, .int x_sz, .int x_at, .int x_fr, .int x_to, .int x_va, .int x_fk, .int x_fp, .ref mfr, .ref mwt, .int x_wt, .int x_op, .int x_jo, .ref mfg, .ref mpl, .long x_dr, .ref mtm, .ref mfa, .ref mqu, .ref mmo, .ref mwy, .ref mwn, .ref mma, .ref mwi, .ref mnu, .ref mmv])), (mwo, .inl (c_wo, 1875, .inl w_wo)), (mlu, .inl (c_lu, 20000, .inl w_lu))] [(c_wo, .int), (c_lu, .int)])) (vp_Si (fun r => True)) 0 0 (fun _ => False) := by
  refine Met.ofW (cc := cX10_mend) (maxL := 4) (ret := (some .int)) (by decide) rfl ?_
  intro p e s m args below meth c s₁ B hml hv
  obtain ⟨rfl, hP, hK, hN⟩ := hv
  have hx := B.exec
  have hb := B.bytes
  have hr := B.returns
  have hts := atoms_spec (ws := uX10_mend) B.pre
  have hown : s.vm.findClass RX10 = some m.cls := findClass_of_methodNamed B.named
  have hlocks := B.notSynchronized
  have hl := lv_entry ([.ref o0, .int a1, .int a2]) (n := 4) (Nat.le_of_ble_eq_true rfl)
  rw [lg_entry_eq]
  generalize (lg_sl ([.ref o0, .int a1, .int a2]) ++ List.replicate (4 - (lg_sl ([.ref o0, .int a1, .int a2])).length) Slot.unset).toArray = ls at hl ⊢
  have hl : lv_has ls 4 [(0, .ref o0), (1, .int a1), (2, .int a2)] := hl
  refine lv_aload_n hx hb dX10_mend_0 rfl (lv_at hl 0 rfl) ?_
  refine lv_iload_n hx hb dX10_mend_1 rfl (lv_at hl 1 rfl) ?_
  refine lv_iload_n hx hb dX10_mend_2 rfl (lv_at hl 2 rfl) ?_
  refine vp_callSi (W.runV (As := [.int a1, .int a2]) (rest := []) ⟨hx, hb, hml, hown, hts⟩ (kX10_isBoth l dC dI o0 x_th mwo mim mhi mlu mtp x_td mfv x_sz x_at x_fr x_to x_va x_fk x_fp mfr mwt x_wt x_op x_jo mfg mpl x_dr mtm mfa mqu mmo mwy mwn mma mwi mnu mmv c_wo w_wo ln bs tk lw li a1 a2 b_ln b_bs b_tk b_lw (hw0) (hw1) (hw2) (hw3) (hw4) (hwz)) (cwV 2 hts gX10_mend__X10_isBoth_V313 rfl rfl rfl (by decide +kernel) ⟨lel 3 3 rfl, lel 69 69 rfl⟩) ⟨pw_fb, va_recv hK hP (ci := 8) (q0 := 0) rfl rfl, (pw_use hP hK hN [0, 1] rfl [0] rfl)⟩ rfl rfl hl.1 rfl (lv_room (Nat.le_of_ble_eq_true rfl)) dX10_mend_3 ⟨lel 0 0 rfl, lel 0 0 rfl⟩) (fun r_7 h_r_7 => ?_)
  obtain ⟨b_r_7, nz_r_7⟩ := h_r_7
  have b_r_7 : (0 : Int) ≤ r_7.toInt ∧ r_7.toInt ≤ 1 := b_r_7
  refine lv_if_ne (tgt := 12) hx hb dX10_mend_6 (by decide) (fun c_8 => ?_) (fun c_8 => ?_)
  ·
    have n_c_8 : (r_7.toInt : Int) ≠ 0 := c_ne rfl (by decide) c_8
    have b_r_7 : (1 : Int) ≤ r_7.toInt ∧ r_7.toInt ≤ 1 := r_ne1 b_r_7 (by decide : (0 : Int) ≤ (0 : Int32).toInt ∧ (0 : Int32).toInt ≤ 0) n_c_8 (by decide)
    obtain ⟨b_a1, b_a2, g_9⟩ := nz_r_7 c_8
    refine lv_aload_n hx hb dX10_mend_12 rfl (lv_at hl 0 rfl) ?_
    refine lv_iload_n hx hb dX10_mend_13 rfl (lv_at hl 1 rfl) ?_
    refine lv_iload_n hx hb dX10_mend_14 rfl (lv_at hl 2 rfl) ?_
    refine vp_callSi (W.runV (As := [.int a1, .int a2]) (rest := []) ⟨hx, hb, hml, hown, hts⟩ (kX10_mendedOf l dC dI o0 x_th mwo mim mhi mlu mtp x_td mfv x_sz x_at x_fr x_to x_va x_fk x_fp mfr mwt x_wt x_op x_jo mfg mpl x_dr mtm mfa mqu mmo mwy mwn mma mwi mnu mmv c_wo c_lu w_wo w_lu ln bs tk lw li a1 a2 b_ln b_bs b_tk b_lw b_a2 (hw0) (hw1) (hw2) (hw3) (hw4) (hwz)) (cwV 2 hts gX10_mend__X10_mendedOf_V387 rfl rfl rfl (by decide +kernel) ⟨lel 2 3 rfl, lel 51 69 rfl⟩) ⟨pw_fb, va_recv hK hP (ci := 8) (q0 := 0) rfl rfl, (pw_use hP hK hN [0, 1, 2] rfl [0, 1] rfl)⟩ rfl rfl hl.1 rfl (lv_room (Nat.le_of_ble_eq_true rfl)) dX10_mend_15 ⟨lel 0 0 rfl, lel 0 0 rfl⟩) (fun r_10 h_r_10 => ?_)
    have b_r_10 := h_r_10
    have b_r_10 : (-1 : Int) ≤ r_10.toInt ∧ r_10.toInt ≤ 19999 := b_r_10
    refine lv_istore_n (lv' := [(3, .int r_10), (0, .ref o0), (1, .int a1), (2, .int a2)]) hx hb dX10_mend_18 rfl hl (by decide) rfl (fun ls hl => ?_)
    refine lv_iload_n hx hb dX10_mend_19 rfl (lv_at hl 0 rfl) ?_
    refine lv_iconst (v := (-1)) hx hb dX10_mend_20 (by decide) ?_
    refine lv_icmp_ne (tgt := 28) hx hb dX10_mend_21 (by decide) (fun c_11 => ?_) (fun c_11 => ?_)
    ·
      have n_c_11 : (r_10.toInt : Int) ≠ (-1) := c_ne rfl (by decide) c_11
      have b_r_10 : (0 : Int) ≤ r_10.toInt ∧ r_10.toInt ≤ 19999 := r_ne1 b_r_10 (by decide : (-1 : Int) ≤ ((-1) : Int32).toInt ∧ ((-1) : Int32).toInt ≤ -1) n_c_11 (by decide)
      refine lv_aload_n hx hb dX10_mend_28 rfl (lv_at hl 1 rfl) ?_
      refine lv_iload_n hx hb dX10_mend_29 rfl (lv_at hl 0 rfl) ?_
      refine lv_iload_n hx hb dX10_mend_30 rfl (lv_at hl 3 rfl) ?_
      refine vp_callSi (W.runV (As := [.int r_10, .int a2]) (rest := []) ⟨hx, hb, hml, hown, hts⟩ (kX10_farFrom l dC dI o0 x_th mwo mim mhi mlu mtp x_td mfv x_sz x_at x_fr x_to x_va x_fk x_fp mfr mwt x_wt x_op x_jo mfg mpl x_dr mtm mfa mqu mmo mwy mwn mma mwi mnu mmv c_wo w_wo ln bs tk lw li r_10 a2 b_ln b_bs b_tk b_lw b_r_10 b_a2 (hw0) (hw1) (hw2) (hw3) (hw4) (hwz)) (cwV 2 hts gX10_mend__X10_farFrom_V384 rfl rfl rfl (by decide +kernel) ⟨lel 1 3 rfl, lel 26 69 rfl⟩) ⟨pw_fb, va_recv hK hP (ci := 8) (q0 := 0) rfl rfl, (pw_use hP hK hN [0, 1] rfl [0] rfl)⟩ rfl rfl hl.1 rfl (lv_room (Nat.le_of_ble_eq_true rfl)) dX10_mend_31 ⟨lel 0 0 rfl, lel 0 0 rfl⟩) (fun r_12 h_r_12 => ?_)
      exact W.iret (v := r_12) hx hb hr (fun t ht hW => ⟨r_12, rfl, trivial, ht⟩) t_nil dX10_mend_34
    ·
      have n_c_11 : (r_10.toInt : Int) = (-1) := c_eq rfl (by decide) c_11
      have b_r_10 : (-1 : Int) ≤ r_10.toInt ∧ r_10.toInt ≤ -1 := r_eq1 b_r_10 (by decide : (-1 : Int) ≤ ((-1) : Int32).toInt ∧ ((-1) : Int32).toInt ≤ -1) n_c_11 (by decide)
      refine lv_iconst (v := (-1)) hx hb dX10_mend_24 (by decide) ?_
      refine lv_goto (tgt := 34) hx hb dX10_mend_25 (by decide) ?_
      exact W.iret (v := (-1)) hx hb hr (fun t ht hW => ⟨(-1), rfl, trivial, ht⟩) t_nil dX10_mend_34
  ·
    have n_c_8 : (r_7.toInt : Int) = 0 := c_eq rfl (by decide) c_8
    have b_r_7 : (0 : Int) ≤ r_7.toInt ∧ r_7.toInt ≤ 0 := r_eq1 b_r_7 (by decide : (0 : Int) ≤ (0 : Int32).toInt ∧ (0 : Int32).toInt ≤ 0) n_c_8 (by decide)
    refine lv_bipush (v := (-2)) hx hb dX10_mend_9 (by decide) ?_
    exact W.iret (v := (-2)) hx hb hr (fun t ht hW => ⟨(-2), rfl, trivial, ht⟩) t_nil dX10_mend_11
theorem dX10_mended_0 : decode cX10_mended 0 = .ok (.aload_n 0, 1) := by decide +kernel
theorem dX10_mended_1 : decode cX10_mended 1 = .ok (.iload_n 1, 1) := by decide +kernel
theorem dX10_mended_2 : decode cX10_mended 2 = .ok (.iload_n 2, 1) := by decide +kernel
theorem dX10_mended_3 : decode cX10_mended 3 = .ok (.invokevirtual 313, 3) := by decide +kernel
theorem dX10_mended_6 : decode cX10_mended 6 = .ok (.ifCond .eq 12, 3) := by decide +kernel
theorem dX10_mended_9 : decode cX10_mended 9 = .ok (.aload_n 0, 1) := by decide +kernel
theorem dX10_mended_10 : decode cX10_mended 10 = .ok (.iload_n 1, 1) := by decide +kernel
theorem dX10_mended_11 : decode cX10_mended 11 = .ok (.iload_n 2, 1) := by decide +kernel
theorem dX10_mended_12 : decode cX10_mended 12 = .ok (.invokevirtual 387, 3) := by decide +kernel
theorem dX10_mended_15 : decode cX10_mended 15 = .ok (.goto 5, 3) := by decide +kernel
theorem dX10_mended_18 : decode cX10_mended 18 = .ok (.bipush (-2), 2) := by decide +kernel
theorem dX10_mended_20 : decode cX10_mended 20 = .ok (.ireturn, 1) := by decide +kernel
def uX10_mended : List Cond := .code yX10_mended cX10_mended 3 (some .int) :: ([.methodLink RX10 313 yX10_isBoth, .instanceMethod yX10_isBoth, .selects RX10 yX10_isBoth yX10_isBoth, .initialized RX10, .code yX10_isBoth cX10_isBoth 3 (some .boolean), .methodLink RX10 89 yX10_isLaw, .instanceMethod yX10_isLaw, .selects RX10 yX10_isLaw yX10_isLaw, .code yX10_isLaw cX10_isLaw 2 (some .boolean), .fieldLink RX10 9 "LuckyTicketModel" "world" "[I", .methodLink RX10 82 yX10_in, .static yX10_in, .code yX10_in cX10_in 6 (some .boolean), .methodLink RX10 93 yX10_isTicket, .instanceMethod yX10_isTicket, .selects RX10 yX10_isTicket yX10_isTicket, .code yX10_isTicket cX10_isTicket 3 (some .boolean), .methodLink RX10 387 yX10_mendedOf, .instanceMethod yX10_mendedOf, .selects RX10 yX10_mendedOf yX10_mendedOf, .code yX10_mendedOf cX10_mendedOf 6 (some .int), .methodLink RX10 316 yX10_isLucky, .instanceMethod yX10_isLucky, .selects RX10 yX10_isLucky yX10_isLucky, .code yX10_isLucky cX10_isLucky 3 (some .boolean), .fieldLink RX10 20 "LuckyTicketModel" "luck" "[I", .methodLink RX10 384 yX10_farFrom, .instanceMethod yX10_farFrom, .selects RX10 yX10_farFrom yX10_farFrom, .code yX10_farFrom cX10_farFrom 7 (some .int)] ++ wsX100)
theorem iX10_mended_X10 : ∀ w ∈ wsX100, w ∈ uX10_mended := fun _ h => List.mem_cons_of_mem _ (List.mem_append_right _ h)
set_option maxRecDepth 20000 in
theorem gX10_mended__X10_isBoth_V313 : GoodIn uX10_mended (wsV RX10 313 RX10 yX10_isBoth uX10_isBoth) := goodIn_p _ [5, 9, 13, 17] rfl (by decide +kernel)
set_option maxRecDepth 20000 in
theorem gX10_mended__X10_mendedOf_V387 : GoodIn uX10_mended (wsV RX10 387 RX10 yX10_mendedOf uX10_mendedOf) := goodIn_p _ [21, 25, 30] rfl (by decide +kernel)
set_option maxHeartbeats 4000000 in
set_option maxRecDepth 100000 in
theorem kX10_mended (l : Launch) (dC : Nat → ClassId) (dI : Nat → Nat → Nat) (o0 : Nat) (x_th : Int32) (mwo : Nat) (mim : Nat) (mhi : Nat) (mlu : Nat) (mtp : Nat) (x_td : Int32) (mfv : Nat) (x_sz : Int32) (x_at : Int32) (x_fr : Int32) (x_to : Int32) (x_va : Int32) (x_fk : Int32) (x_fp : Int32) (mfr : Nat) (mwt : Nat) (x_wt : Int32) (x_op : Int32) (x_jo : Int32) (mfg : Nat) (mpl : Nat) (x_dr : Int64) (mtm : Nat) (mfa : Nat) (mqu : Nat) (mmo : Nat) (mwy : Nat) (mwn : Nat) (mma : Nat) (mwi : Nat) (mnu : Nat) (mmv : Nat) (c_wo : ClassId) (c_lu : ClassId) (w_wo : Nat → Int32) (w_lu : Nat → Int32) (ln : Int32) (bs : Int32) (tk : Int32) (lw : Int32) (li : Int32) (a1 : Int32) (a2 : Int32) (b_ln : (0 : Int) ≤ ln.toInt ∧ ln.toInt ≤ 12) (b_bs : (0 : Int) ≤ bs.toInt ∧ bs.toInt ≤ 16) (b_tk : (0 : Int) ≤ tk.toInt ∧ tk.toInt ≤ 20000) (b_lw : (0 : Int) ≤ lw.toInt ∧ lw.toInt ≤ 9) (hw0 : w_wo 0 = ln) (hw1 : w_wo 1 = bs) (hw2 : w_wo 2 = tk) (hw3 : w_wo 3 = lw) (hw4 : w_wo 4 = li) (hwz : (ln.toInt = 0 ∧ bs.toInt = 0 ∧ tk.toInt = 0 ∧ lw.toInt = 0) ∨ (1 ≤ ln.toInt ∧ 2 ≤ bs.toInt ∧ 1 ≤ tk.toInt)) : Met l yX10_mended uX10_mended ({ frames := 3, cells := 0, slots := 0, locals := 69 }) (va_Pc [.ref o0, .int a1, .int a2] (pw (dC, dI) vwCl [(o0, .inr (8, [.int x_th, .ref mwo, .ref mim, .ref mhi, .ref mlu, .ref mtp, .int x_td, .ref mfv, .int x_sz, .int x_at, .int x_fr, .int x_to, .int x_va, .int x_fk, .int x_fp, .ref mfr, .ref mwt, .int x_wt, .int x_op, .int x_jo, .ref mfg, .ref mpl, .long x_dr, .ref mtm, .ref mfa, .ref mqu, .ref mmo, .ref mwy, .ref mwn, .ref mma, .ref mwi, .ref mnu, .ref mmv])), (mwo, .inl (c_wo, 1875, .inl w_wo)), (mlu, .inl (c_lu, 20000, .inl w_lu))] [(c_wo, .int), (c_lu, .int)])) (vp_Si (fun r => ((-2 : Int) ≤ r.toInt ∧ r.toInt ≤ 19999))) 0 0 (fun _ => False) := by
  refine Met.ofW (cc := cX10_mended) (maxL := 3) (ret := (some .int)) (by decide) rfl ?_
  intro p e s m args below meth c s₁ B hml hv
  obtain ⟨rfl, hP, hK, hN⟩ := hv
  have hx := B.exec
  have hb := B.bytes
  have hr := B.returns
  have hts := atoms_spec (ws := uX10_mended) B.pre
  have hown : s.vm.findClass RX10 = some m.cls := findClass_of_methodNamed B.named
  have hlocks := B.notSynchronized
  have hl := lv_entry ([.ref o0, .int a1, .int a2]) (n := 3) (Nat.le_of_ble_eq_true rfl)
  rw [lg_entry_eq]
  generalize (lg_sl ([.ref o0, .int a1, .int a2]) ++ List.replicate (3 - (lg_sl ([.ref o0, .int a1, .int a2])).length) Slot.unset).toArray = ls at hl ⊢
  have hl : lv_has ls 3 [(0, .ref o0), (1, .int a1), (2, .int a2)] := hl
  refine lv_aload_n hx hb dX10_mended_0 rfl (lv_at hl 0 rfl) ?_
  refine lv_iload_n hx hb dX10_mended_1 rfl (lv_at hl 1 rfl) ?_
  refine lv_iload_n hx hb dX10_mended_2 rfl (lv_at hl 2 rfl) ?_
  refine vp_callSi (W.runV (As := [.int a1, .int a2]) (rest := []) ⟨hx, hb, hml, hown, hts⟩ (kX10_isBoth l dC dI o0 x_th mwo mim mhi mlu mtp x_td mfv x_sz x_at x_fr x_to x_va x_fk x_fp mfr mwt x_wt x_op x_jo mfg mpl x_dr mtm mfa mqu mmo mwy mwn mma mwi mnu mmv c_wo w_wo ln bs tk lw li a1 a2 b_ln b_bs b_tk b_lw (hw0) (hw1) (hw2) (hw3) (hw4) (hwz)) (cwV 2 hts gX10_mended__X10_isBoth_V313 rfl rfl rfl (by decide +kernel) ⟨lel 3 3 rfl, lel 69 69 rfl⟩) ⟨pw_fb, va_recv hK hP (ci := 8) (q0 := 0) rfl rfl, (pw_use hP hK hN [0, 1] rfl [0] rfl)⟩ rfl rfl hl.1 rfl (lv_room (Nat.le_of_ble_eq_true rfl)) dX10_mended_3 ⟨lel 0 0 rfl, lel 0 0 rfl⟩) (fun r_5 h_r_5 => ?_)
  obtain ⟨b_r_5, nz_r_5⟩ := h_r_5
  have b_r_5 : (0 : Int) ≤ r_5.toInt ∧ r_5.toInt ≤ 1 := b_r_5
  refine lv_if_eq (tgt := 18) hx hb dX10_mended_6 (by decide) (fun c_6 => ?_) (fun c_6 => ?_)
  ·
    have n_c_6 : (r_5.toInt : Int) = 0 := c_eq rfl (by decide) c_6
    have b_r_5 : (0 : Int) ≤ r_5.toInt ∧ r_5.toInt ≤ 0 := r_eq1 b_r_5 (by decide : (0 : Int) ≤ (0 : Int32).toInt ∧ (0 : Int32).toInt ≤ 0) n_c_6 (by decide)
    refine lv_bipush (v := (-2)) hx hb dX10_mended_18 (by decide) ?_
    exact W.iret (v := (-2)) hx hb hr (fun t ht hW => ⟨(-2), rfl, (rg_w (by decide : (-2 : Int) ≤ ((-2) : Int32).toInt ∧ ((-2) : Int32).toInt ≤ -2) (by decide) (by decide)), ht⟩) t_nil dX10_mended_20
  ·
    have n_c_6 : (r_5.toInt : Int) ≠ 0 := c_ne rfl (by decide) c_6
    have b_r_5 : (1 : Int) ≤ r_5.toInt ∧ r_5.toInt ≤ 1 := r_ne1 b_r_5 (by decide : (0 : Int) ≤ (0 : Int32).toInt ∧ (0 : Int32).toInt ≤ 0) n_c_6 (by decide)
    obtain ⟨b_a1, b_a2, g_7⟩ := nz_r_5 c_6
    refine lv_aload_n hx hb dX10_mended_9 rfl (lv_at hl 0 rfl) ?_
    refine lv_iload_n hx hb dX10_mended_10 rfl (lv_at hl 1 rfl) ?_
    refine lv_iload_n hx hb dX10_mended_11 rfl (lv_at hl 2 rfl) ?_
    refine vp_callSi (W.runV (As := [.int a1, .int a2]) (rest := []) ⟨hx, hb, hml, hown, hts⟩ (kX10_mendedOf l dC dI o0 x_th mwo mim mhi mlu mtp x_td mfv x_sz x_at x_fr x_to x_va x_fk x_fp mfr mwt x_wt x_op x_jo mfg mpl x_dr mtm mfa mqu mmo mwy mwn mma mwi mnu mmv c_wo c_lu w_wo w_lu ln bs tk lw li a1 a2 b_ln b_bs b_tk b_lw b_a2 (hw0) (hw1) (hw2) (hw3) (hw4) (hwz)) (cwV 2 hts gX10_mended__X10_mendedOf_V387 rfl rfl rfl (by decide +kernel) ⟨lel 2 3 rfl, lel 51 69 rfl⟩) ⟨pw_fb, va_recv hK hP (ci := 8) (q0 := 0) rfl rfl, (pw_use hP hK hN [0, 1, 2] rfl [0, 1] rfl)⟩ rfl rfl hl.1 rfl (lv_room (Nat.le_of_ble_eq_true rfl)) dX10_mended_12 ⟨lel 0 0 rfl, lel 0 0 rfl⟩) (fun r_8 h_r_8 => ?_)
    have b_r_8 := h_r_8
    have b_r_8 : (-1 : Int) ≤ r_8.toInt ∧ r_8.toInt ≤ 19999 := b_r_8
    refine lv_goto (tgt := 20) hx hb dX10_mended_15 (by decide) ?_
    exact W.iret (v := r_8) hx hb hr (fun t ht hW => ⟨r_8, rfl, (rg_w b_r_8 (by decide) (by decide)), ht⟩) t_nil dX10_mended_20
theorem dX10_nearest_0 : decode cX10_nearest 0 = .ok (.aload_n 0, 1) := by decide +kernel
theorem dX10_nearest_1 : decode cX10_nearest 1 = .ok (.iload_n 1, 1) := by decide +kernel
theorem dX10_nearest_2 : decode cX10_nearest 2 = .ok (.iload_n 2, 1) := by decide +kernel
theorem dX10_nearest_3 : decode cX10_nearest 3 = .ok (.invokevirtual 313, 3) := by decide +kernel
theorem dX10_nearest_6 : decode cX10_nearest 6 = .ok (.ifCond .ne 6, 3) := by decide +kernel
theorem dX10_nearest_9 : decode cX10_nearest 9 = .ok (.bipush (-2), 2) := by decide +kernel
theorem dX10_nearest_11 : decode cX10_nearest 11 = .ok (.ireturn, 1) := by decide +kernel
theorem dX10_nearest_12 : decode cX10_nearest 12 = .ok (.aload_n 0, 1) := by decide +kernel
theorem dX10_nearest_13 : decode cX10_nearest 13 = .ok (.iload_n 1, 1) := by decide +kernel
theorem dX10_nearest_14 : decode cX10_nearest 14 = .ok (.iload_n 2, 1) := by decide +kernel
theorem dX10_nearest_15 : decode cX10_nearest 15 = .ok (.invokevirtual 328, 3) := by decide +kernel
theorem dX10_nearest_18 : decode cX10_nearest 18 = .ok (.istore_n 3, 1) := by decide +kernel
theorem dX10_nearest_19 : decode cX10_nearest 19 = .ok (.aload_n 0, 1) := by decide +kernel
theorem dX10_nearest_20 : decode cX10_nearest 20 = .ok (.iload_n 1, 1) := by decide +kernel
theorem dX10_nearest_21 : decode cX10_nearest 21 = .ok (.iload_n 2, 1) := by decide +kernel
theorem dX10_nearest_22 : decode cX10_nearest 22 = .ok (.invokevirtual 325, 3) := by decide +kernel
theorem dX10_nearest_25 : decode cX10_nearest 25 = .ok (.istore 4, 2) := by decide +kernel
theorem dX10_nearest_27 : decode cX10_nearest 27 = .ok (.iload_n 3, 1) := by decide +kernel
theorem dX10_nearest_28 : decode cX10_nearest 28 = .ok (.iconst (-1), 1) := by decide +kernel
theorem dX10_nearest_29 : decode cX10_nearest 29 = .ok (.if_icmp .ne 8, 3) := by decide +kernel
theorem dX10_nearest_32 : decode cX10_nearest 32 = .ok (.iload 4, 2) := by decide +kernel
theorem dX10_nearest_34 : decode cX10_nearest 34 = .ok (.goto 25, 3) := by decide +kernel
theorem dX10_nearest_37 : decode cX10_nearest 37 = .ok (.iload 4, 2) := by decide +kernel
theorem dX10_nearest_39 : decode cX10_nearest 39 = .ok (.iconst (-1), 1) := by decide +kernel
theorem dX10_nearest_40 : decode cX10_nearest 40 = .ok (.if_icmp .eq 13, 3) := by decide +kernel
theorem dX10_nearest_43 : decode cX10_nearest 43 = .ok (.iload_n 2, 1) := by decide +kernel
theorem dX10_nearest_44 : decode cX10_nearest 44 = .ok (.iload_n 3, 1) := by decide +kernel
theorem dX10_nearest_45 : decode cX10_nearest 45 = .ok (.isub, 1) := by decide +kernel
theorem dX10_nearest_46 : decode cX10_nearest 46 = .ok (.iload 4, 2) := by decide +kernel
theorem dX10_nearest_48 : decode cX10_nearest 48 = .ok (.iload_n 2, 1) := by decide +kernel
theorem dX10_nearest_49 : decode cX10_nearest 49 = .ok (.isub, 1) := by decide +kernel
theorem dX10_nearest_50 : decode cX10_nearest 50 = .ok (.if_icmp .gt 7, 3) := by decide +kernel
theorem dX10_nearest_53 : decode cX10_nearest 53 = .ok (.iload_n 3, 1) := by decide +kernel
theorem dX10_nearest_54 : decode cX10_nearest 54 = .ok (.goto 5, 3) := by decide +kernel
theorem dX10_nearest_57 : decode cX10_nearest 57 = .ok (.iload 4, 2) := by decide +kernel
theorem dX10_nearest_59 : decode cX10_nearest 59 = .ok (.ireturn, 1) := by decide +kernel
def uX10_nearest : List Cond := .code yX10_nearest cX10_nearest 5 (some .int) :: ([.methodLink RX10 313 yX10_isBoth, .instanceMethod yX10_isBoth, .selects RX10 yX10_isBoth yX10_isBoth, .initialized RX10, .code yX10_isBoth cX10_isBoth 3 (some .boolean), .methodLink RX10 89 yX10_isLaw, .instanceMethod yX10_isLaw, .selects RX10 yX10_isLaw yX10_isLaw, .code yX10_isLaw cX10_isLaw 2 (some .boolean), .fieldLink RX10 9 "LuckyTicketModel" "world" "[I", .methodLink RX10 82 yX10_in, .static yX10_in, .code yX10_in cX10_in 6 (some .boolean), .methodLink RX10 93 yX10_isTicket, .instanceMethod yX10_isTicket, .selects RX10 yX10_isTicket yX10_isTicket, .code yX10_isTicket cX10_isTicket 3 (some .boolean), .methodLink RX10 328 yX10_lastOf, .instanceMethod yX10_lastOf, .selects RX10 yX10_lastOf yX10_lastOf, .code yX10_lastOf cX10_lastOf 4 (some .int), .methodLink RX10 316 yX10_isLucky, .instanceMethod yX10_isLucky, .selects RX10 yX10_isLucky yX10_isLucky, .code yX10_isLucky cX10_isLucky 3 (some .boolean), .fieldLink RX10 20 "LuckyTicketModel" "luck" "[I", .methodLink RX10 325 yX10_nextOf, .instanceMethod yX10_nextOf, .selects RX10 yX10_nextOf yX10_nextOf, .code yX10_nextOf cX10_nextOf 4 (some .int)] ++ wsX100)
theorem iX10_nearest_X10 : ∀ w ∈ wsX100, w ∈ uX10_nearest := fun _ h => List.mem_cons_of_mem _ (List.mem_append_right _ h)
set_option maxRecDepth 20000 in
theorem gX10_nearest__X10_isBoth_V313 : GoodIn uX10_nearest (wsV RX10 313 RX10 yX10_isBoth uX10_isBoth) := goodIn_p _ [5, 9, 13, 17] rfl (by decide +kernel)
set_option maxRecDepth 20000 in
theorem gX10_nearest__X10_lastOf_V328 : GoodIn uX10_nearest (wsV RX10 328 RX10 yX10_lastOf uX10_lastOf) := goodIn_p _ [21, 25] rfl (by decide +kernel)
set_option maxRecDepth 20000 in
theorem gX10_nearest__X10_nextOf_V325 : GoodIn uX10_nearest (wsV RX10 325 RX10 yX10_nextOf uX10_nextOf) := goodIn_p _ [30, 25] rfl (by decide +kernel)
set_option maxHeartbeats 4000000 in
set_option maxRecDepth 100000 in
theorem kX10_nearest (l : Launch) (dC : Nat → ClassId) (dI : Nat → Nat → Nat) (o0 : Nat) (x_th : Int32) (mwo : Nat) (mim : Nat) (mhi : Nat) (mlu : Nat) (mtp : Nat) (x_td : Int32) (mfv : Nat) (x_sz : Int32) (x_at : Int32) (x_fr : Int32) (x_to : Int32) (x_va : Int32) (x_fk : Int32) (x_fp : Int32) (mfr : Nat) (mwt : Nat) (x_wt : Int32) (x_op : Int32) (x_jo : Int32) (mfg : Nat) (mpl : Nat) (x_dr : Int64) (mtm : Nat) (mfa : Nat) (mqu : Nat) (mmo : Nat) (mwy : Nat) (mwn : Nat) (mma : Nat) (mwi : Nat) (mnu : Nat) (mmv : Nat) (c_wo : ClassId) (c_lu : ClassId) (w_wo : Nat → Int32) (w_lu : Nat → Int32) (ln : Int32) (bs : Int32) (tk : Int32) (lw : Int32) (li : Int32) (a1 : Int32) (a2 : Int32) (b_ln : (0 : Int) ≤ ln.toInt ∧ ln.toInt ≤ 12) (b_bs : (0 : Int) ≤ bs.toInt ∧ bs.toInt ≤ 16) (b_tk : (0 : Int) ≤ tk.toInt ∧ tk.toInt ≤ 20000) (b_lw : (0 : Int) ≤ lw.toInt ∧ lw.toInt ≤ 9) (hw0 : w_wo 0 = ln) (hw1 : w_wo 1 = bs) (hw2 : w_wo 2 = tk) (hw3 : w_wo 3 = lw) (hw4 : w_wo 4 = li) (hwz : (ln.toInt = 0 ∧ bs.toInt = 0 ∧ tk.toInt = 0 ∧ lw.toInt = 0) ∨ (1 ≤ ln.toInt ∧ 2 ≤ bs.toInt ∧ 1 ≤ tk.toInt)) : Met l yX10_nearest uX10_nearest ({ frames := 3, cells := 0, slots := 0, locals := 69 }) (va_Pc [.ref o0, .int a1, .int a2] (pw (dC, dI) vwCl [(o0, .inr (8, [.int x_th, .ref mwo, .ref mim, .ref mhi, .ref mlu, .ref mtp, .int x_td, .ref mfv, .int x_sz, .int x_at, .int x_fr, .int x_to, .int x_va, .int x_fk, .int x_fp, .ref mfr, .ref mwt, .int x_wt, .int x_op, .int x_jo, .ref mfg, .ref mpl, .long x_dr, .ref mtm, .ref mfa, .ref mqu, .ref mmo, .ref mwy, .ref mwn, .ref mma, .ref mwi, .ref mnu, .ref mmv])), (mwo, .inl (c_wo, 1875, .inl w_wo)), (mlu, .inl (c_lu, 20000, .inl w_lu))] [(c_wo, .int), (c_lu, .int)])) (vp_Si (fun r => ((-2 : Int) ≤ r.toInt ∧ r.toInt ≤ 19999))) 0 0 (fun _ => False) := by
  refine Met.ofW (cc := cX10_nearest) (maxL := 5) (ret := (some .int)) (by decide) rfl ?_
  intro p e s m args below meth c s₁ B hml hv
  obtain ⟨rfl, hP, hK, hN⟩ := hv
  have hx := B.exec
  have hb := B.bytes
  have hr := B.returns
  have hts := atoms_spec (ws := uX10_nearest) B.pre
  have hown : s.vm.findClass RX10 = some m.cls := findClass_of_methodNamed B.named
  have hlocks := B.notSynchronized
  have hl := lv_entry ([.ref o0, .int a1, .int a2]) (n := 5) (Nat.le_of_ble_eq_true rfl)
  rw [lg_entry_eq]
  generalize (lg_sl ([.ref o0, .int a1, .int a2]) ++ List.replicate (5 - (lg_sl ([.ref o0, .int a1, .int a2])).length) Slot.unset).toArray = ls at hl ⊢
  have hl : lv_has ls 5 [(0, .ref o0), (1, .int a1), (2, .int a2)] := hl
  refine lv_aload_n hx hb dX10_nearest_0 rfl (lv_at hl 0 rfl) ?_
  refine lv_iload_n hx hb dX10_nearest_1 rfl (lv_at hl 1 rfl) ?_
  refine lv_iload_n hx hb dX10_nearest_2 rfl (lv_at hl 2 rfl) ?_
  refine vp_callSi (W.runV (As := [.int a1, .int a2]) (rest := []) ⟨hx, hb, hml, hown, hts⟩ (kX10_isBoth l dC dI o0 x_th mwo mim mhi mlu mtp x_td mfv x_sz x_at x_fr x_to x_va x_fk x_fp mfr mwt x_wt x_op x_jo mfg mpl x_dr mtm mfa mqu mmo mwy mwn mma mwi mnu mmv c_wo w_wo ln bs tk lw li a1 a2 b_ln b_bs b_tk b_lw (hw0) (hw1) (hw2) (hw3) (hw4) (hwz)) (cwV 2 hts gX10_nearest__X10_isBoth_V313 rfl rfl rfl (by decide +kernel) ⟨lel 3 3 rfl, lel 69 69 rfl⟩) ⟨pw_fb, va_recv hK hP (ci := 8) (q0 := 0) rfl rfl, (pw_use hP hK hN [0, 1] rfl [0] rfl)⟩ rfl rfl hl.1 rfl (lv_room (Nat.le_of_ble_eq_true rfl)) dX10_nearest_3 ⟨lel 0 0 rfl, lel 0 0 rfl⟩) (fun r_11 h_r_11 => ?_)
  obtain ⟨b_r_11, nz_r_11⟩ := h_r_11
  have b_r_11 : (0 : Int) ≤ r_11.toInt ∧ r_11.toInt ≤ 1 := b_r_11
  refine lv_if_ne (tgt := 12) hx hb dX10_nearest_6 (by decide) (fun c_12 => ?_) (fun c_12 => ?_)
  ·
    have n_c_12 : (r_11.toInt : Int) ≠ 0 := c_ne rfl (by decide) c_12
    have b_r_11 : (1 : Int) ≤ r_11.toInt ∧ r_11.toInt ≤ 1 := r_ne1 b_r_11 (by decide : (0 : Int) ≤ (0 : Int32).toInt ∧ (0 : Int32).toInt ≤ 0) n_c_12 (by decide)
    obtain ⟨b_a1, b_a2, g_13⟩ := nz_r_11 c_12
    refine lv_aload_n hx hb dX10_nearest_12 rfl (lv_at hl 0 rfl) ?_
    refine lv_iload_n hx hb dX10_nearest_13 rfl (lv_at hl 1 rfl) ?_
    refine lv_iload_n hx hb dX10_nearest_14 rfl (lv_at hl 2 rfl) ?_
    refine vp_callSi (W.runV (As := [.int a1, .int a2]) (rest := []) ⟨hx, hb, hml, hown, hts⟩ (kX10_lastOf l dC dI o0 x_th mwo mim mhi mlu mtp x_td mfv x_sz x_at x_fr x_to x_va x_fk x_fp mfr mwt x_wt x_op x_jo mfg mpl x_dr mtm mfa mqu mmo mwy mwn mma mwi mnu mmv c_wo c_lu w_wo w_lu ln bs tk lw li a1 a2 b_ln b_bs b_tk b_lw (rg_w b_a2 (by decide) (by decide)) (hw0) (hw1) (hw2) (hw3) (hw4) (hwz)) (cwV 2 hts gX10_nearest__X10_lastOf_V328 rfl rfl rfl (by decide +kernel) ⟨lel 2 3 rfl, lel 45 69 rfl⟩) ⟨pw_fb, va_recv hK hP (ci := 8) (q0 := 0) rfl rfl, (pw_use hP hK hN [0, 1, 2] rfl [0, 1] rfl)⟩ rfl rfl hl.1 rfl (lv_room (Nat.le_of_ble_eq_true rfl)) dX10_nearest_15 ⟨lel 0 0 rfl, lel 0 0 rfl⟩) (fun r_14 h_r_14 => ?_)
    have b_r_14 := h_r_14
    have b_r_14 : (-1 : Int) ≤ r_14.toInt ∧ r_14.toInt ≤ 19999 := b_r_14
    refine lv_istore_n (lv' := [(3, .int r_14), (0, .ref o0), (1, .int a1), (2, .int a2)]) hx hb dX10_nearest_18 rfl hl (by decide) rfl (fun ls hl => ?_)
    refine lv_aload_n hx hb dX10_nearest_19 rfl (lv_at hl 1 rfl) ?_
    refine lv_iload_n hx hb dX10_nearest_20 rfl (lv_at hl 2 rfl) ?_
    refine lv_iload_n hx hb dX10_nearest_21 rfl (lv_at hl 3 rfl) ?_
    refine vp_callSi (W.runV (As := [.int a1, .int a2]) (rest := []) ⟨hx, hb, hml, hown, hts⟩ (kX10_nextOf l dC dI o0 x_th mwo mim mhi mlu mtp x_td mfv x_sz x_at x_fr x_to x_va x_fk x_fp mfr mwt x_wt x_op x_jo mfg mpl x_dr mtm mfa mqu mmo mwy mwn mma mwi mnu mmv c_wo c_lu w_wo w_lu ln bs tk lw li a1 a2 b_ln b_bs b_tk b_lw (rg_w b_a2 (by decide) (by decide)) (hw0) (hw1) (hw2) (hw3) (hw4) (hwz)) (cwV 2 hts gX10_nearest__X10_nextOf_V325 rfl rfl rfl (by decide +kernel) ⟨lel 2 3 rfl, lel 45 69 rfl⟩) ⟨pw_fb, va_recv hK hP (ci := 8) (q0 := 0) rfl rfl, (pw_use hP hK hN [0, 1, 2] rfl [0, 1] rfl)⟩ rfl rfl hl.1 rfl (lv_room (Nat.le_of_ble_eq_true rfl)) dX10_nearest_22 ⟨lel 0 0 rfl, lel 0 0 rfl⟩) (fun r_15 h_r_15 => ?_)
    obtain ⟨b_r_15, pr_r_15⟩ := h_r_15
    have b_r_15 : (-1 : Int) ≤ r_15.toInt ∧ r_15.toInt ≤ 19999 := b_r_15
    refine lv_istore (lv' := [(4, .int r_15), (3, .int r_14), (0, .ref o0), (1, .int a1), (2, .int a2)]) hx hb dX10_nearest_25 hl (by decide) rfl (fun ls hl => ?_)
    refine lv_iload_n hx hb dX10_nearest_27 rfl (lv_at hl 1 rfl) ?_
    refine lv_iconst (v := (-1)) hx hb dX10_nearest_28 (by decide) ?_
    refine lv_icmp_ne (tgt := 37) hx hb dX10_nearest_29 (by decide) (fun c_16 => ?_) (fun c_16 => ?_)
    ·
      have n_c_16 : (r_14.toInt : Int) ≠ (-1) := c_ne rfl (by decide) c_16
      have b_r_14 : (0 : Int) ≤ r_14.toInt ∧ r_14.toInt ≤ 19999 := r_ne1 b_r_14 (by decide : (-1 : Int) ≤ ((-1) : Int32).toInt ∧ ((-1) : Int32).toInt ≤ -1) n_c_16 (by decide)
      refine lv_iload hx hb dX10_nearest_37 (lv_at hl 0 rfl) ?_
      refine lv_iconst (v := (-1)) hx hb dX10_nearest_39 (by decide) ?_
      refine lv_icmp_eq (tgt := 53) hx hb dX10_nearest_40 (by decide) (fun c_17 => ?_) (fun c_17 => ?_)
      ·
        have n_c_17 : (r_15.toInt : Int) = (-1) := c_eq rfl (by decide) c_17
        have b_r_15 : (-1 : Int) ≤ r_15.toInt ∧ r_15.toInt ≤ -1 := r_eq1 b_r_15 (by decide : (-1 : Int) ≤ ((-1) : Int32).toInt ∧ ((-1) : Int32).toInt ≤ -1) n_c_17 (by decide)
        refine lv_iload_n hx hb dX10_nearest_53 rfl (lv_at hl 1 rfl) ?_
        refine lv_goto (tgt := 59) hx hb dX10_nearest_54 (by decide) ?_
        exact W.iret (v := r_14) hx hb hr (fun t ht hW => ⟨r_14, rfl, (rg_w b_r_14 (by decide) (by decide)), ht⟩) t_nil dX10_nearest_59
      ·
        have n_c_17 : (r_15.toInt : Int) ≠ (-1) := c_ne rfl (by decide) c_17
        have b_r_15 : (0 : Int) ≤ r_15.toInt ∧ r_15.toInt ≤ 19999 := r_ne1 b_r_15 (by decide : (-1 : Int) ≤ ((-1) : Int32).toInt ∧ ((-1) : Int32).toInt ≤ -1) n_c_17 (by decide)
        refine lv_iload_n hx hb dX10_nearest_43 rfl (lv_at hl 4 rfl) ?_
        refine lv_iload_n hx hb dX10_nearest_44 rfl (lv_at hl 1 rfl) ?_
        refine lv_isub hx hb dX10_nearest_45 ?_
        refine lv_topi (fun z_18 e_z_18 => ?_)
        obtain ⟨q_z_18, b_z_18⟩ := ti_sub (lo := -19999) (hi := 19999) e_z_18 rfl rfl b_a2 b_r_14 (by decide)
        refine lv_iload hx hb dX10_nearest_46 (lv_at hl 0 rfl) ?_
        refine lv_iload_n hx hb dX10_nearest_48 rfl (lv_at hl 4 rfl) ?_
        refine lv_isub hx hb dX10_nearest_49 ?_
        refine lv_topi (fun z_19 e_z_19 => ?_)
        obtain ⟨q_z_19, b_z_19⟩ := ti_sub (lo := -19999) (hi := 19999) e_z_19 rfl rfl b_r_15 b_a2 (by decide)
        refine lv_icmp_gt (tgt := 57) hx hb dX10_nearest_50 (by decide) (fun c_20 => ?_) (fun c_20 => ?_)
        ·
          have n_c_20 : (z_19.toInt : Int) < z_18.toInt := c_gt rfl rfl c_20
          have b_z_19 : (-19999 : Int) ≤ z_19.toInt ∧ z_19.toInt ≤ 19998 := r_lt1 b_z_19 b_z_18 n_c_20 (by decide)
          have b_z_18 : (-19998 : Int) ≤ z_18.toInt ∧ z_18.toInt ≤ 19999 := r_lt2 b_z_19 b_z_18 n_c_20 (by decide)
          refine lv_iload hx hb dX10_nearest_57 (lv_at hl 0 rfl) ?_
          exact W.iret (v := r_15) hx hb hr (fun t ht hW => ⟨r_15, rfl, (rg_w b_r_15 (by decide) (by decide)), ht⟩) t_nil dX10_nearest_59
        ·
          have n_c_20 : (z_18.toInt : Int) ≤ z_19.toInt := c_ngt rfl rfl c_20
          refine lv_iload_n hx hb dX10_nearest_53 rfl (lv_at hl 1 rfl) ?_
          refine lv_goto (tgt := 59) hx hb dX10_nearest_54 (by decide) ?_
          exact W.iret (v := r_14) hx hb hr (fun t ht hW => ⟨r_14, rfl, (rg_w b_r_14 (by decide) (by decide)), ht⟩) t_nil dX10_nearest_59
    ·
      have n_c_16 : (r_14.toInt : Int) = (-1) := c_eq rfl (by decide) c_16
      have b_r_14 : (-1 : Int) ≤ r_14.toInt ∧ r_14.toInt ≤ -1 := r_eq1 b_r_14 (by decide : (-1 : Int) ≤ ((-1) : Int32).toInt ∧ ((-1) : Int32).toInt ≤ -1) n_c_16 (by decide)
      refine lv_iload hx hb dX10_nearest_32 (lv_at hl 0 rfl) ?_
      refine lv_goto (tgt := 59) hx hb dX10_nearest_34 (by decide) ?_
      exact W.iret (v := r_15) hx hb hr (fun t ht hW => ⟨r_15, rfl, (rg_w b_r_15 (by decide) (by decide)), ht⟩) t_nil dX10_nearest_59
  ·
    have n_c_12 : (r_11.toInt : Int) = 0 := c_eq rfl (by decide) c_12
    have b_r_11 : (0 : Int) ≤ r_11.toInt ∧ r_11.toInt ≤ 0 := r_eq1 b_r_11 (by decide : (0 : Int) ≤ (0 : Int32).toInt ∧ (0 : Int32).toInt ≤ 0) n_c_12 (by decide)
    refine lv_bipush (v := (-2)) hx hb dX10_nearest_9 (by decide) ?_
    exact W.iret (v := (-2)) hx hb hr (fun t ht hW => ⟨(-2), rfl, (rg_w (by decide : (-2 : Int) ≤ ((-2) : Int32).toInt ∧ ((-2) : Int32).toInt ≤ -2) (by decide) (by decide)), ht⟩) t_nil dX10_nearest_11
theorem dX10_choose_0 : decode cX10_choose 0 = .ok (.iload_n 2, 1) := by decide +kernel
theorem dX10_choose_1 : decode cX10_choose 1 = .ok (.i2l, 1) := by decide +kernel
theorem dX10_choose_2 : decode cX10_choose 2 = .ok (.lload_n 0, 1) := by decide +kernel
theorem dX10_choose_3 : decode cX10_choose 3 = .ok (.lcmp, 1) := by decide +kernel
theorem dX10_choose_4 : decode cX10_choose 4 = .ok (.ifCond .le 5, 3) := by decide +kernel
theorem dX10_choose_7 : decode cX10_choose 7 = .ok (.lconst 0, 1) := by decide +kernel
theorem dX10_choose_8 : decode cX10_choose 8 = .ok (.lreturn, 1) := by decide +kernel
theorem dX10_choose_9 : decode cX10_choose 9 = .ok (.lconst 1, 1) := by decide +kernel
theorem dX10_choose_10 : decode cX10_choose 10 = .ok (.lstore_n 3, 1) := by decide +kernel
theorem dX10_choose_11 : decode cX10_choose 11 = .ok (.iconst 0, 1) := by decide +kernel
theorem dX10_choose_12 : decode cX10_choose 12 = .ok (.istore 5, 2) := by decide +kernel
theorem dX10_choose_14 : decode cX10_choose 14 = .ok (.iload 5, 2) := by decide +kernel
theorem dX10_choose_16 : decode cX10_choose 16 = .ok (.iload_n 2, 1) := by decide +kernel
theorem dX10_choose_17 : decode cX10_choose 17 = .ok (.if_icmp .ge 23, 3) := by decide +kernel
theorem dX10_choose_20 : decode cX10_choose 20 = .ok (.lload_n 3, 1) := by decide +kernel
theorem dX10_choose_21 : decode cX10_choose 21 = .ok (.lload_n 0, 1) := by decide +kernel
theorem dX10_choose_22 : decode cX10_choose 22 = .ok (.iload 5, 2) := by decide +kernel
theorem dX10_choose_24 : decode cX10_choose 24 = .ok (.i2l, 1) := by decide +kernel
theorem dX10_choose_25 : decode cX10_choose 25 = .ok (.lsub, 1) := by decide +kernel
theorem dX10_choose_26 : decode cX10_choose 26 = .ok (.lmul, 1) := by decide +kernel
theorem dX10_choose_27 : decode cX10_choose 27 = .ok (.iload 5, 2) := by decide +kernel
theorem dX10_choose_29 : decode cX10_choose 29 = .ok (.iconst 1, 1) := by decide +kernel
theorem dX10_choose_30 : decode cX10_choose 30 = .ok (.iadd, 1) := by decide +kernel
theorem dX10_choose_31 : decode cX10_choose 31 = .ok (.i2l, 1) := by decide +kernel
theorem dX10_choose_32 : decode cX10_choose 32 = .ok (.ldiv, 1) := by decide +kernel
theorem dX10_choose_33 : decode cX10_choose 33 = .ok (.lstore_n 3, 1) := by decide +kernel
theorem dX10_choose_34 : decode cX10_choose 34 = .ok (.iinc 5 1, 3) := by decide +kernel
theorem dX10_choose_37 : decode cX10_choose 37 = .ok (.goto (-23), 3) := by decide +kernel
theorem dX10_choose_40 : decode cX10_choose 40 = .ok (.lload_n 3, 1) := by decide +kernel
theorem dX10_choose_41 : decode cX10_choose 41 = .ok (.lreturn, 1) := by decide +kernel
def uX10_choose : List Cond := .code yX10_choose cX10_choose 6 (some .long) :: ([])
set_option maxHeartbeats 4000000 in
set_option maxRecDepth 100000 in
theorem kX10_choose (l : Launch) (dC : Nat → ClassId) (dI : Nat → Nat → Nat) (a1 : Int64) (a2 : Int32) (b_a2 : (0 : Int) ≤ a2.toInt ∧ a2.toInt ≤ 4) : Met l yX10_choose uX10_choose ({ frames := 0, cells := 0, slots := 0, locals := 0 }) (va_Pc [.long a1, .int a2] (fun _ => True)) (vp_Sl (fun r => True)) 0 0 (fun _ => False) := by
  refine Met.ofW (cc := cX10_choose) (maxL := 6) (ret := (some .long)) (by decide) rfl ?_
  intro p e s m args below meth c s₁ B hml hv
  obtain ⟨rfl, _⟩ := hv
  have hx := B.exec
  have hb := B.bytes
  have hr := B.returns
  have hts := atoms_spec (ws := uX10_choose) B.pre
  have hown : s.vm.findClass RX10 = some m.cls := findClass_of_methodNamed B.named
  have hlocks := B.notSynchronized
  have hl := lv_entry ([.long a1, .int a2]) (n := 6) (Nat.le_of_ble_eq_true rfl)
  rw [lg_entry_eq]
  generalize (lg_sl ([.long a1, .int a2]) ++ List.replicate (6 - (lg_sl ([.long a1, .int a2])).length) Slot.unset).toArray = ls at hl ⊢
  have hl : lv_has ls 6 [(0, .long a1), (2, .int a2)] := hl
  refine lv_iload_n hx hb dX10_choose_0 rfl (lv_at hl 1 rfl) ?_
  obtain ⟨z_51, e_z_51⟩ : ∃ y : Int64, y = a2.toInt64 := ⟨_, rfl⟩
  refine lv_i2l (v := z_51) hx hb dX10_choose_1 e_z_51.symm ?_
  obtain ⟨q_z_51, b_z_51⟩ := ti_i2l e_z_51 b_a2
  refine lv_lload_n hx hb dX10_choose_2 rfl (lv_at hl 0 rfl) ?_
  refine W.lcmp hx hb dX10_choose_3 ?_
  refine lv_if_le (tgt := 9) hx hb dX10_choose_4 (by decide) (fun c_52 => ?_) (fun c_52 => ?_)
  ·
    have n_c_52 : (z_51.toInt : Int) ≤ a1.toInt := g_le rfl rfl c_52
    have b_a1 : (0 : Int) ≤ a1.toInt ∧ a1.toInt ≤ 9223372036854775807 := r_le2 b_z_51 (tl_rng a1) n_c_52 (by decide)
    refine lv_lconst (v := 1) hx hb dX10_choose_9 (by decide) ?_
    refine lv_lstore_n (lv' := [(3, .long 1), (0, .long a1), (2, .int a2)]) hx hb dX10_choose_10 rfl hl (by decide) rfl (fun ls hl => ?_)
    refine lv_iconst (v := 0) hx hb dX10_choose_11 (by decide) ?_
    refine lv_istore (lv' := [(5, .int 0), (3, .long 1), (0, .long a1), (2, .int a2)]) hx hb dX10_choose_12 hl (by decide) rfl (fun ls hl => ?_)
    refine loopP (σ := Int32 × Int64) (fun v => (4 - v.1.toInt).toNat) (fun v ls => ((0 : Int) ≤ v.1.toInt ∧ v.1.toInt ≤ 4) ∧ lv_has ls 6 [(5, .int v.1), (3, .long v.2), (0, .long a1), (2, .int a2)]) (fun v ls hI ih_14_92 => ?_) ((0 : Int32), (1 : Int64)) ⟨(show (0 : Int) ≤ (0 : Int32).toInt ∧ (0 : Int32).toInt ≤ 4 from (rg_w (by decide : (0 : Int) ≤ (0 : Int32).toInt ∧ (0 : Int32).toInt ≤ 0) (by decide) (by decide))), lv_sub hl [0, 1, 2, 3] rfl⟩
    obtain ⟨y_59, y_60⟩ := v
    obtain ⟨b_y_59, hl⟩ := hI
    have b_y_59 : (0 : Int) ≤ y_59.toInt ∧ y_59.toInt ≤ 4 := b_y_59
    have hl : lv_has ls 6 [(5, .int y_59), (3, .long y_60), (0, .long a1), (2, .int a2)] := hl
    refine lv_iload hx hb dX10_choose_14 (lv_at hl 0 rfl) ?_
    refine lv_iload_n hx hb dX10_choose_16 rfl (lv_at hl 3 rfl) ?_
    refine lv_icmp_ge (tgt := 40) hx hb dX10_choose_17 (by decide) (fun c_93 => ?_) (fun c_93 => ?_)
    ·
      have n_c_93 : (a2.toInt : Int) ≤ y_59.toInt := c_ge rfl rfl c_93
      refine lv_lload_n hx hb dX10_choose_40 rfl (lv_at hl 1 rfl) ?_
      exact W.lret (v := y_60) hx hb hr (fun t ht hW => ⟨y_60, rfl, trivial, ht⟩) t_nil dX10_choose_41
    ·
      have n_c_93 : (y_59.toInt : Int) < a2.toInt := c_nge rfl rfl c_93
      have b_y_59 : (0 : Int) ≤ y_59.toInt ∧ y_59.toInt ≤ 3 := r_lt1 b_y_59 b_a2 n_c_93 (by decide)
      have b_a2 : (1 : Int) ≤ a2.toInt ∧ a2.toInt ≤ 4 := r_lt2 b_y_59 b_a2 n_c_93 (by decide)
      refine lv_lload_n hx hb dX10_choose_20 rfl (lv_at hl 1 rfl) ?_
      refine lv_lload_n hx hb dX10_choose_21 rfl (lv_at hl 2 rfl) ?_
      refine lv_iload hx hb dX10_choose_22 (lv_at hl 0 rfl) ?_
      obtain ⟨z_94, e_z_94⟩ : ∃ y : Int64, y = y_59.toInt64 := ⟨_, rfl⟩
      refine lv_i2l (v := z_94) hx hb dX10_choose_24 e_z_94.symm ?_
      obtain ⟨q_z_94, b_z_94⟩ := ti_i2l e_z_94 b_y_59
      refine lv_lsub hx hb dX10_choose_25 ?_
      refine lv_topl (fun z_95 e_z_95 => ?_)
      obtain ⟨q_z_95, b_z_95⟩ := tl_sub (lo := -3) (hi := 9223372036854775807) e_z_95 rfl rfl b_a1 b_z_94 (by decide)
      refine lv_lmul hx hb dX10_choose_26 ?_
      refine lv_topl (fun z_96 e_z_96 => ?_)
      refine lv_iload hx hb dX10_choose_27 (lv_at hl 0 rfl) ?_
      refine lv_iconst (v := 1) hx hb dX10_choose_29 (by decide) ?_
      refine lv_iadd hx hb dX10_choose_30 ?_
      refine lv_topi (fun z_97 e_z_97 => ?_)
      obtain ⟨q_z_97, b_z_97⟩ := ti_add (lo := 1) (hi := 4) e_z_97 rfl (by decide : (1 : Int32).toInt = 1) b_y_59 (by decide : (1 : Int) ≤ (1 : Int32).toInt ∧ (1 : Int32).toInt ≤ 1) (by decide)
      obtain ⟨z_98, e_z_98⟩ : ∃ y : Int64, y = z_97.toInt64 := ⟨_, rfl⟩
      refine lv_i2l (v := z_98) hx hb dX10_choose_31 e_z_98.symm ?_
      obtain ⟨q_z_98, b_z_98⟩ := ti_i2l e_z_98 b_z_97
      refine lv_ldiv hx hb dX10_choose_32 (tl_ne b_z_98 (by decide)) ?_
      refine lv_topl (fun z_99 e_z_99 => ?_)
      refine lv_lstore_n (lv' := [(3, .long z_99), (5, .int y_59), (0, .long a1), (2, .int a2)]) hx hb dX10_choose_33 rfl hl (by decide) rfl (fun ls hl => ?_)
      obtain ⟨z_100, e_z_100⟩ : ∃ y : Int32, y = y_59 + 1 := ⟨_, rfl⟩
      refine lv_iinc (v := z_100) (lv' := [(5, .int z_100), (3, .long z_99), (0, .long a1), (2, .int a2)]) hx hb dX10_choose_34 hl (k := 1) rfl (by rw [e_z_100]; rfl) (by decide) rfl (fun ls hl => ?_)
      obtain ⟨q_z_100, b_z_100⟩ := ti_add (lo := 1) (hi := 4) e_z_100 rfl (by decide : (1 : Int32).toInt = 1) b_y_59 (by decide : (1 : Int) ≤ (1 : Int32).toInt ∧ (1 : Int32).toInt ≤ 1) (by decide)
      refine lv_goto (tgt := 14) hx hb dX10_choose_37 (by decide) ?_
      exact ih_14_92 (z_100, z_99) _ ⟨(show (0 : Int) ≤ z_100.toInt ∧ z_100.toInt ≤ 4 from (rg_w b_z_100 (by decide) (by decide))), lv_sub hl [0, 1, 2, 3] rfl⟩ (show (4 - z_100.toInt).toNat < (4 - y_59.toInt).toNat by omega)
  ·
    have n_c_52 : (a1.toInt : Int) < z_51.toInt := g_nle rfl rfl c_52
    have b_a1 : (-9223372036854775808 : Int) ≤ a1.toInt ∧ a1.toInt ≤ 3 := r_lt1 (tl_rng a1) b_z_51 n_c_52 (by decide)
    refine lv_lconst (v := 0) hx hb dX10_choose_7 (by decide) ?_
    exact W.lret (v := 0) hx hb hr (fun t ht hW => ⟨0, rfl, trivial, ht⟩) t_nil dX10_choose_8
theorem dX10_seldom_0 : decode cX10_seldom 0 = .ok (.aload_n 0, 1) := by decide +kernel
theorem dX10_seldom_1 : decode cX10_seldom 1 = .ok (.iload_n 1, 1) := by decide +kernel
theorem dX10_seldom_2 : decode cX10_seldom 2 = .ok (.invokevirtual 89, 3) := by decide +kernel
theorem dX10_seldom_5 : decode cX10_seldom 5 = .ok (.ifCond .eq 27, 3) := by decide +kernel
theorem dX10_seldom_8 : decode cX10_seldom 8 = .ok (.iload_n 2, 1) := by decide +kernel
theorem dX10_seldom_9 : decode cX10_seldom 9 = .ok (.i2l, 1) := by decide +kernel
theorem dX10_seldom_10 : decode cX10_seldom 10 = .ok (.lconst 1, 1) := by decide +kernel
theorem dX10_seldom_11 : decode cX10_seldom 11 = .ok (.ldc2_w 414, 3) := by decide +kernel
theorem dX10_seldom_14 : decode cX10_seldom 14 = .ok (.invokestatic 82, 3) := by decide +kernel
theorem dX10_seldom_17 : decode cX10_seldom 17 = .ok (.ifCond .eq 15, 3) := by decide +kernel
theorem dX10_seldom_20 : decode cX10_seldom 20 = .ok (.iload_n 3, 1) := by decide +kernel
theorem dX10_seldom_21 : decode cX10_seldom 21 = .ok (.i2l, 1) := by decide +kernel
theorem dX10_seldom_22 : decode cX10_seldom 22 = .ok (.lconst 0, 1) := by decide +kernel
theorem dX10_seldom_23 : decode cX10_seldom 23 = .ok (.ldc2_w 414, 3) := by decide +kernel
theorem dX10_seldom_26 : decode cX10_seldom 26 = .ok (.invokestatic 82, 3) := by decide +kernel
theorem dX10_seldom_29 : decode cX10_seldom 29 = .ok (.ifCond .ne 7, 3) := by decide +kernel
theorem dX10_seldom_32 : decode cX10_seldom 32 = .ok (.ldc2_w 416, 3) := by decide +kernel
theorem dX10_seldom_35 : decode cX10_seldom 35 = .ok (.lreturn, 1) := by decide +kernel
theorem dX10_seldom_36 : decode cX10_seldom 36 = .ok (.aload_n 0, 1) := by decide +kernel
theorem dX10_seldom_37 : decode cX10_seldom 37 = .ok (.iload_n 1, 1) := by decide +kernel
theorem dX10_seldom_38 : decode cX10_seldom 38 = .ok (.invokevirtual 322, 3) := by decide +kernel
theorem dX10_seldom_41 : decode cX10_seldom 41 = .ok (.i2l, 1) := by decide +kernel
theorem dX10_seldom_42 : decode cX10_seldom 42 = .ok (.lstore 4, 2) := by decide +kernel
theorem dX10_seldom_44 : decode cX10_seldom 44 = .ok (.lconst 0, 1) := by decide +kernel
theorem dX10_seldom_45 : decode cX10_seldom 45 = .ok (.lstore 6, 2) := by decide +kernel
theorem dX10_seldom_47 : decode cX10_seldom 47 = .ok (.iconst 0, 1) := by decide +kernel
theorem dX10_seldom_48 : decode cX10_seldom 48 = .ok (.istore 8, 2) := by decide +kernel
theorem dX10_seldom_50 : decode cX10_seldom 50 = .ok (.iload 8, 2) := by decide +kernel
theorem dX10_seldom_52 : decode cX10_seldom 52 = .ok (.iload_n 3, 1) := by decide +kernel
theorem dX10_seldom_53 : decode cX10_seldom 53 = .ok (.if_icmp .gt 45, 3) := by decide +kernel
theorem dX10_seldom_56 : decode cX10_seldom 56 = .ok (.iload 8, 2) := by decide +kernel
theorem dX10_seldom_58 : decode cX10_seldom 58 = .ok (.iload_n 2, 1) := by decide +kernel
theorem dX10_seldom_59 : decode cX10_seldom 59 = .ok (.if_icmp .gt 39, 3) := by decide +kernel
theorem dX10_seldom_62 : decode cX10_seldom 62 = .ok (.lload 6, 2) := by decide +kernel
theorem dX10_seldom_64 : decode cX10_seldom 64 = .ok (.lload 4, 2) := by decide +kernel
theorem dX10_seldom_66 : decode cX10_seldom 66 = .ok (.iload 8, 2) := by decide +kernel
theorem dX10_seldom_68 : decode cX10_seldom 68 = .ok (.invokestatic 418, 3) := by decide +kernel
theorem dX10_seldom_71 : decode cX10_seldom 71 = .ok (.aload_n 0, 1) := by decide +kernel
theorem dX10_seldom_72 : decode cX10_seldom 72 = .ok (.getfield 9, 3) := by decide +kernel
theorem dX10_seldom_75 : decode cX10_seldom 75 = .ok (.iconst 2, 1) := by decide +kernel
theorem dX10_seldom_76 : decode cX10_seldom 76 = .ok (.iaload, 1) := by decide +kernel
theorem dX10_seldom_77 : decode cX10_seldom 77 = .ok (.i2l, 1) := by decide +kernel
theorem dX10_seldom_78 : decode cX10_seldom 78 = .ok (.lload 4, 2) := by decide +kernel
theorem dX10_seldom_80 : decode cX10_seldom 80 = .ok (.lsub, 1) := by decide +kernel
theorem dX10_seldom_81 : decode cX10_seldom 81 = .ok (.iload_n 2, 1) := by decide +kernel
theorem dX10_seldom_82 : decode cX10_seldom 82 = .ok (.iload 8, 2) := by decide +kernel
theorem dX10_seldom_84 : decode cX10_seldom 84 = .ok (.isub, 1) := by decide +kernel
theorem dX10_seldom_85 : decode cX10_seldom 85 = .ok (.invokestatic 418, 3) := by decide +kernel
theorem dX10_seldom_88 : decode cX10_seldom 88 = .ok (.lmul, 1) := by decide +kernel
theorem dX10_seldom_89 : decode cX10_seldom 89 = .ok (.ladd, 1) := by decide +kernel
theorem dX10_seldom_90 : decode cX10_seldom 90 = .ok (.lstore 6, 2) := by decide +kernel
theorem dX10_seldom_92 : decode cX10_seldom 92 = .ok (.iinc 8 1, 3) := by decide +kernel
theorem dX10_seldom_95 : decode cX10_seldom 95 = .ok (.goto (-45), 3) := by decide +kernel
theorem dX10_seldom_98 : decode cX10_seldom 98 = .ok (.lload 6, 2) := by decide +kernel
theorem dX10_seldom_100 : decode cX10_seldom 100 = .ok (.lreturn, 1) := by decide +kernel
def uX10_seldom : List Cond := .code yX10_seldom cX10_seldom 9 (some .long) :: ([.methodLink RX10 89 yX10_isLaw, .instanceMethod yX10_isLaw, .selects RX10 yX10_isLaw yX10_isLaw, .initialized RX10, .code yX10_isLaw cX10_isLaw 2 (some .boolean), .fieldLink RX10 9 "LuckyTicketModel" "world" "[I", .methodLink RX10 82 yX10_in, .static yX10_in, .code yX10_in cX10_in 6 (some .boolean), .constantLong RX10 416 (-2), .constantLong RX10 414 (4), .methodLink RX10 322 yX10_allOf, .instanceMethod yX10_allOf, .selects RX10 yX10_allOf yX10_allOf, .code yX10_allOf cX10_allOf 2 (some .int), .methodLink RX10 319 yX10_rankOf, .instanceMethod yX10_rankOf, .selects RX10 yX10_rankOf yX10_rankOf, .code yX10_rankOf cX10_rankOf 5 (some .int), .fieldLink RX10 20 "LuckyTicketModel" "luck" "[I", .methodLink RX10 418 yX10_choose, .static yX10_choose, .code yX10_choose cX10_choose 6 (some .long)] ++ wsX100)
theorem iX10_seldom_X10 : ∀ w ∈ wsX100, w ∈ uX10_seldom := fun _ h => List.mem_cons_of_mem _ (List.mem_append_right _ h)
set_option maxRecDepth 20000 in
theorem gX10_seldom__X10_isLaw_V89 : GoodIn uX10_seldom (wsV RX10 89 RX10 yX10_isLaw uX10_isLaw) := goodIn_p _ [5, 9] rfl (by decide +kernel)
set_option maxRecDepth 20000 in
theorem gX10_seldom__X10_in_S82 : GoodIn uX10_seldom (va_wsS RX10 82 yX10_in uX10_in) := goodIn_p _ [9] rfl (by decide +kernel)
set_option maxRecDepth 20000 in
theorem gX10_seldom__X10_allOf_V322 : GoodIn uX10_seldom (wsV RX10 322 RX10 yX10_allOf uX10_allOf) := goodIn_p _ [15, 19] rfl (by decide +kernel)
set_option maxRecDepth 20000 in
theorem gX10_seldom__X10_choose_S418 : GoodIn uX10_seldom (va_wsS RX10 418 yX10_choose uX10_choose) := goodIn_p _ [23] rfl (by decide +kernel)
set_option maxHeartbeats 4000000 in
set_option maxRecDepth 100000 in
theorem kX10_seldom (l : Launch) (dC : Nat → ClassId) (dI : Nat → Nat → Nat) (o0 : Nat) (x_th : Int32) (mwo : Nat) (mim : Nat) (mhi : Nat) (mlu : Nat) (mtp : Nat) (x_td : Int32) (mfv : Nat) (x_sz : Int32) (x_at : Int32) (x_fr : Int32) (x_to : Int32) (x_va : Int32) (x_fk : Int32) (x_fp : Int32) (mfr : Nat) (mwt : Nat) (x_wt : Int32) (x_op : Int32) (x_jo : Int32) (mfg : Nat) (mpl : Nat) (x_dr : Int64) (mtm : Nat) (mfa : Nat) (mqu : Nat) (mmo : Nat) (mwy : Nat) (mwn : Nat) (mma : Nat) (mwi : Nat) (mnu : Nat) (mmv : Nat) (c_wo : ClassId) (c_lu : ClassId) (w_wo : Nat → Int32) (w_lu : Nat → Int32) (ln : Int32) (bs : Int32) (tk : Int32) (lw : Int32) (li : Int32) (a1 : Int32) (a2 : Int32) (a3 : Int32) (b_ln : (0 : Int) ≤ ln.toInt ∧ ln.toInt ≤ 12) (b_bs : (0 : Int) ≤ bs.toInt ∧ bs.toInt ≤ 16) (b_tk : (0 : Int) ≤ tk.toInt ∧ tk.toInt ≤ 20000) (b_lw : (0 : Int) ≤ lw.toInt ∧ lw.toInt ≤ 9) (hw0 : w_wo 0 = ln) (hw1 : w_wo 1 = bs) (hw2 : w_wo 2 = tk) (hw3 : w_wo 3 = lw) (hw4 : w_wo 4 = li) (hwz : (ln.toInt = 0 ∧ bs.toInt = 0 ∧ tk.toInt = 0 ∧ lw.toInt = 0) ∨ (1 ≤ ln.toInt ∧ 2 ≤ bs.toInt ∧ 1 ≤ tk.toInt)) : Met l yX10_seldom uX10_seldom ({ frames := 2, cells := 0, slots := 0, locals := 46 }) (va_Pc [.ref o0, .int a1, .int a2, .int a3] (pw (dC, dI) vwCl [(o0, .inr (8, [.int x_th, .ref mwo, .ref mim, .ref mhi, .ref mlu, .ref mtp, .int x_td, .ref mfv, .int x_sz, .int x_at, .int x_fr, .int x_to, .int x_va, .int x_fk, .int x_fp, .ref mfr, .ref mwt, .int x_wt, .int x_op, .int x_jo, .ref mfg, .ref mpl, .long x_dr, .ref mtm, .ref mfa, .ref mqu, .ref mmo, .ref mwy, .ref mwn, .ref mma, .ref mwi, .ref mnu, .ref mmv])), (mwo, .inl (c_wo, 1875, .inl w_wo)), (mlu, .inl (c_lu, 20000, .inl w_lu))] [(c_wo, .int), (c_lu, .int)])) (vp_Sl (fun r => True)) 0 0 (fun _ => False) := by
  refine Met.ofW (cc := cX10_seldom) (maxL := 9) (ret := (some .long)) (by decide) rfl ?_
  intro p e s m args below meth c s₁ B hml hv
  obtain ⟨rfl, hP, hK, hN⟩ := hv
  have hx := B.exec
  have hb := B.bytes
  have hr := B.returns
  have hts := atoms_spec (ws := uX10_seldom) B.pre
  have hown : s.vm.findClass RX10 = some m.cls := findClass_of_methodNamed B.named
  have hlocks := B.notSynchronized
  have hl := lv_entry ([.ref o0, .int a1, .int a2, .int a3]) (n := 9) (Nat.le_of_ble_eq_true rfl)
  rw [lg_entry_eq]
  generalize (lg_sl ([.ref o0, .int a1, .int a2, .int a3]) ++ List.replicate (9 - (lg_sl ([.ref o0, .int a1, .int a2, .int a3])).length) Slot.unset).toArray = ls at hl ⊢
  have hl : lv_has ls 9 [(0, .ref o0), (1, .int a1), (2, .int a2), (3, .int a3)] := hl
  refine lv_aload_n hx hb dX10_seldom_0 rfl (lv_at hl 0 rfl) ?_
  refine lv_iload_n hx hb dX10_seldom_1 rfl (lv_at hl 1 rfl) ?_
  refine vp_callSi (W.runV (As := [.int a1]) (rest := []) ⟨hx, hb, hml, hown, hts⟩ (kX10_isLaw l dC dI o0 x_th mwo mim mhi mlu mtp x_td mfv x_sz x_at x_fr x_to x_va x_fk x_fp mfr mwt x_wt x_op x_jo mfg mpl x_dr mtm mfa mqu mmo mwy mwn mma mwi mnu mmv c_wo w_wo ln bs tk lw li a1 b_ln b_bs b_tk b_lw (hw0) (hw1) (hw2) (hw3) (hw4) (hwz)) (cwV 1 hts gX10_seldom__X10_isLaw_V89 rfl rfl rfl (by decide +kernel) ⟨lel 2 2 rfl, lel 46 46 rfl⟩) ⟨pw_fb, va_recv hK hP (ci := 8) (q0 := 0) rfl rfl, (pw_use hP hK hN [0, 1] rfl [0] rfl)⟩ rfl rfl hl.1 rfl (lv_room (Nat.le_of_ble_eq_true rfl)) dX10_seldom_2 ⟨lel 0 0 rfl, lel 0 0 rfl⟩) (fun r_82 h_r_82 => ?_)
  obtain ⟨b_r_82, nz_r_82⟩ := h_r_82
  have b_r_82 : (0 : Int) ≤ r_82.toInt ∧ r_82.toInt ≤ 1 := b_r_82
  refine lv_if_eq (tgt := 32) hx hb dX10_seldom_5 (by decide) (fun c_83 => ?_) (fun c_83 => ?_)
  ·
    have n_c_83 : (r_82.toInt : Int) = 0 := c_eq rfl (by decide) c_83
    have b_r_82 : (0 : Int) ≤ r_82.toInt ∧ r_82.toInt ≤ 0 := r_eq1 b_r_82 (by decide : (0 : Int) ≤ (0 : Int32).toInt ∧ (0 : Int32).toInt ≤ 0) n_c_83 (by decide)
    refine lv_ldc2 (v := (-2)) hx hb hown (hts (.constantLong RX10 416 (-2)) (List.mem_of_getElem? (i := 10) rfl)) dX10_seldom_32 ?_
    exact W.lret (v := (-2)) hx hb hr (fun t ht hW => ⟨(-2), rfl, trivial, ht⟩) t_nil dX10_seldom_35
  ·
    have n_c_83 : (r_82.toInt : Int) ≠ 0 := c_ne rfl (by decide) c_83
    have b_r_82 : (1 : Int) ≤ r_82.toInt ∧ r_82.toInt ≤ 1 := r_ne1 b_r_82 (by decide : (0 : Int) ≤ (0 : Int32).toInt ∧ (0 : Int32).toInt ≤ 0) n_c_83 (by decide)
    obtain ⟨b_a1, g_84⟩ := nz_r_82 c_83
    refine lv_iload_n hx hb dX10_seldom_8 rfl (lv_at hl 2 rfl) ?_
    obtain ⟨z_85, e_z_85⟩ : ∃ y : Int64, y = a2.toInt64 := ⟨_, rfl⟩
    refine lv_i2l (v := z_85) hx hb dX10_seldom_9 e_z_85.symm ?_
    obtain ⟨q_z_85, b_z_85⟩ := ti_i2l e_z_85 (ti_rng a2)
    refine lv_lconst (v := 1) hx hb dX10_seldom_10 (by decide) ?_
    refine lv_ldc2 (v := 4) hx hb hown (hts (.constantLong RX10 414 (4)) (List.mem_of_getElem? (i := 11) rfl)) dX10_seldom_11 ?_
    refine vp_callSi (W.runS (As := [.long z_85, .long 1, .long 4]) (rest := []) ⟨hx, hb, hml, hown, hts⟩ (kX10_in l dC dI z_85 1 4 ) (va_cwS 3 hts gX10_seldom__X10_in_S82 rfl rfl rfl (by decide +kernel) ⟨lel 1 2 rfl, lel 25 46 rfl⟩) ⟨pn_fb, pn_use⟩ rfl rfl hl.1 rfl (lv_room (Nat.le_of_ble_eq_true rfl)) dX10_seldom_14 ⟨lel 0 0 rfl, lel 0 0 rfl⟩) (fun r_86 h_r_86 => ?_)
    obtain ⟨b_r_86, nz_r_86⟩ := h_r_86
    have b_r_86 : (0 : Int) ≤ r_86.toInt ∧ r_86.toInt ≤ 1 := b_r_86
    refine lv_if_eq (tgt := 32) hx hb dX10_seldom_17 (by decide) (fun c_87 => ?_) (fun c_87 => ?_)
    ·
      have n_c_87 : (r_86.toInt : Int) = 0 := c_eq rfl (by decide) c_87
      have b_r_86 : (0 : Int) ≤ r_86.toInt ∧ r_86.toInt ≤ 0 := r_eq1 b_r_86 (by decide : (0 : Int) ≤ (0 : Int32).toInt ∧ (0 : Int32).toInt ≤ 0) n_c_87 (by decide)
      refine lv_ldc2 (v := (-2)) hx hb hown (hts (.constantLong RX10 416 (-2)) (List.mem_of_getElem? (i := 10) rfl)) dX10_seldom_32 ?_
      exact W.lret (v := (-2)) hx hb hr (fun t ht hW => ⟨(-2), rfl, trivial, ht⟩) t_nil dX10_seldom_35
    ·
      have n_c_87 : (r_86.toInt : Int) ≠ 0 := c_ne rfl (by decide) c_87
      have b_r_86 : (1 : Int) ≤ r_86.toInt ∧ r_86.toInt ≤ 1 := r_ne1 b_r_86 (by decide : (0 : Int) ≤ (0 : Int32).toInt ∧ (0 : Int32).toInt ≤ 0) n_c_87 (by decide)
      have g_88 := nz_r_86 c_87
      have lt0_g_88 := (by decide : (1 : Int64).toInt = 1)
      have lt1_g_88 := (by decide : (4 : Int64).toInt = 4)
      have b_z_85 : (1 : Int) ≤ z_85.toInt ∧ z_85.toInt ≤ 4 := by
        have q0 := b_z_85
        have q1 := (by decide : (1 : Int) ≤ (1 : Int64).toInt ∧ (1 : Int64).toInt ≤ 1)
        have q2 := (by decide : (4 : Int) ≤ (4 : Int64).toInt ∧ (4 : Int64).toInt ≤ 4)
        omega
      have b_a2 : (1 : Int) ≤ a2.toInt ∧ a2.toInt ≤ 4 := by
        have q0 := b_z_85; have q1 := q_z_85; have q2 := (ti_rng a2); omega
      refine lv_iload_n hx hb dX10_seldom_20 rfl (lv_at hl 3 rfl) ?_
      obtain ⟨z_89, e_z_89⟩ : ∃ y : Int64, y = a3.toInt64 := ⟨_, rfl⟩
      refine lv_i2l (v := z_89) hx hb dX10_seldom_21 e_z_89.symm ?_
      obtain ⟨q_z_89, b_z_89⟩ := ti_i2l e_z_89 (ti_rng a3)
      refine lv_lconst (v := 0) hx hb dX10_seldom_22 (by decide) ?_
      refine lv_ldc2 (v := 4) hx hb hown (hts (.constantLong RX10 414 (4)) (List.mem_of_getElem? (i := 11) rfl)) dX10_seldom_23 ?_
      refine vp_callSi (W.runS (As := [.long z_89, .long 0, .long 4]) (rest := []) ⟨hx, hb, hml, hown, hts⟩ (kX10_in l dC dI z_89 0 4 ) (va_cwS 3 hts gX10_seldom__X10_in_S82 rfl rfl rfl (by decide +kernel) ⟨lel 1 2 rfl, lel 25 46 rfl⟩) ⟨pn_fb, pn_use⟩ rfl rfl hl.1 rfl (lv_room (Nat.le_of_ble_eq_true rfl)) dX10_seldom_26 ⟨lel 0 0 rfl, lel 0 0 rfl⟩) (fun r_90 h_r_90 => ?_)
      obtain ⟨b_r_90, nz_r_90⟩ := h_r_90
      have b_r_90 : (0 : Int) ≤ r_90.toInt ∧ r_90.toInt ≤ 1 := b_r_90
      refine lv_if_ne (tgt := 36) hx hb dX10_seldom_29 (by decide) (fun c_91 => ?_) (fun c_91 => ?_)
      ·
        have n_c_91 : (r_90.toInt : Int) ≠ 0 := c_ne rfl (by decide) c_91
        have b_r_90 : (1 : Int) ≤ r_90.toInt ∧ r_90.toInt ≤ 1 := r_ne1 b_r_90 (by decide : (0 : Int) ≤ (0 : Int32).toInt ∧ (0 : Int32).toInt ≤ 0) n_c_91 (by decide)
        have g_92 := nz_r_90 c_91
        have lt0_g_92 := (by decide : (0 : Int64).toInt = 0)
        have lt1_g_92 := (by decide : (4 : Int64).toInt = 4)
        have b_z_89 : (0 : Int) ≤ z_89.toInt ∧ z_89.toInt ≤ 4 := by
          have q0 := b_z_89
          have q1 := (by decide : (0 : Int) ≤ (0 : Int64).toInt ∧ (0 : Int64).toInt ≤ 0)
          have q2 := (by decide : (4 : Int) ≤ (4 : Int64).toInt ∧ (4 : Int64).toInt ≤ 4)
          omega
        have b_a3 : (0 : Int) ≤ a3.toInt ∧ a3.toInt ≤ 4 := by
          have q0 := b_z_89; have q1 := q_z_89; have q2 := (ti_rng a3); omega
        refine lv_aload_n hx hb dX10_seldom_36 rfl (lv_at hl 0 rfl) ?_
        refine lv_iload_n hx hb dX10_seldom_37 rfl (lv_at hl 1 rfl) ?_
        refine vp_callSi (W.runV (As := [.int a1]) (rest := []) ⟨hx, hb, hml, hown, hts⟩ (kX10_allOf l dC dI o0 x_th mwo mim mhi mlu mtp x_td mfv x_sz x_at x_fr x_to x_va x_fk x_fp mfr mwt x_wt x_op x_jo mfg mpl x_dr mtm mfa mqu mmo mwy mwn mma mwi mnu mmv c_wo c_lu w_wo w_lu ln bs tk lw li a1 b_ln b_bs b_tk b_lw (hw0) (hw1) (hw2) (hw3) (hw4) (hwz)) (cwV 1 hts gX10_seldom__X10_allOf_V322 rfl rfl rfl (by decide +kernel) ⟨lel 2 2 rfl, lel 45 46 rfl⟩) ⟨pw_fb, va_recv hK hP (ci := 8) (q0 := 0) rfl rfl, (pw_use hP hK hN [0, 1, 2] rfl [0, 1] rfl)⟩ rfl rfl hl.1 rfl (lv_room (Nat.le_of_ble_eq_true rfl)) dX10_seldom_38 ⟨lel 0 0 rfl, lel 0 0 rfl⟩) (fun r_93 h_r_93 => ?_)
        obtain ⟨b_r_93, pr_r_93⟩ := h_r_93
        have b_r_93 : (0 : Int) ≤ r_93.toInt ∧ r_93.toInt ≤ 20000 := b_r_93
        obtain ⟨z_94, e_z_94⟩ : ∃ y : Int64, y = r_93.toInt64 := ⟨_, rfl⟩
        refine lv_i2l (v := z_94) hx hb dX10_seldom_41 e_z_94.symm ?_
        obtain ⟨q_z_94, b_z_94⟩ := ti_i2l e_z_94 b_r_93
        refine lv_lstore (lv' := [(4, .long z_94), (0, .ref o0), (1, .int a1), (2, .int a2), (3, .int a3)]) hx hb dX10_seldom_42 hl (by decide) rfl (fun ls hl => ?_)
        refine lv_lconst (v := 0) hx hb dX10_seldom_44 (by decide) ?_
        refine lv_lstore (lv' := [(6, .long 0), (4, .long z_94), (0, .ref o0), (1, .int a1), (2, .int a2), (3, .int a3)]) hx hb dX10_seldom_45 hl (by decide) rfl (fun ls hl => ?_)
        refine lv_iconst (v := 0) hx hb dX10_seldom_47 (by decide) ?_
        refine lv_istore (lv' := [(8, .int 0), (6, .long 0), (4, .long z_94), (0, .ref o0), (1, .int a1), (2, .int a2), (3, .int a3)]) hx hb dX10_seldom_48 hl (by decide) rfl (fun ls hl => ?_)
        refine loopP (σ := Int32 × Int64) (fun v => (5 - v.1.toInt).toNat) (fun v ls => ((0 : Int) ≤ v.1.toInt ∧ v.1.toInt ≤ 5) ∧ lv_has ls 9 [(8, .int v.1), (6, .long v.2), (4, .long z_94), (0, .ref o0), (1, .int a1), (2, .int a2), (3, .int a3)]) (fun v ls hI ih_50_151 => ?_) ((0 : Int32), (0 : Int64)) ⟨(show (0 : Int) ≤ (0 : Int32).toInt ∧ (0 : Int32).toInt ≤ 5 from (rg_w (by decide : (0 : Int) ≤ (0 : Int32).toInt ∧ (0 : Int32).toInt ≤ 0) (by decide) (by decide))), lv_sub hl [0, 1, 2, 3, 4, 5, 6] rfl⟩
        obtain ⟨y_106, y_107⟩ := v
        obtain ⟨b_y_106, hl⟩ := hI
        have b_y_106 : (0 : Int) ≤ y_106.toInt ∧ y_106.toInt ≤ 5 := b_y_106
        have hl : lv_has ls 9 [(8, .int y_106), (6, .long y_107), (4, .long z_94), (0, .ref o0), (1, .int a1), (2, .int a2), (3, .int a3)] := hl
        refine lv_iload hx hb dX10_seldom_50 (lv_at hl 0 rfl) ?_
        refine lv_iload_n hx hb dX10_seldom_52 rfl (lv_at hl 6 rfl) ?_
        refine lv_icmp_gt (tgt := 98) hx hb dX10_seldom_53 (by decide) (fun c_152 => ?_) (fun c_152 => ?_)
        ·
          have n_c_152 : (a3.toInt : Int) < y_106.toInt := c_gt rfl rfl c_152
          have b_y_106 : (1 : Int) ≤ y_106.toInt ∧ y_106.toInt ≤ 5 := r_lt2 b_a3 b_y_106 n_c_152 (by decide)
          refine lv_lload hx hb dX10_seldom_98 (lv_at hl 1 rfl) ?_
          exact W.lret (v := y_107) hx hb hr (fun t ht hW => ⟨y_107, rfl, trivial, ht⟩) t_nil dX10_seldom_100
        ·
          have n_c_152 : (y_106.toInt : Int) ≤ a3.toInt := c_ngt rfl rfl c_152
          have b_y_106 : (0 : Int) ≤ y_106.toInt ∧ y_106.toInt ≤ 4 := r_le1 b_y_106 b_a3 n_c_152 (by decide)
          refine lv_iload hx hb dX10_seldom_56 (lv_at hl 0 rfl) ?_
          refine lv_iload_n hx hb dX10_seldom_58 rfl (lv_at hl 5 rfl) ?_
          refine lv_icmp_gt (tgt := 98) hx hb dX10_seldom_59 (by decide) (fun c_153 => ?_) (fun c_153 => ?_)
          ·
            have n_c_153 : (a2.toInt : Int) < y_106.toInt := c_gt rfl rfl c_153
            have b_a2 : (1 : Int) ≤ a2.toInt ∧ a2.toInt ≤ 3 := r_lt1 b_a2 b_y_106 n_c_153 (by decide)
            have b_y_106 : (2 : Int) ≤ y_106.toInt ∧ y_106.toInt ≤ 4 := r_lt2 b_a2 b_y_106 n_c_153 (by decide)
            refine lv_lload hx hb dX10_seldom_98 (lv_at hl 1 rfl) ?_
            exact W.lret (v := y_107) hx hb hr (fun t ht hW => ⟨y_107, rfl, trivial, ht⟩) t_nil dX10_seldom_100
          ·
            have n_c_153 : (y_106.toInt : Int) ≤ a2.toInt := c_ngt rfl rfl c_153
            refine lv_lload hx hb dX10_seldom_62 (lv_at hl 1 rfl) ?_
            refine lv_lload hx hb dX10_seldom_64 (lv_at hl 2 rfl) ?_
            refine lv_iload hx hb dX10_seldom_66 (lv_at hl 0 rfl) ?_
            refine vp_callSl (W.runS (As := [.long z_94, .int y_106]) (rest := [.long y_107]) ⟨hx, hb, hml, hown, hts⟩ (kX10_choose l dC dI z_94 y_106 b_y_106) (va_cwS 2 hts gX10_seldom__X10_choose_S418 rfl rfl rfl (by decide +kernel) ⟨lel 1 2 rfl, lel 25 46 rfl⟩) ⟨pn_fb, pn_use⟩ rfl rfl hl.1 rfl (lv_room (Nat.le_of_ble_eq_true rfl)) dX10_seldom_68 ⟨lel 0 0 rfl, lel 0 0 rfl⟩) (fun r_154 h_r_154 => ?_)
            refine lv_aload_n hx hb dX10_seldom_71 rfl (lv_at hl 3 rfl) ?_
            refine va_get (D := (dC, dI)) (ci := 8) (v := .ref mwo) (C := RX10) (T := TX10) (N := 33) hx hb hts iX10_seldom_X10 hown hK hP 0 rfl rfl 1 (by decide) (hts (.fieldLink RX10 9 "LuckyTicketModel" "world" "[I") (List.mem_of_getElem? (i := 6) rfl)) (fun _ h9 => h9) rfl dX10_seldom_72 ?_
            refine lv_iconst (v := 2) hx hb dX10_seldom_75 (by decide) ?_
            refine va_iald hx hb hK hP 1 0 rfl rfl (vp_in_b (by decide : (2 : Int) ≤ (2 : Int32).toInt ∧ (2 : Int32).toInt ≤ 2) (by decide) (by decide)) dX10_seldom_76 ?_
            refine lv_topi (fun z_155 e_z_155 => ?_)
            obtain rfl : z_155 = tk := e_z_155.trans hw2
            obtain ⟨z_156, e_z_156⟩ : ∃ y : Int64, y = tk.toInt64 := ⟨_, rfl⟩
            refine lv_i2l (v := z_156) hx hb dX10_seldom_77 e_z_156.symm ?_
            obtain ⟨q_z_156, b_z_156⟩ := ti_i2l e_z_156 b_tk
            refine lv_lload hx hb dX10_seldom_78 (lv_at hl 2 rfl) ?_
            refine lv_lsub hx hb dX10_seldom_80 ?_
            refine lv_topl (fun z_157 e_z_157 => ?_)
            obtain ⟨q_z_157, b_z_157⟩ := tl_sub (lo := -20000) (hi := 20000) e_z_157 rfl rfl b_z_156 b_z_94 (by decide)
            refine lv_iload_n hx hb dX10_seldom_81 rfl (lv_at hl 5 rfl) ?_
            refine lv_iload hx hb dX10_seldom_82 (lv_at hl 0 rfl) ?_
            refine lv_isub hx hb dX10_seldom_84 ?_
            refine lv_topi (fun z_158 e_z_158 => ?_)
            obtain ⟨q_z_158, b_z_158⟩ := ti_sub (lo := -3) (hi := 4) e_z_158 rfl rfl b_a2 b_y_106 (by decide)
            refine vp_callSl (W.runS (As := [.long z_157, .int z_158]) (rest := [.long r_154, .long y_107]) ⟨hx, hb, hml, hown, hts⟩ (kX10_choose l dC dI z_157 z_158 ⟨by omega, by omega⟩) (va_cwS 2 hts gX10_seldom__X10_choose_S418 rfl rfl rfl (by decide +kernel) ⟨lel 1 2 rfl, lel 25 46 rfl⟩) ⟨pn_fb, pn_use⟩ rfl rfl hl.1 rfl (lv_room (Nat.le_of_ble_eq_true rfl)) dX10_seldom_85 ⟨lel 0 0 rfl, lel 0 0 rfl⟩) (fun r_159 h_r_159 => ?_)
            refine lv_lmul hx hb dX10_seldom_88 ?_
            refine lv_topl (fun z_160 e_z_160 => ?_)
            refine lv_ladd hx hb dX10_seldom_89 ?_
            refine lv_topl (fun z_161 e_z_161 => ?_)
            refine lv_lstore (lv' := [(6, .long z_161), (8, .int y_106), (4, .long z_94), (0, .ref o0), (1, .int a1), (2, .int a2), (3, .int a3)]) hx hb dX10_seldom_90 hl (by decide) rfl (fun ls hl => ?_)
            obtain ⟨z_162, e_z_162⟩ : ∃ y : Int32, y = y_106 + 1 := ⟨_, rfl⟩
            refine lv_iinc (v := z_162) (lv' := [(8, .int z_162), (6, .long z_161), (4, .long z_94), (0, .ref o0), (1, .int a1), (2, .int a2), (3, .int a3)]) hx hb dX10_seldom_92 hl (k := 1) rfl (by rw [e_z_162]; rfl) (by decide) rfl (fun ls hl => ?_)
            obtain ⟨q_z_162, b_z_162⟩ := ti_add (lo := 1) (hi := 5) e_z_162 rfl (by decide : (1 : Int32).toInt = 1) b_y_106 (by decide : (1 : Int) ≤ (1 : Int32).toInt ∧ (1 : Int32).toInt ≤ 1) (by decide)
            refine lv_goto (tgt := 50) hx hb dX10_seldom_95 (by decide) ?_
            exact ih_50_151 (z_162, z_161) _ ⟨(show (0 : Int) ≤ z_162.toInt ∧ z_162.toInt ≤ 5 from (rg_w b_z_162 (by decide) (by decide))), lv_sub hl [0, 1, 2, 3, 4, 5, 6] rfl⟩ (show (5 - z_162.toInt).toNat < (5 - y_106.toInt).toNat by omega)
      ·
        have n_c_91 : (r_90.toInt : Int) = 0 := c_eq rfl (by decide) c_91
        have b_r_90 : (0 : Int) ≤ r_90.toInt ∧ r_90.toInt ≤ 0 := r_eq1 b_r_90 (by decide : (0 : Int) ≤ (0 : Int32).toInt ∧ (0 : Int32).toInt ≤ 0) n_c_91 (by decide)
        refine lv_ldc2 (v := (-2)) hx hb hown (hts (.constantLong RX10 416 (-2)) (List.mem_of_getElem? (i := 10) rfl)) dX10_seldom_32 ?_
        exact W.lret (v := (-2)) hx hb hr (fun t ht hW => ⟨(-2), rfl, trivial, ht⟩) t_nil dX10_seldom_35
theorem dX10_sets_0 : decode cX10_sets 0 = .ok (.aload_n 0, 1) := by decide +kernel
theorem dX10_sets_1 : decode cX10_sets 1 = .ok (.invokevirtual 355, 3) := by decide +kernel
theorem dX10_sets_4 : decode cX10_sets 4 = .ok (.ifCond .eq 29, 3) := by decide +kernel
theorem dX10_sets_7 : decode cX10_sets 7 = .ok (.iload_n 1, 1) := by decide +kernel
theorem dX10_sets_8 : decode cX10_sets 8 = .ok (.i2l, 1) := by decide +kernel
theorem dX10_sets_9 : decode cX10_sets 9 = .ok (.lconst 0, 1) := by decide +kernel
theorem dX10_sets_10 : decode cX10_sets 10 = .ok (.ldc2_w 414, 3) := by decide +kernel
theorem dX10_sets_13 : decode cX10_sets 13 = .ok (.invokestatic 82, 3) := by decide +kernel
theorem dX10_sets_16 : decode cX10_sets 16 = .ok (.ifCond .eq 17, 3) := by decide +kernel
theorem dX10_sets_19 : decode cX10_sets 19 = .ok (.aload_n 0, 1) := by decide +kernel
theorem dX10_sets_20 : decode cX10_sets 20 = .ok (.getfield 9, 3) := by decide +kernel
theorem dX10_sets_23 : decode cX10_sets 23 = .ok (.iconst 2, 1) := by decide +kernel
theorem dX10_sets_24 : decode cX10_sets 24 = .ok (.iaload, 1) := by decide +kernel
theorem dX10_sets_25 : decode cX10_sets 25 = .ok (.i2l, 1) := by decide +kernel
theorem dX10_sets_26 : decode cX10_sets 26 = .ok (.iload_n 1, 1) := by decide +kernel
theorem dX10_sets_27 : decode cX10_sets 27 = .ok (.invokestatic 418, 3) := by decide +kernel
theorem dX10_sets_30 : decode cX10_sets 30 = .ok (.goto 6, 3) := by decide +kernel
theorem dX10_sets_33 : decode cX10_sets 33 = .ok (.ldc2_w 416, 3) := by decide +kernel
theorem dX10_sets_36 : decode cX10_sets 36 = .ok (.lreturn, 1) := by decide +kernel
def uX10_sets : List Cond := .code yX10_sets cX10_sets 2 (some .long) :: ([.methodLink RX10 355 yX10_isRoll, .instanceMethod yX10_isRoll, .selects RX10 yX10_isRoll yX10_isRoll, .initialized RX10, .code yX10_isRoll cX10_isRoll 1 (some .boolean), .fieldLink RX10 9 "LuckyTicketModel" "world" "[I", .constantLong RX10 416 (-2), .constantLong RX10 414 (4), .methodLink RX10 82 yX10_in, .static yX10_in, .code yX10_in cX10_in 6 (some .boolean), .methodLink RX10 418 yX10_choose, .static yX10_choose, .code yX10_choose cX10_choose 6 (some .long)] ++ wsX100)
theorem iX10_sets_X10 : ∀ w ∈ wsX100, w ∈ uX10_sets := fun _ h => List.mem_cons_of_mem _ (List.mem_append_right _ h)
set_option maxRecDepth 20000 in
theorem gX10_sets__X10_isRoll_V355 : GoodIn uX10_sets (wsV RX10 355 RX10 yX10_isRoll uX10_isRoll) := goodIn_p _ [5] rfl (by decide +kernel)
set_option maxRecDepth 20000 in
theorem gX10_sets__X10_in_S82 : GoodIn uX10_sets (va_wsS RX10 82 yX10_in uX10_in) := goodIn_p _ [11] rfl (by decide +kernel)
set_option maxRecDepth 20000 in
theorem gX10_sets__X10_choose_S418 : GoodIn uX10_sets (va_wsS RX10 418 yX10_choose uX10_choose) := goodIn_p _ [14] rfl (by decide +kernel)
set_option maxHeartbeats 4000000 in
set_option maxRecDepth 100000 in
theorem kX10_sets (l : Launch) (dC : Nat → ClassId) (dI : Nat → Nat → Nat) (o0 : Nat) (x_th : Int32) (mwo : Nat) (mim : Nat) (mhi : Nat) (mlu : Nat) (mtp : Nat) (x_td : Int32) (mfv : Nat) (x_sz : Int32) (x_at : Int32) (x_fr : Int32) (x_to : Int32) (x_va : Int32) (x_fk : Int32) (x_fp : Int32) (mfr : Nat) (mwt : Nat) (x_wt : Int32) (x_op : Int32) (x_jo : Int32) (mfg : Nat) (mpl : Nat) (x_dr : Int64) (mtm : Nat) (mfa : Nat) (mqu : Nat) (mmo : Nat) (mwy : Nat) (mwn : Nat) (mma : Nat) (mwi : Nat) (mnu : Nat) (mmv : Nat) (c_wo : ClassId) (w_wo : Nat → Int32) (ln : Int32) (bs : Int32) (tk : Int32) (lw : Int32) (li : Int32) (a1 : Int32) (b_ln : (0 : Int) ≤ ln.toInt ∧ ln.toInt ≤ 12) (b_bs : (0 : Int) ≤ bs.toInt ∧ bs.toInt ≤ 16) (b_tk : (0 : Int) ≤ tk.toInt ∧ tk.toInt ≤ 20000) (b_lw : (0 : Int) ≤ lw.toInt ∧ lw.toInt ≤ 9) (hw0 : w_wo 0 = ln) (hw1 : w_wo 1 = bs) (hw2 : w_wo 2 = tk) (hw3 : w_wo 3 = lw) (hw4 : w_wo 4 = li) (hwz : (ln.toInt = 0 ∧ bs.toInt = 0 ∧ tk.toInt = 0 ∧ lw.toInt = 0) ∨ (1 ≤ ln.toInt ∧ 2 ≤ bs.toInt ∧ 1 ≤ tk.toInt)) : Met l yX10_sets uX10_sets ({ frames := 1, cells := 0, slots := 0, locals := 25 }) (va_Pc [.ref o0, .int a1] (pw (dC, dI) vwCl [(o0, .inr (8, [.int x_th, .ref mwo, .ref mim, .ref mhi, .ref mlu, .ref mtp, .int x_td, .ref mfv, .int x_sz, .int x_at, .int x_fr, .int x_to, .int x_va, .int x_fk, .int x_fp, .ref mfr, .ref mwt, .int x_wt, .int x_op, .int x_jo, .ref mfg, .ref mpl, .long x_dr, .ref mtm, .ref mfa, .ref mqu, .ref mmo, .ref mwy, .ref mwn, .ref mma, .ref mwi, .ref mnu, .ref mmv])), (mwo, .inl (c_wo, 1875, .inl w_wo))] [(c_wo, .int)])) (vp_Sl (fun r => True)) 0 0 (fun _ => False) := by
  refine Met.ofW (cc := cX10_sets) (maxL := 2) (ret := (some .long)) (by decide) rfl ?_
  intro p e s m args below meth c s₁ B hml hv
  obtain ⟨rfl, hP, hK, hN⟩ := hv
  have hx := B.exec
  have hb := B.bytes
  have hr := B.returns
  have hts := atoms_spec (ws := uX10_sets) B.pre
  have hown : s.vm.findClass RX10 = some m.cls := findClass_of_methodNamed B.named
  have hlocks := B.notSynchronized
  have hl := lv_entry ([.ref o0, .int a1]) (n := 2) (Nat.le_of_ble_eq_true rfl)
  rw [lg_entry_eq]
  generalize (lg_sl ([.ref o0, .int a1]) ++ List.replicate (2 - (lg_sl ([.ref o0, .int a1])).length) Slot.unset).toArray = ls at hl ⊢
  have hl : lv_has ls 2 [(0, .ref o0), (1, .int a1)] := hl
  refine lv_aload_n hx hb dX10_sets_0 rfl (lv_at hl 0 rfl) ?_
  refine vp_callSi (W.runV (As := []) (rest := []) ⟨hx, hb, hml, hown, hts⟩ (kX10_isRoll l dC dI o0 x_th mwo mim mhi mlu mtp x_td mfv x_sz x_at x_fr x_to x_va x_fk x_fp mfr mwt x_wt x_op x_jo mfg mpl x_dr mtm mfa mqu mmo mwy mwn mma mwi mnu mmv c_wo w_wo ln bs tk lw li b_ln b_bs b_tk b_lw (hw0) (hw1) (hw2) (hw3) (hw4) (hwz)) (cwV 0 hts gX10_sets__X10_isRoll_V355 rfl rfl rfl (by decide +kernel) ⟨lel 1 1 rfl, lel 20 25 rfl⟩) ⟨pw_fb, va_recv hK hP (ci := 8) (q0 := 0) rfl rfl, (pw_use hP hK hN [0, 1] rfl [0] rfl)⟩ rfl rfl hl.1 rfl (lv_room (Nat.le_of_ble_eq_true rfl)) dX10_sets_1 ⟨lel 0 0 rfl, lel 0 0 rfl⟩) (fun r_11 h_r_11 => ?_)
  obtain ⟨b_r_11, nz_r_11⟩ := h_r_11
  have b_r_11 : (0 : Int) ≤ r_11.toInt ∧ r_11.toInt ≤ 1 := b_r_11
  refine lv_if_eq (tgt := 33) hx hb dX10_sets_4 (by decide) (fun c_12 => ?_) (fun c_12 => ?_)
  ·
    have n_c_12 : (r_11.toInt : Int) = 0 := c_eq rfl (by decide) c_12
    have b_r_11 : (0 : Int) ≤ r_11.toInt ∧ r_11.toInt ≤ 0 := r_eq1 b_r_11 (by decide : (0 : Int) ≤ (0 : Int32).toInt ∧ (0 : Int32).toInt ≤ 0) n_c_12 (by decide)
    refine lv_ldc2 (v := (-2)) hx hb hown (hts (.constantLong RX10 416 (-2)) (List.mem_of_getElem? (i := 7) rfl)) dX10_sets_33 ?_
    exact W.lret (v := (-2)) hx hb hr (fun t ht hW => ⟨(-2), rfl, trivial, ht⟩) t_nil dX10_sets_36
  ·
    have n_c_12 : (r_11.toInt : Int) ≠ 0 := c_ne rfl (by decide) c_12
    have b_r_11 : (1 : Int) ≤ r_11.toInt ∧ r_11.toInt ≤ 1 := r_ne1 b_r_11 (by decide : (0 : Int) ≤ (0 : Int32).toInt ∧ (0 : Int32).toInt ≤ 0) n_c_12 (by decide)
    obtain ⟨b_ln, g_13⟩ := nz_r_11 c_12
    refine lv_iload_n hx hb dX10_sets_7 rfl (lv_at hl 1 rfl) ?_
    obtain ⟨z_14, e_z_14⟩ : ∃ y : Int64, y = a1.toInt64 := ⟨_, rfl⟩
    refine lv_i2l (v := z_14) hx hb dX10_sets_8 e_z_14.symm ?_
    obtain ⟨q_z_14, b_z_14⟩ := ti_i2l e_z_14 (ti_rng a1)
    refine lv_lconst (v := 0) hx hb dX10_sets_9 (by decide) ?_
    refine lv_ldc2 (v := 4) hx hb hown (hts (.constantLong RX10 414 (4)) (List.mem_of_getElem? (i := 8) rfl)) dX10_sets_10 ?_
    refine vp_callSi (W.runS (As := [.long z_14, .long 0, .long 4]) (rest := []) ⟨hx, hb, hml, hown, hts⟩ (kX10_in l dC dI z_14 0 4 ) (va_cwS 3 hts gX10_sets__X10_in_S82 rfl rfl rfl (by decide +kernel) ⟨lel 1 1 rfl, lel 25 25 rfl⟩) ⟨pn_fb, pn_use⟩ rfl rfl hl.1 rfl (lv_room (Nat.le_of_ble_eq_true rfl)) dX10_sets_13 ⟨lel 0 0 rfl, lel 0 0 rfl⟩) (fun r_15 h_r_15 => ?_)
    obtain ⟨b_r_15, nz_r_15⟩ := h_r_15
    have b_r_15 : (0 : Int) ≤ r_15.toInt ∧ r_15.toInt ≤ 1 := b_r_15
    refine lv_if_eq (tgt := 33) hx hb dX10_sets_16 (by decide) (fun c_16 => ?_) (fun c_16 => ?_)
    ·
      have n_c_16 : (r_15.toInt : Int) = 0 := c_eq rfl (by decide) c_16
      have b_r_15 : (0 : Int) ≤ r_15.toInt ∧ r_15.toInt ≤ 0 := r_eq1 b_r_15 (by decide : (0 : Int) ≤ (0 : Int32).toInt ∧ (0 : Int32).toInt ≤ 0) n_c_16 (by decide)
      refine lv_ldc2 (v := (-2)) hx hb hown (hts (.constantLong RX10 416 (-2)) (List.mem_of_getElem? (i := 7) rfl)) dX10_sets_33 ?_
      exact W.lret (v := (-2)) hx hb hr (fun t ht hW => ⟨(-2), rfl, trivial, ht⟩) t_nil dX10_sets_36
    ·
      have n_c_16 : (r_15.toInt : Int) ≠ 0 := c_ne rfl (by decide) c_16
      have b_r_15 : (1 : Int) ≤ r_15.toInt ∧ r_15.toInt ≤ 1 := r_ne1 b_r_15 (by decide : (0 : Int) ≤ (0 : Int32).toInt ∧ (0 : Int32).toInt ≤ 0) n_c_16 (by decide)
      have g_17 := nz_r_15 c_16
      have lt0_g_17 := (by decide : (0 : Int64).toInt = 0)
      have lt1_g_17 := (by decide : (4 : Int64).toInt = 4)
      have b_z_14 : (0 : Int) ≤ z_14.toInt ∧ z_14.toInt ≤ 4 := by
        have q0 := b_z_14
        have q1 := (by decide : (0 : Int) ≤ (0 : Int64).toInt ∧ (0 : Int64).toInt ≤ 0)
        have q2 := (by decide : (4 : Int) ≤ (4 : Int64).toInt ∧ (4 : Int64).toInt ≤ 4)
        omega
      have b_a1 : (0 : Int) ≤ a1.toInt ∧ a1.toInt ≤ 4 := by
        have q0 := b_z_14; have q1 := q_z_14; have q2 := (ti_rng a1); omega
      refine lv_aload_n hx hb dX10_sets_19 rfl (lv_at hl 0 rfl) ?_
      refine va_get (D := (dC, dI)) (ci := 8) (v := .ref mwo) (C := RX10) (T := TX10) (N := 33) hx hb hts iX10_sets_X10 hown hK hP 0 rfl rfl 1 (by decide) (hts (.fieldLink RX10 9 "LuckyTicketModel" "world" "[I") (List.mem_of_getElem? (i := 6) rfl)) (fun _ h9 => h9) rfl dX10_sets_20 ?_
      refine lv_iconst (v := 2) hx hb dX10_sets_23 (by decide) ?_
      refine va_iald hx hb hK hP 1 0 rfl rfl (vp_in_b (by decide : (2 : Int) ≤ (2 : Int32).toInt ∧ (2 : Int32).toInt ≤ 2) (by decide) (by decide)) dX10_sets_24 ?_
      refine lv_topi (fun z_18 e_z_18 => ?_)
      obtain rfl : z_18 = tk := e_z_18.trans hw2
      obtain ⟨z_19, e_z_19⟩ : ∃ y : Int64, y = tk.toInt64 := ⟨_, rfl⟩
      refine lv_i2l (v := z_19) hx hb dX10_sets_25 e_z_19.symm ?_
      obtain ⟨q_z_19, b_z_19⟩ := ti_i2l e_z_19 b_tk
      refine lv_iload_n hx hb dX10_sets_26 rfl (lv_at hl 1 rfl) ?_
      refine vp_callSl (W.runS (As := [.long z_19, .int a1]) (rest := []) ⟨hx, hb, hml, hown, hts⟩ (kX10_choose l dC dI z_19 a1 b_a1) (va_cwS 2 hts gX10_sets__X10_choose_S418 rfl rfl rfl (by decide +kernel) ⟨lel 1 1 rfl, lel 25 25 rfl⟩) ⟨pn_fb, pn_use⟩ rfl rfl hl.1 rfl (lv_room (Nat.le_of_ble_eq_true rfl)) dX10_sets_27 ⟨lel 0 0 rfl, lel 0 0 rfl⟩) (fun r_20 h_r_20 => ?_)
      refine lv_goto (tgt := 36) hx hb dX10_sets_30 (by decide) ?_
      exact W.lret (v := r_20) hx hb hr (fun t ht hW => ⟨r_20, rfl, trivial, ht⟩) t_nil dX10_sets_36
theorem dX10_isSale_0 : decode cX10_isSale 0 = .ok (.aload_n 0, 1) := by decide +kernel
theorem dX10_isSale_1 : decode cX10_isSale 1 = .ok (.iload_n 1, 1) := by decide +kernel
theorem dX10_isSale_2 : decode cX10_isSale 2 = .ok (.invokevirtual 89, 3) := by decide +kernel
theorem dX10_isSale_5 : decode cX10_isSale 5 = .ok (.ifCond .eq 26, 3) := by decide +kernel
theorem dX10_isSale_8 : decode cX10_isSale 8 = .ok (.iload_n 2, 1) := by decide +kernel
theorem dX10_isSale_9 : decode cX10_isSale 9 = .ok (.invokestatic 404, 3) := by decide +kernel
theorem dX10_isSale_12 : decode cX10_isSale 12 = .ok (.ifCond .eq 19, 3) := by decide +kernel
theorem dX10_isSale_15 : decode cX10_isSale 15 = .ok (.iload_n 3, 1) := by decide +kernel
theorem dX10_isSale_16 : decode cX10_isSale 16 = .ok (.i2l, 1) := by decide +kernel
theorem dX10_isSale_17 : decode cX10_isSale 17 = .ok (.lconst 1, 1) := by decide +kernel
theorem dX10_isSale_18 : decode cX10_isSale 18 = .ok (.ldc2_w 346, 3) := by decide +kernel
theorem dX10_isSale_21 : decode cX10_isSale 21 = .ok (.invokestatic 82, 3) := by decide +kernel
theorem dX10_isSale_24 : decode cX10_isSale 24 = .ok (.ifCond .eq 7, 3) := by decide +kernel
theorem dX10_isSale_27 : decode cX10_isSale 27 = .ok (.iconst 1, 1) := by decide +kernel
theorem dX10_isSale_28 : decode cX10_isSale 28 = .ok (.goto 4, 3) := by decide +kernel
theorem dX10_isSale_31 : decode cX10_isSale 31 = .ok (.iconst 0, 1) := by decide +kernel
theorem dX10_isSale_32 : decode cX10_isSale 32 = .ok (.ireturn, 1) := by decide +kernel
def uX10_isSale : List Cond := .code yX10_isSale cX10_isSale 4 (some .boolean) :: ([.methodLink RX10 89 yX10_isLaw, .instanceMethod yX10_isLaw, .selects RX10 yX10_isLaw yX10_isLaw, .initialized RX10, .code yX10_isLaw cX10_isLaw 2 (some .boolean), .fieldLink RX10 9 "LuckyTicketModel" "world" "[I", .methodLink RX10 82 yX10_in, .static yX10_in, .code yX10_in cX10_in 6 (some .boolean), .methodLink RX10 404 yX10_isSeed, .static yX10_isSeed, .code yX10_isSeed cX10_isSeed 1 (some .boolean), .constantLong RX10 402 (2000000000), .constantLong RX10 346 (60)] ++ wsX100)
theorem iX10_isSale_X10 : ∀ w ∈ wsX100, w ∈ uX10_isSale := fun _ h => List.mem_cons_of_mem _ (List.mem_append_right _ h)
set_option maxRecDepth 20000 in
theorem gX10_isSale__X10_isLaw_V89 : GoodIn uX10_isSale (wsV RX10 89 RX10 yX10_isLaw uX10_isLaw) := goodIn_p _ [5, 9] rfl (by decide +kernel)
set_option maxRecDepth 20000 in
theorem gX10_isSale__X10_isSeed_S404 : GoodIn uX10_isSale (va_wsS RX10 404 yX10_isSeed uX10_isSeed) := goodIn_p _ [12, 9] rfl (by decide +kernel)
set_option maxRecDepth 20000 in
theorem gX10_isSale__X10_in_S82 : GoodIn uX10_isSale (va_wsS RX10 82 yX10_in uX10_in) := goodIn_p _ [9] rfl (by decide +kernel)
set_option maxHeartbeats 4000000 in
set_option maxRecDepth 100000 in
theorem kX10_isSale (l : Launch) (dC : Nat → ClassId) (dI : Nat → Nat → Nat) (o0 : Nat) (x_th : Int32) (mwo : Nat) (mim : Nat) (mhi : Nat) (mlu : Nat) (mtp : Nat) (x_td : Int32) (mfv : Nat) (x_sz : Int32) (x_at : Int32) (x_fr : Int32) (x_to : Int32) (x_va : Int32) (x_fk : Int32) (x_fp : Int32) (mfr : Nat) (mwt : Nat) (x_wt : Int32) (x_op : Int32) (x_jo : Int32) (mfg : Nat) (mpl : Nat) (x_dr : Int64) (mtm : Nat) (mfa : Nat) (mqu : Nat) (mmo : Nat) (mwy : Nat) (mwn : Nat) (mma : Nat) (mwi : Nat) (mnu : Nat) (mmv : Nat) (c_wo : ClassId) (w_wo : Nat → Int32) (ln : Int32) (bs : Int32) (tk : Int32) (lw : Int32) (li : Int32) (a1 : Int32) (a2 : Int32) (a3 : Int32) (b_ln : (0 : Int) ≤ ln.toInt ∧ ln.toInt ≤ 12) (b_bs : (0 : Int) ≤ bs.toInt ∧ bs.toInt ≤ 16) (b_tk : (0 : Int) ≤ tk.toInt ∧ tk.toInt ≤ 20000) (b_lw : (0 : Int) ≤ lw.toInt ∧ lw.toInt ≤ 9) (hw0 : w_wo 0 = ln) (hw1 : w_wo 1 = bs) (hw2 : w_wo 2 = tk) (hw3 : w_wo 3 = lw) (hw4 : w_wo 4 = li) (hwz : (ln.toInt = 0 ∧ bs.toInt = 0 ∧ tk.toInt = 0 ∧ lw.toInt = 0) ∨ (1 ≤ ln.toInt ∧ 2 ≤ bs.toInt ∧ 1 ≤ tk.toInt)) : Met l yX10_isSale uX10_isSale ({ frames := 2, cells := 0, slots := 0, locals := 46 }) (va_Pc [.ref o0, .int a1, .int a2, .int a3] (pw (dC, dI) vwCl [(o0, .inr (8, [.int x_th, .ref mwo, .ref mim, .ref mhi, .ref mlu, .ref mtp, .int x_td, .ref mfv, .int x_sz, .int x_at, .int x_fr, .int x_to, .int x_va, .int x_fk, .int x_fp, .ref mfr, .ref mwt, .int x_wt, .int x_op, .int x_jo, .ref mfg, .ref mpl, .long x_dr, .ref mtm, .ref mfa, .ref mqu, .ref mmo, .ref mwy, .ref mwn, .ref mma, .ref mwi, .ref mnu, .ref mmv])), (mwo, .inl (c_wo, 1875, .inl w_wo))] [(c_wo, .int)])) (vp_Si (fun r => ((0 : Int) ≤ r.toInt ∧ r.toInt ≤ 1) ∧ (r ≠ 0 → ((0 : Int) ≤ a1.toInt ∧ a1.toInt ≤ 8) ∧ ((0 : Int) ≤ a2.toInt ∧ a2.toInt ≤ 2000000000) ∧ ((1 : Int) ≤ a3.toInt ∧ a3.toInt ≤ 60) ∧ (a1.toInt < lw.toInt ∧ 1 ≤ tk.toInt)))) 0 0 (fun _ => False) := by
  refine Met.ofW (cc := cX10_isSale) (maxL := 4) (ret := (some .boolean)) (by decide) rfl ?_
  intro p e s m args below meth c s₁ B hml hv
  obtain ⟨rfl, hP, hK, hN⟩ := hv
  have hx := B.exec
  have hb := B.bytes
  have hr := B.returns
  have hts := atoms_spec (ws := uX10_isSale) B.pre
  have hown : s.vm.findClass RX10 = some m.cls := findClass_of_methodNamed B.named
  have hlocks := B.notSynchronized
  have hl := lv_entry ([.ref o0, .int a1, .int a2, .int a3]) (n := 4) (Nat.le_of_ble_eq_true rfl)
  rw [lg_entry_eq]
  generalize (lg_sl ([.ref o0, .int a1, .int a2, .int a3]) ++ List.replicate (4 - (lg_sl ([.ref o0, .int a1, .int a2, .int a3])).length) Slot.unset).toArray = ls at hl ⊢
  have hl : lv_has ls 4 [(0, .ref o0), (1, .int a1), (2, .int a2), (3, .int a3)] := hl
  refine lv_aload_n hx hb dX10_isSale_0 rfl (lv_at hl 0 rfl) ?_
  refine lv_iload_n hx hb dX10_isSale_1 rfl (lv_at hl 1 rfl) ?_
  refine vp_callSi (W.runV (As := [.int a1]) (rest := []) ⟨hx, hb, hml, hown, hts⟩ (kX10_isLaw l dC dI o0 x_th mwo mim mhi mlu mtp x_td mfv x_sz x_at x_fr x_to x_va x_fk x_fp mfr mwt x_wt x_op x_jo mfg mpl x_dr mtm mfa mqu mmo mwy mwn mma mwi mnu mmv c_wo w_wo ln bs tk lw li a1 b_ln b_bs b_tk b_lw (hw0) (hw1) (hw2) (hw3) (hw4) (hwz)) (cwV 1 hts gX10_isSale__X10_isLaw_V89 rfl rfl rfl (by decide +kernel) ⟨lel 2 2 rfl, lel 46 46 rfl⟩) ⟨pw_fb, va_recv hK hP (ci := 8) (q0 := 0) rfl rfl, (pw_use hP hK hN [0, 1] rfl [0] rfl)⟩ rfl rfl hl.1 rfl (lv_room (Nat.le_of_ble_eq_true rfl)) dX10_isSale_2 ⟨lel 0 0 rfl, lel 0 0 rfl⟩) (fun r_11 h_r_11 => ?_)
  obtain ⟨b_r_11, nz_r_11⟩ := h_r_11
  have b_r_11 : (0 : Int) ≤ r_11.toInt ∧ r_11.toInt ≤ 1 := b_r_11
  refine lv_if_eq (tgt := 31) hx hb dX10_isSale_5 (by decide) (fun c_12 => ?_) (fun c_12 => ?_)
  ·
    have n_c_12 : (r_11.toInt : Int) = 0 := c_eq rfl (by decide) c_12
    have b_r_11 : (0 : Int) ≤ r_11.toInt ∧ r_11.toInt ≤ 0 := r_eq1 b_r_11 (by decide : (0 : Int) ≤ (0 : Int32).toInt ∧ (0 : Int32).toInt ≤ 0) n_c_12 (by decide)
    refine lv_iconst (v := 0) hx hb dX10_isSale_31 (by decide) ?_
    exact W.zret (v := 0) hx hb hr rfl (fun t ht hW => ⟨0, rfl, ⟨(rg_w (by decide : (0 : Int) ≤ (0 : Int32).toInt ∧ (0 : Int32).toInt ≤ 0) (by decide) (by decide)), (fun h9 => absurd rfl h9)⟩, ht⟩) t_nil dX10_isSale_32
  ·
    have n_c_12 : (r_11.toInt : Int) ≠ 0 := c_ne rfl (by decide) c_12
    have b_r_11 : (1 : Int) ≤ r_11.toInt ∧ r_11.toInt ≤ 1 := r_ne1 b_r_11 (by decide : (0 : Int) ≤ (0 : Int32).toInt ∧ (0 : Int32).toInt ≤ 0) n_c_12 (by decide)
    obtain ⟨b_a1, g_13⟩ := nz_r_11 c_12
    refine lv_iload_n hx hb dX10_isSale_8 rfl (lv_at hl 2 rfl) ?_
    refine vp_callSi (W.runS (As := [.int a2]) (rest := []) ⟨hx, hb, hml, hown, hts⟩ (kX10_isSeed l dC dI a2 ) (va_cwS 1 hts gX10_isSale__X10_isSeed_S404 rfl rfl rfl (by decide +kernel) ⟨lel 2 2 rfl, lel 45 46 rfl⟩) ⟨pn_fb, pn_use⟩ rfl rfl hl.1 rfl (lv_room (Nat.le_of_ble_eq_true rfl)) dX10_isSale_9 ⟨lel 0 0 rfl, lel 0 0 rfl⟩) (fun r_14 h_r_14 => ?_)
    obtain ⟨b_r_14, nz_r_14⟩ := h_r_14
    have b_r_14 : (0 : Int) ≤ r_14.toInt ∧ r_14.toInt ≤ 1 := b_r_14
    refine lv_if_eq (tgt := 31) hx hb dX10_isSale_12 (by decide) (fun c_15 => ?_) (fun c_15 => ?_)
    ·
      have n_c_15 : (r_14.toInt : Int) = 0 := c_eq rfl (by decide) c_15
      have b_r_14 : (0 : Int) ≤ r_14.toInt ∧ r_14.toInt ≤ 0 := r_eq1 b_r_14 (by decide : (0 : Int) ≤ (0 : Int32).toInt ∧ (0 : Int32).toInt ≤ 0) n_c_15 (by decide)
      refine lv_iconst (v := 0) hx hb dX10_isSale_31 (by decide) ?_
      exact W.zret (v := 0) hx hb hr rfl (fun t ht hW => ⟨0, rfl, ⟨(rg_w (by decide : (0 : Int) ≤ (0 : Int32).toInt ∧ (0 : Int32).toInt ≤ 0) (by decide) (by decide)), (fun h9 => absurd rfl h9)⟩, ht⟩) t_nil dX10_isSale_32
    ·
      have n_c_15 : (r_14.toInt : Int) ≠ 0 := c_ne rfl (by decide) c_15
      have b_r_14 : (1 : Int) ≤ r_14.toInt ∧ r_14.toInt ≤ 1 := r_ne1 b_r_14 (by decide : (0 : Int) ≤ (0 : Int32).toInt ∧ (0 : Int32).toInt ≤ 0) n_c_15 (by decide)
      obtain ⟨b_a2, g_16⟩ := nz_r_14 c_15
      refine lv_iload_n hx hb dX10_isSale_15 rfl (lv_at hl 3 rfl) ?_
      obtain ⟨z_17, e_z_17⟩ : ∃ y : Int64, y = a3.toInt64 := ⟨_, rfl⟩
      refine lv_i2l (v := z_17) hx hb dX10_isSale_16 e_z_17.symm ?_
      obtain ⟨q_z_17, b_z_17⟩ := ti_i2l e_z_17 (ti_rng a3)
      refine lv_lconst (v := 1) hx hb dX10_isSale_17 (by decide) ?_
      refine lv_ldc2 (v := 60) hx hb hown (hts (.constantLong RX10 346 (60)) (List.mem_of_getElem? (i := 14) rfl)) dX10_isSale_18 ?_
      refine vp_callSi (W.runS (As := [.long z_17, .long 1, .long 60]) (rest := []) ⟨hx, hb, hml, hown, hts⟩ (kX10_in l dC dI z_17 1 60 ) (va_cwS 3 hts gX10_isSale__X10_in_S82 rfl rfl rfl (by decide +kernel) ⟨lel 1 2 rfl, lel 25 46 rfl⟩) ⟨pn_fb, pn_use⟩ rfl rfl hl.1 rfl (lv_room (Nat.le_of_ble_eq_true rfl)) dX10_isSale_21 ⟨lel 0 0 rfl, lel 0 0 rfl⟩) (fun r_18 h_r_18 => ?_)
      obtain ⟨b_r_18, nz_r_18⟩ := h_r_18
      have b_r_18 : (0 : Int) ≤ r_18.toInt ∧ r_18.toInt ≤ 1 := b_r_18
      refine lv_if_eq (tgt := 31) hx hb dX10_isSale_24 (by decide) (fun c_19 => ?_) (fun c_19 => ?_)
      ·
        have n_c_19 : (r_18.toInt : Int) = 0 := c_eq rfl (by decide) c_19
        have b_r_18 : (0 : Int) ≤ r_18.toInt ∧ r_18.toInt ≤ 0 := r_eq1 b_r_18 (by decide : (0 : Int) ≤ (0 : Int32).toInt ∧ (0 : Int32).toInt ≤ 0) n_c_19 (by decide)
        refine lv_iconst (v := 0) hx hb dX10_isSale_31 (by decide) ?_
        exact W.zret (v := 0) hx hb hr rfl (fun t ht hW => ⟨0, rfl, ⟨(rg_w (by decide : (0 : Int) ≤ (0 : Int32).toInt ∧ (0 : Int32).toInt ≤ 0) (by decide) (by decide)), (fun h9 => absurd rfl h9)⟩, ht⟩) t_nil dX10_isSale_32
      ·
        have n_c_19 : (r_18.toInt : Int) ≠ 0 := c_ne rfl (by decide) c_19
        have b_r_18 : (1 : Int) ≤ r_18.toInt ∧ r_18.toInt ≤ 1 := r_ne1 b_r_18 (by decide : (0 : Int) ≤ (0 : Int32).toInt ∧ (0 : Int32).toInt ≤ 0) n_c_19 (by decide)
        have g_20 := nz_r_18 c_19
        have lt0_g_20 := (by decide : (1 : Int64).toInt = 1)
        have lt1_g_20 := (by decide : (60 : Int64).toInt = 60)
        have b_z_17 : (1 : Int) ≤ z_17.toInt ∧ z_17.toInt ≤ 60 := by
          have q0 := b_z_17
          have q1 := (by decide : (1 : Int) ≤ (1 : Int64).toInt ∧ (1 : Int64).toInt ≤ 1)
          have q2 := (by decide : (60 : Int) ≤ (60 : Int64).toInt ∧ (60 : Int64).toInt ≤ 60)
          omega
        have b_a3 : (1 : Int) ≤ a3.toInt ∧ a3.toInt ≤ 60 := by
          have q0 := b_z_17; have q1 := q_z_17; have q2 := (ti_rng a3); omega
        refine lv_iconst (v := 1) hx hb dX10_isSale_27 (by decide) ?_
        refine lv_goto (tgt := 32) hx hb dX10_isSale_28 (by decide) ?_
        exact W.zret (v := 1) hx hb hr rfl (fun t ht hW => ⟨1, rfl, ⟨(rg_w (by decide : (1 : Int) ≤ (1 : Int32).toInt ∧ (1 : Int32).toInt ≤ 1) (by decide) (by decide)), (fun _ => ⟨⟨by omega, by omega⟩, ⟨by omega, by omega⟩, ⟨by omega, by omega⟩, (by omega)⟩)⟩, ht⟩) t_nil dX10_isSale_32
theorem dX10_between_0 : decode cX10_between 0 = .ok (.aload_n 0, 1) := by decide +kernel
theorem dX10_between_1 : decode cX10_between 1 = .ok (.iload_n 1, 1) := by decide +kernel
theorem dX10_between_2 : decode cX10_between 2 = .ok (.iload_n 2, 1) := by decide +kernel
theorem dX10_between_3 : decode cX10_between 3 = .ok (.invokevirtual 313, 3) := by decide +kernel
theorem dX10_between_6 : decode cX10_between 6 = .ok (.ifCond .eq 40, 3) := by decide +kernel
theorem dX10_between_9 : decode cX10_between 9 = .ok (.iload_n 3, 1) := by decide +kernel
theorem dX10_between_10 : decode cX10_between 10 = .ok (.i2l, 1) := by decide +kernel
theorem dX10_between_11 : decode cX10_between 11 = .ok (.iload_n 2, 1) := by decide +kernel
theorem dX10_between_12 : decode cX10_between 12 = .ok (.i2l, 1) := by decide +kernel
theorem dX10_between_13 : decode cX10_between 13 = .ok (.aload_n 0, 1) := by decide +kernel
theorem dX10_between_14 : decode cX10_between 14 = .ok (.getfield 9, 3) := by decide +kernel
theorem dX10_between_17 : decode cX10_between 17 = .ok (.iconst 2, 1) := by decide +kernel
theorem dX10_between_18 : decode cX10_between 18 = .ok (.iaload, 1) := by decide +kernel
theorem dX10_between_19 : decode cX10_between 19 = .ok (.iconst 1, 1) := by decide +kernel
theorem dX10_between_20 : decode cX10_between 20 = .ok (.isub, 1) := by decide +kernel
theorem dX10_between_21 : decode cX10_between 21 = .ok (.i2l, 1) := by decide +kernel
theorem dX10_between_22 : decode cX10_between 22 = .ok (.invokestatic 82, 3) := by decide +kernel
theorem dX10_between_25 : decode cX10_between 25 = .ok (.ifCond .eq 21, 3) := by decide +kernel
theorem dX10_between_28 : decode cX10_between 28 = .ok (.aload_n 0, 1) := by decide +kernel
theorem dX10_between_29 : decode cX10_between 29 = .ok (.iload_n 1, 1) := by decide +kernel
theorem dX10_between_30 : decode cX10_between 30 = .ok (.iload_n 3, 1) := by decide +kernel
theorem dX10_between_31 : decode cX10_between 31 = .ok (.iconst 1, 1) := by decide +kernel
theorem dX10_between_32 : decode cX10_between 32 = .ok (.iadd, 1) := by decide +kernel
theorem dX10_between_33 : decode cX10_between 33 = .ok (.invokevirtual 319, 3) := by decide +kernel
theorem dX10_between_36 : decode cX10_between 36 = .ok (.aload_n 0, 1) := by decide +kernel
theorem dX10_between_37 : decode cX10_between 37 = .ok (.iload_n 1, 1) := by decide +kernel
theorem dX10_between_38 : decode cX10_between 38 = .ok (.iload_n 2, 1) := by decide +kernel
theorem dX10_between_39 : decode cX10_between 39 = .ok (.invokevirtual 319, 3) := by decide +kernel
theorem dX10_between_42 : decode cX10_between 42 = .ok (.isub, 1) := by decide +kernel
theorem dX10_between_43 : decode cX10_between 43 = .ok (.goto 5, 3) := by decide +kernel
theorem dX10_between_46 : decode cX10_between 46 = .ok (.bipush (-2), 2) := by decide +kernel
theorem dX10_between_48 : decode cX10_between 48 = .ok (.ireturn, 1) := by decide +kernel
def uX10_between : List Cond := .code yX10_between cX10_between 4 (some .int) :: ([.methodLink RX10 313 yX10_isBoth, .instanceMethod yX10_isBoth, .selects RX10 yX10_isBoth yX10_isBoth, .initialized RX10, .code yX10_isBoth cX10_isBoth 3 (some .boolean), .methodLink RX10 89 yX10_isLaw, .instanceMethod yX10_isLaw, .selects RX10 yX10_isLaw yX10_isLaw, .code yX10_isLaw cX10_isLaw 2 (some .boolean), .fieldLink RX10 9 "LuckyTicketModel" "world" "[I", .methodLink RX10 82 yX10_in, .static yX10_in, .code yX10_in cX10_in 6 (some .boolean), .methodLink RX10 93 yX10_isTicket, .instanceMethod yX10_isTicket, .selects RX10 yX10_isTicket yX10_isTicket, .code yX10_isTicket cX10_isTicket 3 (some .boolean), .methodLink RX10 319 yX10_rankOf, .instanceMethod yX10_rankOf, .selects RX10 yX10_rankOf yX10_rankOf, .code yX10_rankOf cX10_rankOf 5 (some .int), .fieldLink RX10 20 "LuckyTicketModel" "luck" "[I"] ++ wsX100)
theorem iX10_between_X10 : ∀ w ∈ wsX100, w ∈ uX10_between := fun _ h => List.mem_cons_of_mem _ (List.mem_append_right _ h)
set_option maxRecDepth 20000 in
theorem gX10_between__X10_isBoth_V313 : GoodIn uX10_between (wsV RX10 313 RX10 yX10_isBoth uX10_isBoth) := goodIn_p _ [5, 9, 13, 17] rfl (by decide +kernel)
set_option maxRecDepth 20000 in
theorem gX10_between__X10_in_S82 : GoodIn uX10_between (va_wsS RX10 82 yX10_in uX10_in) := goodIn_p _ [13] rfl (by decide +kernel)
set_option maxRecDepth 20000 in
theorem gX10_between__X10_rankOf_V319 : GoodIn uX10_between (wsV RX10 319 RX10 yX10_rankOf uX10_rankOf) := goodIn_p _ [21] rfl (by decide +kernel)
set_option maxHeartbeats 4000000 in
set_option maxRecDepth 100000 in
theorem kX10_between (l : Launch) (dC : Nat → ClassId) (dI : Nat → Nat → Nat) (o0 : Nat) (x_th : Int32) (mwo : Nat) (mim : Nat) (mhi : Nat) (mlu : Nat) (mtp : Nat) (x_td : Int32) (mfv : Nat) (x_sz : Int32) (x_at : Int32) (x_fr : Int32) (x_to : Int32) (x_va : Int32) (x_fk : Int32) (x_fp : Int32) (mfr : Nat) (mwt : Nat) (x_wt : Int32) (x_op : Int32) (x_jo : Int32) (mfg : Nat) (mpl : Nat) (x_dr : Int64) (mtm : Nat) (mfa : Nat) (mqu : Nat) (mmo : Nat) (mwy : Nat) (mwn : Nat) (mma : Nat) (mwi : Nat) (mnu : Nat) (mmv : Nat) (c_wo : ClassId) (c_lu : ClassId) (w_wo : Nat → Int32) (w_lu : Nat → Int32) (ln : Int32) (bs : Int32) (tk : Int32) (lw : Int32) (li : Int32) (a1 : Int32) (a2 : Int32) (a3 : Int32) (b_ln : (0 : Int) ≤ ln.toInt ∧ ln.toInt ≤ 12) (b_bs : (0 : Int) ≤ bs.toInt ∧ bs.toInt ≤ 16) (b_tk : (0 : Int) ≤ tk.toInt ∧ tk.toInt ≤ 20000) (b_lw : (0 : Int) ≤ lw.toInt ∧ lw.toInt ≤ 9) (hw0 : w_wo 0 = ln) (hw1 : w_wo 1 = bs) (hw2 : w_wo 2 = tk) (hw3 : w_wo 3 = lw) (hw4 : w_wo 4 = li) (hwz : (ln.toInt = 0 ∧ bs.toInt = 0 ∧ tk.toInt = 0 ∧ lw.toInt = 0) ∨ (1 ≤ ln.toInt ∧ 2 ≤ bs.toInt ∧ 1 ≤ tk.toInt)) : Met l yX10_between uX10_between ({ frames := 3, cells := 0, slots := 0, locals := 69 }) (va_Pc [.ref o0, .int a1, .int a2, .int a3] (pw (dC, dI) vwCl [(o0, .inr (8, [.int x_th, .ref mwo, .ref mim, .ref mhi, .ref mlu, .ref mtp, .int x_td, .ref mfv, .int x_sz, .int x_at, .int x_fr, .int x_to, .int x_va, .int x_fk, .int x_fp, .ref mfr, .ref mwt, .int x_wt, .int x_op, .int x_jo, .ref mfg, .ref mpl, .long x_dr, .ref mtm, .ref mfa, .ref mqu, .ref mmo, .ref mwy, .ref mwn, .ref mma, .ref mwi, .ref mnu, .ref mmv])), (mwo, .inl (c_wo, 1875, .inl w_wo)), (mlu, .inl (c_lu, 20000, .inl w_lu))] [(c_wo, .int), (c_lu, .int)])) (vp_Si (fun r => ((-20000 : Int) ≤ r.toInt ∧ r.toInt ≤ 20000))) 0 0 (fun _ => False) := by
  refine Met.ofW (cc := cX10_between) (maxL := 4) (ret := (some .int)) (by decide) rfl ?_
  intro p e s m args below meth c s₁ B hml hv
  obtain ⟨rfl, hP, hK, hN⟩ := hv
  have hx := B.exec
  have hb := B.bytes
  have hr := B.returns
  have hts := atoms_spec (ws := uX10_between) B.pre
  have hown : s.vm.findClass RX10 = some m.cls := findClass_of_methodNamed B.named
  have hlocks := B.notSynchronized
  have hl := lv_entry ([.ref o0, .int a1, .int a2, .int a3]) (n := 4) (Nat.le_of_ble_eq_true rfl)
  rw [lg_entry_eq]
  generalize (lg_sl ([.ref o0, .int a1, .int a2, .int a3]) ++ List.replicate (4 - (lg_sl ([.ref o0, .int a1, .int a2, .int a3])).length) Slot.unset).toArray = ls at hl ⊢
  have hl : lv_has ls 4 [(0, .ref o0), (1, .int a1), (2, .int a2), (3, .int a3)] := hl
  refine lv_aload_n hx hb dX10_between_0 rfl (lv_at hl 0 rfl) ?_
  refine lv_iload_n hx hb dX10_between_1 rfl (lv_at hl 1 rfl) ?_
  refine lv_iload_n hx hb dX10_between_2 rfl (lv_at hl 2 rfl) ?_
  refine vp_callSi (W.runV (As := [.int a1, .int a2]) (rest := []) ⟨hx, hb, hml, hown, hts⟩ (kX10_isBoth l dC dI o0 x_th mwo mim mhi mlu mtp x_td mfv x_sz x_at x_fr x_to x_va x_fk x_fp mfr mwt x_wt x_op x_jo mfg mpl x_dr mtm mfa mqu mmo mwy mwn mma mwi mnu mmv c_wo w_wo ln bs tk lw li a1 a2 b_ln b_bs b_tk b_lw (hw0) (hw1) (hw2) (hw3) (hw4) (hwz)) (cwV 2 hts gX10_between__X10_isBoth_V313 rfl rfl rfl (by decide +kernel) ⟨lel 3 3 rfl, lel 69 69 rfl⟩) ⟨pw_fb, va_recv hK hP (ci := 8) (q0 := 0) rfl rfl, (pw_use hP hK hN [0, 1] rfl [0] rfl)⟩ rfl rfl hl.1 rfl (lv_room (Nat.le_of_ble_eq_true rfl)) dX10_between_3 ⟨lel 0 0 rfl, lel 0 0 rfl⟩) (fun r_16 h_r_16 => ?_)
  obtain ⟨b_r_16, nz_r_16⟩ := h_r_16
  have b_r_16 : (0 : Int) ≤ r_16.toInt ∧ r_16.toInt ≤ 1 := b_r_16
  refine lv_if_eq (tgt := 46) hx hb dX10_between_6 (by decide) (fun c_17 => ?_) (fun c_17 => ?_)
  ·
    have n_c_17 : (r_16.toInt : Int) = 0 := c_eq rfl (by decide) c_17
    have b_r_16 : (0 : Int) ≤ r_16.toInt ∧ r_16.toInt ≤ 0 := r_eq1 b_r_16 (by decide : (0 : Int) ≤ (0 : Int32).toInt ∧ (0 : Int32).toInt ≤ 0) n_c_17 (by decide)
    refine lv_bipush (v := (-2)) hx hb dX10_between_46 (by decide) ?_
    exact W.iret (v := (-2)) hx hb hr (fun t ht hW => ⟨(-2), rfl, (rg_w (by decide : (-2 : Int) ≤ ((-2) : Int32).toInt ∧ ((-2) : Int32).toInt ≤ -2) (by decide) (by decide)), ht⟩) t_nil dX10_between_48
  ·
    have n_c_17 : (r_16.toInt : Int) ≠ 0 := c_ne rfl (by decide) c_17
    have b_r_16 : (1 : Int) ≤ r_16.toInt ∧ r_16.toInt ≤ 1 := r_ne1 b_r_16 (by decide : (0 : Int) ≤ (0 : Int32).toInt ∧ (0 : Int32).toInt ≤ 0) n_c_17 (by decide)
    obtain ⟨b_a1, b_a2, g_18⟩ := nz_r_16 c_17
    refine lv_iload_n hx hb dX10_between_9 rfl (lv_at hl 3 rfl) ?_
    obtain ⟨z_19, e_z_19⟩ : ∃ y : Int64, y = a3.toInt64 := ⟨_, rfl⟩
    refine lv_i2l (v := z_19) hx hb dX10_between_10 e_z_19.symm ?_
    obtain ⟨q_z_19, b_z_19⟩ := ti_i2l e_z_19 (ti_rng a3)
    refine lv_iload_n hx hb dX10_between_11 rfl (lv_at hl 2 rfl) ?_
    obtain ⟨z_20, e_z_20⟩ : ∃ y : Int64, y = a2.toInt64 := ⟨_, rfl⟩
    refine lv_i2l (v := z_20) hx hb dX10_between_12 e_z_20.symm ?_
    obtain ⟨q_z_20, b_z_20⟩ := ti_i2l e_z_20 b_a2
    refine lv_aload_n hx hb dX10_between_13 rfl (lv_at hl 0 rfl) ?_
    refine va_get (D := (dC, dI)) (ci := 8) (v := .ref mwo) (C := RX10) (T := TX10) (N := 33) hx hb hts iX10_between_X10 hown hK hP 0 rfl rfl 1 (by decide) (hts (.fieldLink RX10 9 "LuckyTicketModel" "world" "[I") (List.mem_of_getElem? (i := 10) rfl)) (fun _ h9 => h9) rfl dX10_between_14 ?_
    refine lv_iconst (v := 2) hx hb dX10_between_17 (by decide) ?_
    refine va_iald hx hb hK hP 1 0 rfl rfl (vp_in_b (by decide : (2 : Int) ≤ (2 : Int32).toInt ∧ (2 : Int32).toInt ≤ 2) (by decide) (by decide)) dX10_between_18 ?_
    refine lv_topi (fun z_21 e_z_21 => ?_)
    obtain rfl : z_21 = tk := e_z_21.trans hw2
    refine lv_iconst (v := 1) hx hb dX10_between_19 (by decide) ?_
    refine lv_isub hx hb dX10_between_20 ?_
    refine lv_topi (fun z_22 e_z_22 => ?_)
    obtain ⟨q_z_22, b_z_22⟩ := ti_sub (lo := -1) (hi := 19999) e_z_22 rfl (by decide : (1 : Int32).toInt = 1) b_tk (by decide : (1 : Int) ≤ (1 : Int32).toInt ∧ (1 : Int32).toInt ≤ 1) (by decide)
    obtain ⟨z_23, e_z_23⟩ : ∃ y : Int64, y = z_22.toInt64 := ⟨_, rfl⟩
    refine lv_i2l (v := z_23) hx hb dX10_between_21 e_z_23.symm ?_
    obtain ⟨q_z_23, b_z_23⟩ := ti_i2l e_z_23 b_z_22
    refine vp_callSi (W.runS (As := [.long z_19, .long z_20, .long z_23]) (rest := []) ⟨hx, hb, hml, hown, hts⟩ (kX10_in l dC dI z_19 z_20 z_23 ) (va_cwS 3 hts gX10_between__X10_in_S82 rfl rfl rfl (by decide +kernel) ⟨lel 1 3 rfl, lel 25 69 rfl⟩) ⟨pn_fb, pn_use⟩ rfl rfl hl.1 rfl (lv_room (Nat.le_of_ble_eq_true rfl)) dX10_between_22 ⟨lel 0 0 rfl, lel 0 0 rfl⟩) (fun r_24 h_r_24 => ?_)
    obtain ⟨b_r_24, nz_r_24⟩ := h_r_24
    have b_r_24 : (0 : Int) ≤ r_24.toInt ∧ r_24.toInt ≤ 1 := b_r_24
    refine lv_if_eq (tgt := 46) hx hb dX10_between_25 (by decide) (fun c_25 => ?_) (fun c_25 => ?_)
    ·
      have n_c_25 : (r_24.toInt : Int) = 0 := c_eq rfl (by decide) c_25
      have b_r_24 : (0 : Int) ≤ r_24.toInt ∧ r_24.toInt ≤ 0 := r_eq1 b_r_24 (by decide : (0 : Int) ≤ (0 : Int32).toInt ∧ (0 : Int32).toInt ≤ 0) n_c_25 (by decide)
      refine lv_bipush (v := (-2)) hx hb dX10_between_46 (by decide) ?_
      exact W.iret (v := (-2)) hx hb hr (fun t ht hW => ⟨(-2), rfl, (rg_w (by decide : (-2 : Int) ≤ ((-2) : Int32).toInt ∧ ((-2) : Int32).toInt ≤ -2) (by decide) (by decide)), ht⟩) t_nil dX10_between_48
    ·
      have n_c_25 : (r_24.toInt : Int) ≠ 0 := c_ne rfl (by decide) c_25
      have b_r_24 : (1 : Int) ≤ r_24.toInt ∧ r_24.toInt ≤ 1 := r_ne1 b_r_24 (by decide : (0 : Int) ≤ (0 : Int32).toInt ∧ (0 : Int32).toInt ≤ 0) n_c_25 (by decide)
      have g_26 := nz_r_24 c_25
      have b_z_19 : (0 : Int) ≤ z_19.toInt ∧ z_19.toInt ≤ 19999 := by
        have q0 := b_z_19
        have q1 := b_z_20
        have q2 := b_z_23
        omega
      have b_a3 : (0 : Int) ≤ a3.toInt ∧ a3.toInt ≤ 19999 := by
        have q0 := b_z_19; have q1 := q_z_19; have q2 := (ti_rng a3); omega
      refine lv_aload_n hx hb dX10_between_28 rfl (lv_at hl 0 rfl) ?_
      refine lv_iload_n hx hb dX10_between_29 rfl (lv_at hl 1 rfl) ?_
      refine lv_iload_n hx hb dX10_between_30 rfl (lv_at hl 3 rfl) ?_
      refine lv_iconst (v := 1) hx hb dX10_between_31 (by decide) ?_
      refine lv_iadd hx hb dX10_between_32 ?_
      refine lv_topi (fun z_27 e_z_27 => ?_)
      obtain ⟨q_z_27, b_z_27⟩ := ti_add (lo := 1) (hi := 20000) e_z_27 rfl (by decide : (1 : Int32).toInt = 1) b_a3 (by decide : (1 : Int) ≤ (1 : Int32).toInt ∧ (1 : Int32).toInt ≤ 1) (by decide)
      refine vp_callSi (W.runV (As := [.int a1, .int z_27]) (rest := []) ⟨hx, hb, hml, hown, hts⟩ (kX10_rankOf l dC dI o0 x_th mwo mim mhi mlu mtp x_td mfv x_sz x_at x_fr x_to x_va x_fk x_fp mfr mwt x_wt x_op x_jo mfg mpl x_dr mtm mfa mqu mmo mwy mwn mma mwi mnu mmv c_wo c_lu w_wo w_lu ln bs tk lw li a1 z_27 b_ln b_bs b_tk b_lw (rg_w b_z_27 (by decide) (by decide)) (hw0) (hw1) (hw2) (hw3) (hw4) (hwz)) (cwV 2 hts gX10_between__X10_rankOf_V319 rfl rfl rfl (by decide +kernel) ⟨lel 1 3 rfl, lel 24 69 rfl⟩) ⟨pw_fb, va_recv hK hP (ci := 8) (q0 := 0) rfl rfl, (pw_use hP hK hN [0, 1, 2] rfl [0, 1] rfl)⟩ rfl rfl hl.1 rfl (lv_room (Nat.le_of_ble_eq_true rfl)) dX10_between_33 ⟨lel 0 0 rfl, lel 0 0 rfl⟩) (fun r_28 h_r_28 => ?_)
      obtain ⟨b_r_28, pr_r_28⟩ := h_r_28
      have b_r_28 : (0 : Int) ≤ r_28.toInt ∧ r_28.toInt ≤ 20000 := b_r_28
      refine lv_aload_n hx hb dX10_between_36 rfl (lv_at hl 0 rfl) ?_
      refine lv_iload_n hx hb dX10_between_37 rfl (lv_at hl 1 rfl) ?_
      refine lv_iload_n hx hb dX10_between_38 rfl (lv_at hl 2 rfl) ?_
      refine vp_callSi (W.runV (As := [.int a1, .int a2]) (rest := [.int r_28]) ⟨hx, hb, hml, hown, hts⟩ (kX10_rankOf l dC dI o0 x_th mwo mim mhi mlu mtp x_td mfv x_sz x_at x_fr x_to x_va x_fk x_fp mfr mwt x_wt x_op x_jo mfg mpl x_dr mtm mfa mqu mmo mwy mwn mma mwi mnu mmv c_wo c_lu w_wo w_lu ln bs tk lw li a1 a2 b_ln b_bs b_tk b_lw (rg_w b_a2 (by decide) (by decide)) (hw0) (hw1) (hw2) (hw3) (hw4) (hwz)) (cwV 2 hts gX10_between__X10_rankOf_V319 rfl rfl rfl (by decide +kernel) ⟨lel 1 3 rfl, lel 24 69 rfl⟩) ⟨pw_fb, va_recv hK hP (ci := 8) (q0 := 0) rfl rfl, (pw_use hP hK hN [0, 1, 2] rfl [0, 1] rfl)⟩ rfl rfl hl.1 rfl (lv_room (Nat.le_of_ble_eq_true rfl)) dX10_between_39 ⟨lel 0 0 rfl, lel 0 0 rfl⟩) (fun r_29 h_r_29 => ?_)
      obtain ⟨b_r_29, pr_r_29⟩ := h_r_29
      have b_r_29 : (0 : Int) ≤ r_29.toInt ∧ r_29.toInt ≤ 20000 := b_r_29
      refine lv_isub hx hb dX10_between_42 ?_
      refine lv_topi (fun z_30 e_z_30 => ?_)
      obtain ⟨q_z_30, b_z_30⟩ := ti_sub (lo := -20000) (hi := 20000) e_z_30 rfl rfl b_r_28 b_r_29 (by decide)
      refine lv_goto (tgt := 48) hx hb dX10_between_43 (by decide) ?_
      exact W.iret (v := z_30) hx hb hr (fun t ht hW => ⟨z_30, rfl, b_z_30, ht⟩) t_nil dX10_between_48
theorem dX10_run_0 : decode cX10_run 0 = .ok (.aload_n 0, 1) := by decide +kernel
theorem dX10_run_1 : decode cX10_run 1 = .ok (.iload_n 1, 1) := by decide +kernel
theorem dX10_run_2 : decode cX10_run 2 = .ok (.invokevirtual 89, 3) := by decide +kernel
theorem dX10_run_5 : decode cX10_run 5 = .ok (.ifCond .eq 13, 3) := by decide +kernel
theorem dX10_run_8 : decode cX10_run 8 = .ok (.iload_n 2, 1) := by decide +kernel
theorem dX10_run_9 : decode cX10_run 9 = .ok (.i2l, 1) := by decide +kernel
theorem dX10_run_10 : decode cX10_run 10 = .ok (.lconst 0, 1) := by decide +kernel
theorem dX10_run_11 : decode cX10_run 11 = .ok (.lconst 1, 1) := by decide +kernel
theorem dX10_run_12 : decode cX10_run 12 = .ok (.invokestatic 82, 3) := by decide +kernel
theorem dX10_run_15 : decode cX10_run 15 = .ok (.ifCond .ne 6, 3) := by decide +kernel
theorem dX10_run_18 : decode cX10_run 18 = .ok (.bipush (-2), 2) := by decide +kernel
theorem dX10_run_20 : decode cX10_run 20 = .ok (.ireturn, 1) := by decide +kernel
theorem dX10_run_21 : decode cX10_run 21 = .ok (.iconst 0, 1) := by decide +kernel
theorem dX10_run_22 : decode cX10_run 22 = .ok (.istore_n 3, 1) := by decide +kernel
theorem dX10_run_23 : decode cX10_run 23 = .ok (.iconst (-1), 1) := by decide +kernel
theorem dX10_run_24 : decode cX10_run 24 = .ok (.istore 4, 2) := by decide +kernel
theorem dX10_run_26 : decode cX10_run 26 = .ok (.iconst 0, 1) := by decide +kernel
theorem dX10_run_27 : decode cX10_run 27 = .ok (.istore 5, 2) := by decide +kernel
theorem dX10_run_29 : decode cX10_run 29 = .ok (.iconst 0, 1) := by decide +kernel
theorem dX10_run_30 : decode cX10_run 30 = .ok (.istore 6, 2) := by decide +kernel
theorem dX10_run_32 : decode cX10_run 32 = .ok (.iload 6, 2) := by decide +kernel
theorem dX10_run_34 : decode cX10_run 34 = .ok (.aload_n 0, 1) := by decide +kernel
theorem dX10_run_35 : decode cX10_run 35 = .ok (.getfield 9, 3) := by decide +kernel
theorem dX10_run_38 : decode cX10_run 38 = .ok (.iconst 2, 1) := by decide +kernel
theorem dX10_run_39 : decode cX10_run 39 = .ok (.iaload, 1) := by decide +kernel
theorem dX10_run_40 : decode cX10_run 40 = .ok (.if_icmp .ge 50, 3) := by decide +kernel
theorem dX10_run_43 : decode cX10_run 43 = .ok (.aload_n 0, 1) := by decide +kernel
theorem dX10_run_44 : decode cX10_run 44 = .ok (.iload_n 1, 1) := by decide +kernel
theorem dX10_run_45 : decode cX10_run 45 = .ok (.iload 6, 2) := by decide +kernel
theorem dX10_run_47 : decode cX10_run 47 = .ok (.invokevirtual 316, 3) := by decide +kernel
theorem dX10_run_50 : decode cX10_run 50 = .ok (.ifCond .eq 10, 3) := by decide +kernel
theorem dX10_run_53 : decode cX10_run 53 = .ok (.iload 5, 2) := by decide +kernel
theorem dX10_run_55 : decode cX10_run 55 = .ok (.iconst 1, 1) := by decide +kernel
theorem dX10_run_56 : decode cX10_run 56 = .ok (.iadd, 1) := by decide +kernel
theorem dX10_run_57 : decode cX10_run 57 = .ok (.goto 4, 3) := by decide +kernel
theorem dX10_run_60 : decode cX10_run 60 = .ok (.iconst 0, 1) := by decide +kernel
theorem dX10_run_61 : decode cX10_run 61 = .ok (.istore 5, 2) := by decide +kernel
theorem dX10_run_63 : decode cX10_run 63 = .ok (.iload 5, 2) := by decide +kernel
theorem dX10_run_65 : decode cX10_run 65 = .ok (.iload_n 3, 1) := by decide +kernel
theorem dX10_run_66 : decode cX10_run 66 = .ok (.if_icmp .gt 6, 3) := by decide +kernel
theorem dX10_run_69 : decode cX10_run 69 = .ok (.goto 15, 3) := by decide +kernel
theorem dX10_run_72 : decode cX10_run 72 = .ok (.iload 5, 2) := by decide +kernel
theorem dX10_run_74 : decode cX10_run 74 = .ok (.istore_n 3, 1) := by decide +kernel
theorem dX10_run_75 : decode cX10_run 75 = .ok (.iload 6, 2) := by decide +kernel
theorem dX10_run_77 : decode cX10_run 77 = .ok (.iconst 1, 1) := by decide +kernel
theorem dX10_run_78 : decode cX10_run 78 = .ok (.iadd, 1) := by decide +kernel
theorem dX10_run_79 : decode cX10_run 79 = .ok (.iload 5, 2) := by decide +kernel
theorem dX10_run_81 : decode cX10_run 81 = .ok (.isub, 1) := by decide +kernel
theorem dX10_run_82 : decode cX10_run 82 = .ok (.istore 4, 2) := by decide +kernel
theorem dX10_run_84 : decode cX10_run 84 = .ok (.iinc 6 1, 3) := by decide +kernel
theorem dX10_run_87 : decode cX10_run 87 = .ok (.goto (-55), 3) := by decide +kernel
theorem dX10_run_90 : decode cX10_run 90 = .ok (.iload_n 2, 1) := by decide +kernel
theorem dX10_run_91 : decode cX10_run 91 = .ok (.ifCond .ne 7, 3) := by decide +kernel
theorem dX10_run_94 : decode cX10_run 94 = .ok (.iload_n 3, 1) := by decide +kernel
theorem dX10_run_95 : decode cX10_run 95 = .ok (.goto 5, 3) := by decide +kernel
theorem dX10_run_98 : decode cX10_run 98 = .ok (.iload 4, 2) := by decide +kernel
theorem dX10_run_100 : decode cX10_run 100 = .ok (.ireturn, 1) := by decide +kernel
def uX10_run : List Cond := .code yX10_run cX10_run 7 (some .int) :: ([.methodLink RX10 89 yX10_isLaw, .instanceMethod yX10_isLaw, .selects RX10 yX10_isLaw yX10_isLaw, .initialized RX10, .code yX10_isLaw cX10_isLaw 2 (some .boolean), .fieldLink RX10 9 "LuckyTicketModel" "world" "[I", .methodLink RX10 82 yX10_in, .static yX10_in, .code yX10_in cX10_in 6 (some .boolean), .methodLink RX10 316 yX10_isLucky, .instanceMethod yX10_isLucky, .selects RX10 yX10_isLucky yX10_isLucky, .code yX10_isLucky cX10_isLucky 3 (some .boolean), .fieldLink RX10 20 "LuckyTicketModel" "luck" "[I"] ++ wsX100)
theorem iX10_run_X10 : ∀ w ∈ wsX100, w ∈ uX10_run := fun _ h => List.mem_cons_of_mem _ (List.mem_append_right _ h)
set_option maxRecDepth 20000 in
theorem gX10_run__X10_isLaw_V89 : GoodIn uX10_run (wsV RX10 89 RX10 yX10_isLaw uX10_isLaw) := goodIn_p _ [5, 9] rfl (by decide +kernel)
set_option maxRecDepth 20000 in
theorem gX10_run__X10_in_S82 : GoodIn uX10_run (va_wsS RX10 82 yX10_in uX10_in) := goodIn_p _ [9] rfl (by decide +kernel)
set_option maxRecDepth 20000 in
theorem gX10_run__X10_isLucky_V316 : GoodIn uX10_run (wsV RX10 316 RX10 yX10_isLucky uX10_isLucky) := goodIn_p _ [13] rfl (by decide +kernel)
set_option maxHeartbeats 4000000 in
set_option maxRecDepth 100000 in
theorem kX10_run (l : Launch) (dC : Nat → ClassId) (dI : Nat → Nat → Nat) (o0 : Nat) (x_th : Int32) (mwo : Nat) (mim : Nat) (mhi : Nat) (mlu : Nat) (mtp : Nat) (x_td : Int32) (mfv : Nat) (x_sz : Int32) (x_at : Int32) (x_fr : Int32) (x_to : Int32) (x_va : Int32) (x_fk : Int32) (x_fp : Int32) (mfr : Nat) (mwt : Nat) (x_wt : Int32) (x_op : Int32) (x_jo : Int32) (mfg : Nat) (mpl : Nat) (x_dr : Int64) (mtm : Nat) (mfa : Nat) (mqu : Nat) (mmo : Nat) (mwy : Nat) (mwn : Nat) (mma : Nat) (mwi : Nat) (mnu : Nat) (mmv : Nat) (c_wo : ClassId) (c_lu : ClassId) (w_wo : Nat → Int32) (w_lu : Nat → Int32) (ln : Int32) (bs : Int32) (tk : Int32) (lw : Int32) (li : Int32) (a1 : Int32) (a2 : Int32) (b_ln : (0 : Int) ≤ ln.toInt ∧ ln.toInt ≤ 12) (b_bs : (0 : Int) ≤ bs.toInt ∧ bs.toInt ≤ 16) (b_tk : (0 : Int) ≤ tk.toInt ∧ tk.toInt ≤ 20000) (b_lw : (0 : Int) ≤ lw.toInt ∧ lw.toInt ≤ 9) (hw0 : w_wo 0 = ln) (hw1 : w_wo 1 = bs) (hw2 : w_wo 2 = tk) (hw3 : w_wo 3 = lw) (hw4 : w_wo 4 = li) (hwz : (ln.toInt = 0 ∧ bs.toInt = 0 ∧ tk.toInt = 0 ∧ lw.toInt = 0) ∨ (1 ≤ ln.toInt ∧ 2 ≤ bs.toInt ∧ 1 ≤ tk.toInt)) : Met l yX10_run uX10_run ({ frames := 2, cells := 0, slots := 0, locals := 46 }) (va_Pc [.ref o0, .int a1, .int a2] (pw (dC, dI) vwCl [(o0, .inr (8, [.int x_th, .ref mwo, .ref mim, .ref mhi, .ref mlu, .ref mtp, .int x_td, .ref mfv, .int x_sz, .int x_at, .int x_fr, .int x_to, .int x_va, .int x_fk, .int x_fp, .ref mfr, .ref mwt, .int x_wt, .int x_op, .int x_jo, .ref mfg, .ref mpl, .long x_dr, .ref mtm, .ref mfa, .ref mqu, .ref mmo, .ref mwy, .ref mwn, .ref mma, .ref mwi, .ref mnu, .ref mmv])), (mwo, .inl (c_wo, 1875, .inl w_wo)), (mlu, .inl (c_lu, 20000, .inl w_lu))] [(c_wo, .int), (c_lu, .int)])) (vp_Si (fun r => True)) 0 0 (fun _ => False) := by
  refine Met.ofW (cc := cX10_run) (maxL := 7) (ret := (some .int)) (by decide) rfl ?_
  intro p e s m args below meth c s₁ B hml hv
  obtain ⟨rfl, hP, hK, hN⟩ := hv
  have hx := B.exec
  have hb := B.bytes
  have hr := B.returns
  have hts := atoms_spec (ws := uX10_run) B.pre
  have hown : s.vm.findClass RX10 = some m.cls := findClass_of_methodNamed B.named
  have hlocks := B.notSynchronized
  have hl := lv_entry ([.ref o0, .int a1, .int a2]) (n := 7) (Nat.le_of_ble_eq_true rfl)
  rw [lg_entry_eq]
  generalize (lg_sl ([.ref o0, .int a1, .int a2]) ++ List.replicate (7 - (lg_sl ([.ref o0, .int a1, .int a2])).length) Slot.unset).toArray = ls at hl ⊢
  have hl : lv_has ls 7 [(0, .ref o0), (1, .int a1), (2, .int a2)] := hl
  refine lv_aload_n hx hb dX10_run_0 rfl (lv_at hl 0 rfl) ?_
  refine lv_iload_n hx hb dX10_run_1 rfl (lv_at hl 1 rfl) ?_
  refine vp_callSi (W.runV (As := [.int a1]) (rest := []) ⟨hx, hb, hml, hown, hts⟩ (kX10_isLaw l dC dI o0 x_th mwo mim mhi mlu mtp x_td mfv x_sz x_at x_fr x_to x_va x_fk x_fp mfr mwt x_wt x_op x_jo mfg mpl x_dr mtm mfa mqu mmo mwy mwn mma mwi mnu mmv c_wo w_wo ln bs tk lw li a1 b_ln b_bs b_tk b_lw (hw0) (hw1) (hw2) (hw3) (hw4) (hwz)) (cwV 1 hts gX10_run__X10_isLaw_V89 rfl rfl rfl (by decide +kernel) ⟨lel 2 2 rfl, lel 46 46 rfl⟩) ⟨pw_fb, va_recv hK hP (ci := 8) (q0 := 0) rfl rfl, (pw_use hP hK hN [0, 1] rfl [0] rfl)⟩ rfl rfl hl.1 rfl (lv_room (Nat.le_of_ble_eq_true rfl)) dX10_run_2 ⟨lel 0 0 rfl, lel 0 0 rfl⟩) (fun r_505 h_r_505 => ?_)
  obtain ⟨b_r_505, nz_r_505⟩ := h_r_505
  have b_r_505 : (0 : Int) ≤ r_505.toInt ∧ r_505.toInt ≤ 1 := b_r_505
  refine lv_if_eq (tgt := 18) hx hb dX10_run_5 (by decide) (fun c_506 => ?_) (fun c_506 => ?_)
  ·
    have n_c_506 : (r_505.toInt : Int) = 0 := c_eq rfl (by decide) c_506
    have b_r_505 : (0 : Int) ≤ r_505.toInt ∧ r_505.toInt ≤ 0 := r_eq1 b_r_505 (by decide : (0 : Int) ≤ (0 : Int32).toInt ∧ (0 : Int32).toInt ≤ 0) n_c_506 (by decide)
    refine lv_bipush (v := (-2)) hx hb dX10_run_18 (by decide) ?_
    exact W.iret (v := (-2)) hx hb hr (fun t ht hW => ⟨(-2), rfl, trivial, ht⟩) t_nil dX10_run_20
  ·
    have n_c_506 : (r_505.toInt : Int) ≠ 0 := c_ne rfl (by decide) c_506
    have b_r_505 : (1 : Int) ≤ r_505.toInt ∧ r_505.toInt ≤ 1 := r_ne1 b_r_505 (by decide : (0 : Int) ≤ (0 : Int32).toInt ∧ (0 : Int32).toInt ≤ 0) n_c_506 (by decide)
    obtain ⟨b_a1, g_507⟩ := nz_r_505 c_506
    refine lv_iload_n hx hb dX10_run_8 rfl (lv_at hl 2 rfl) ?_
    obtain ⟨z_508, e_z_508⟩ : ∃ y : Int64, y = a2.toInt64 := ⟨_, rfl⟩
    refine lv_i2l (v := z_508) hx hb dX10_run_9 e_z_508.symm ?_
    obtain ⟨q_z_508, b_z_508⟩ := ti_i2l e_z_508 (ti_rng a2)
    refine lv_lconst (v := 0) hx hb dX10_run_10 (by decide) ?_
    refine lv_lconst (v := 1) hx hb dX10_run_11 (by decide) ?_
    refine vp_callSi (W.runS (As := [.long z_508, .long 0, .long 1]) (rest := []) ⟨hx, hb, hml, hown, hts⟩ (kX10_in l dC dI z_508 0 1 ) (va_cwS 3 hts gX10_run__X10_in_S82 rfl rfl rfl (by decide +kernel) ⟨lel 1 2 rfl, lel 25 46 rfl⟩) ⟨pn_fb, pn_use⟩ rfl rfl hl.1 rfl (lv_room (Nat.le_of_ble_eq_true rfl)) dX10_run_12 ⟨lel 0 0 rfl, lel 0 0 rfl⟩) (fun r_509 h_r_509 => ?_)
    obtain ⟨b_r_509, nz_r_509⟩ := h_r_509
    have b_r_509 : (0 : Int) ≤ r_509.toInt ∧ r_509.toInt ≤ 1 := b_r_509
    refine lv_if_ne (tgt := 21) hx hb dX10_run_15 (by decide) (fun c_510 => ?_) (fun c_510 => ?_)
    ·
      have n_c_510 : (r_509.toInt : Int) ≠ 0 := c_ne rfl (by decide) c_510
      have b_r_509 : (1 : Int) ≤ r_509.toInt ∧ r_509.toInt ≤ 1 := r_ne1 b_r_509 (by decide : (0 : Int) ≤ (0 : Int32).toInt ∧ (0 : Int32).toInt ≤ 0) n_c_510 (by decide)
      have g_511 := nz_r_509 c_510
      have lt0_g_511 := (by decide : (0 : Int64).toInt = 0)
      have lt1_g_511 := (by decide : (1 : Int64).toInt = 1)
      have b_z_508 : (0 : Int) ≤ z_508.toInt ∧ z_508.toInt ≤ 1 := by
        have q0 := b_z_508
        have q1 := (by decide : (0 : Int) ≤ (0 : Int64).toInt ∧ (0 : Int64).toInt ≤ 0)
        have q2 := (by decide : (1 : Int) ≤ (1 : Int64).toInt ∧ (1 : Int64).toInt ≤ 1)
        omega
      have b_a2 : (0 : Int) ≤ a2.toInt ∧ a2.toInt ≤ 1 := by
        have q0 := b_z_508; have q1 := q_z_508; have q2 := (ti_rng a2); omega
      refine lv_iconst (v := 0) hx hb dX10_run_21 (by decide) ?_
      refine lv_istore_n (lv' := [(3, .int 0), (0, .ref o0), (1, .int a1), (2, .int a2)]) hx hb dX10_run_22 rfl hl (by decide) rfl (fun ls hl => ?_)
      refine lv_iconst (v := (-1)) hx hb dX10_run_23 (by decide) ?_
      refine lv_istore (lv' := [(4, .int (-1)), (3, .int 0), (0, .ref o0), (1, .int a1), (2, .int a2)]) hx hb dX10_run_24 hl (by decide) rfl (fun ls hl => ?_)
      refine lv_iconst (v := 0) hx hb dX10_run_26 (by decide) ?_
      refine lv_istore (lv' := [(5, .int 0), (4, .int (-1)), (3, .int 0), (0, .ref o0), (1, .int a1), (2, .int a2)]) hx hb dX10_run_27 hl (by decide) rfl (fun ls hl => ?_)
      refine lv_iconst (v := 0) hx hb dX10_run_29 (by decide) ?_
      refine lv_istore (lv' := [(6, .int 0), (5, .int 0), (4, .int (-1)), (3, .int 0), (0, .ref o0), (1, .int a1), (2, .int a2)]) hx hb dX10_run_30 hl (by decide) rfl (fun ls hl => ?_)
      refine loopP (σ := Int32 × Int32 × Int32 × Int32) (fun v => (20000 - v.1.toInt).toNat) (fun v ls => ((0 : Int) ≤ v.1.toInt ∧ v.1.toInt ≤ 20000) ∧ ((-2147483648 : Int) ≤ v.2.2.1.toInt ∧ v.2.2.1.toInt ≤ 19999) ∧ ((0 : Int) ≤ v.2.2.2.toInt ∧ v.2.2.2.toInt ≤ 2147483647) ∧ lv_has ls 7 [(6, .int v.1), (5, .int v.2.1), (4, .int v.2.2.1), (3, .int v.2.2.2), (0, .ref o0), (1, .int a1), (2, .int a2)]) (fun v ls hI ih_32_979 => ?_) ((0 : Int32), (0 : Int32), (-1 : Int32), (0 : Int32)) ⟨(show (0 : Int) ≤ (0 : Int32).toInt ∧ (0 : Int32).toInt ≤ 20000 from (rg_w (by decide : (0 : Int) ≤ (0 : Int32).toInt ∧ (0 : Int32).toInt ≤ 0) (by decide) (by decide))), (show (-2147483648 : Int) ≤ (-1 : Int32).toInt ∧ (-1 : Int32).toInt ≤ 19999 from (rg_w (by decide : (-1 : Int) ≤ ((-1) : Int32).toInt ∧ ((-1) : Int32).toInt ≤ -1) (by decide) (by decide))), (show (0 : Int) ≤ (0 : Int32).toInt ∧ (0 : Int32).toInt ≤ 2147483647 from (rg_w (by decide : (0 : Int) ≤ (0 : Int32).toInt ∧ (0 : Int32).toInt ≤ 0) (by decide) (by decide))), lv_sub hl [0, 1, 2, 3, 4, 5, 6] rfl⟩
      obtain ⟨y_541, y_542, y_543, y_544⟩ := v
      obtain ⟨b_y_541, b_y_543, b_y_544, hl⟩ := hI
      have b_y_541 : (0 : Int) ≤ y_541.toInt ∧ y_541.toInt ≤ 20000 := b_y_541
      have b_y_543 : (-2147483648 : Int) ≤ y_543.toInt ∧ y_543.toInt ≤ 19999 := b_y_543
      have b_y_544 : (0 : Int) ≤ y_544.toInt ∧ y_544.toInt ≤ 2147483647 := b_y_544
      have hl : lv_has ls 7 [(6, .int y_541), (5, .int y_542), (4, .int y_543), (3, .int y_544), (0, .ref o0), (1, .int a1), (2, .int a2)] := hl
      refine lv_iload hx hb dX10_run_32 (lv_at hl 0 rfl) ?_
      refine lv_aload_n hx hb dX10_run_34 rfl (lv_at hl 4 rfl) ?_
      refine va_get (D := (dC, dI)) (ci := 8) (v := .ref mwo) (C := RX10) (T := TX10) (N := 33) hx hb hts iX10_run_X10 hown hK hP 0 rfl rfl 1 (by decide) (hts (.fieldLink RX10 9 "LuckyTicketModel" "world" "[I") (List.mem_of_getElem? (i := 6) rfl)) (fun _ h9 => h9) rfl dX10_run_35 ?_
      refine lv_iconst (v := 2) hx hb dX10_run_38 (by decide) ?_
      refine va_iald hx hb hK hP 1 0 rfl rfl (vp_in_b (by decide : (2 : Int) ≤ (2 : Int32).toInt ∧ (2 : Int32).toInt ≤ 2) (by decide) (by decide)) dX10_run_39 ?_
      refine lv_topi (fun z_980 e_z_980 => ?_)
      obtain rfl : z_980 = tk := e_z_980.trans hw2
      refine lv_icmp_ge (tgt := 90) hx hb dX10_run_40 (by decide) (fun c_981 => ?_) (fun c_981 => ?_)
      ·
        have n_c_981 : (tk.toInt : Int) ≤ y_541.toInt := c_ge rfl rfl c_981
        refine lv_iload_n hx hb dX10_run_90 rfl (lv_at hl 6 rfl) ?_
        refine lv_if_ne (tgt := 98) hx hb dX10_run_91 (by decide) (fun c_995 => ?_) (fun c_995 => ?_)
        ·
          have n_c_995 : (a2.toInt : Int) ≠ 0 := c_ne rfl (by decide) c_995
          have b_a2 : (1 : Int) ≤ a2.toInt ∧ a2.toInt ≤ 1 := r_ne1 b_a2 (by decide : (0 : Int) ≤ (0 : Int32).toInt ∧ (0 : Int32).toInt ≤ 0) n_c_995 (by decide)
          refine lv_iload hx hb dX10_run_98 (lv_at hl 2 rfl) ?_
          exact W.iret (v := y_543) hx hb hr (fun t ht hW => ⟨y_543, rfl, trivial, ht⟩) t_nil dX10_run_100
        ·
          have n_c_995 : (a2.toInt : Int) = 0 := c_eq rfl (by decide) c_995
          have b_a2 : (0 : Int) ≤ a2.toInt ∧ a2.toInt ≤ 0 := r_eq1 b_a2 (by decide : (0 : Int) ≤ (0 : Int32).toInt ∧ (0 : Int32).toInt ≤ 0) n_c_995 (by decide)
          refine lv_iload_n hx hb dX10_run_94 rfl (lv_at hl 3 rfl) ?_
          refine lv_goto (tgt := 100) hx hb dX10_run_95 (by decide) ?_
          exact W.iret (v := y_544) hx hb hr (fun t ht hW => ⟨y_544, rfl, trivial, ht⟩) t_nil dX10_run_100
      ·
        have n_c_981 : (y_541.toInt : Int) < tk.toInt := c_nge rfl rfl c_981
        have b_y_541 : (0 : Int) ≤ y_541.toInt ∧ y_541.toInt ≤ 19999 := r_lt1 b_y_541 b_tk n_c_981 (by decide)
        have b_tk : (1 : Int) ≤ tk.toInt ∧ tk.toInt ≤ 20000 := r_lt2 b_y_541 b_tk n_c_981 (by decide)
        refine lv_aload_n hx hb dX10_run_43 rfl (lv_at hl 4 rfl) ?_
        refine lv_iload_n hx hb dX10_run_44 rfl (lv_at hl 5 rfl) ?_
        refine lv_iload hx hb dX10_run_45 (lv_at hl 0 rfl) ?_
        refine vp_callSi (W.runV (As := [.int a1, .int y_541]) (rest := []) ⟨hx, hb, hml, hown, hts⟩ (kX10_isLucky l dC dI o0 x_th mwo mim mhi mlu mtp x_td mfv x_sz x_at x_fr x_to x_va x_fk x_fp mfr mwt x_wt x_op x_jo mfg mpl x_dr mtm mfa mqu mmo mwy mwn mma mwi mnu mmv c_wo c_lu w_wo w_lu ln bs tk lw li a1 y_541 b_ln b_bs (rg_w b_tk (by decide) (by decide)) b_lw b_y_541 (hw0) (hw1) (hw2) (hw3) (hw4) (hwz)) (cwV 2 hts gX10_run__X10_isLucky_V316 rfl rfl rfl (by decide +kernel) ⟨lel 1 2 rfl, lel 22 46 rfl⟩) ⟨pw_fb, va_recv hK hP (ci := 8) (q0 := 0) rfl rfl, (pw_use hP hK hN [0, 1, 2] rfl [0, 1] rfl)⟩ rfl rfl hl.1 rfl (lv_room (Nat.le_of_ble_eq_true rfl)) dX10_run_47 ⟨lel 0 0 rfl, lel 0 0 rfl⟩) (fun r_996 h_r_996 => ?_)
        have b_r_996 := h_r_996
        have b_r_996 : (0 : Int) ≤ r_996.toInt ∧ r_996.toInt ≤ 1 := b_r_996
        refine cutP (σ := Int32) (pc2 := 61) (st2 := fun v => [.int v]) (cells2 := 0) (slots2 := 0) (fun v ls => lv_has ls 7 [(6, .int y_541), (5, .int y_542), (4, .int y_543), (3, .int y_544), (0, .ref o0), (1, .int a1), (2, .int a2)]) (fun v ls hI => ?_) (fun hj_61_999 => ?_)
        ·
          obtain ⟨y_999, rfl⟩ : ∃ z, z = v := ⟨_, rfl⟩
          have hl := hI
          have hl : lv_has ls 7 [(6, .int y_541), (5, .int y_542), (4, .int y_543), (3, .int y_544), (0, .ref o0), (1, .int a1), (2, .int a2)] := hl
          refine lv_istore (lv' := [(5, .int y_999), (6, .int y_541), (4, .int y_543), (3, .int y_544), (0, .ref o0), (1, .int a1), (2, .int a2)]) hx hb dX10_run_61 hl (by decide) rfl (fun ls hl => ?_)
          refine lv_iload hx hb dX10_run_63 (lv_at hl 0 rfl) ?_
          refine lv_iload_n hx hb dX10_run_65 rfl (lv_at hl 3 rfl) ?_
          refine cutP (σ := Int32 × Int32) (pc2 := 84) (st2 := fun v => []) (cells2 := 0) (slots2 := 0) (fun v ls => ((-2147483648 : Int) ≤ v.1.toInt ∧ v.1.toInt ≤ 19999) ∧ ((0 : Int) ≤ v.2.toInt ∧ v.2.toInt ≤ 2147483647) ∧ lv_has ls 7 [(4, .int v.1), (3, .int v.2), (5, .int y_999), (6, .int y_541), (0, .ref o0), (1, .int a1), (2, .int a2)]) (fun v ls hI => ?_) (fun hj_84_1004 => ?_)
          ·
            obtain ⟨y_1003, y_1004⟩ := v
            obtain ⟨b_y_1003, b_y_1004, hl⟩ := hI
            have b_y_1003 : (-2147483648 : Int) ≤ y_1003.toInt ∧ y_1003.toInt ≤ 19999 := b_y_1003
            have b_y_1004 : (0 : Int) ≤ y_1004.toInt ∧ y_1004.toInt ≤ 2147483647 := b_y_1004
            have hl : lv_has ls 7 [(4, .int y_1003), (3, .int y_1004), (5, .int y_999), (6, .int y_541), (0, .ref o0), (1, .int a1), (2, .int a2)] := hl
            obtain ⟨z_1005, e_z_1005⟩ : ∃ y : Int32, y = y_541 + 1 := ⟨_, rfl⟩
            refine lv_iinc (v := z_1005) (lv' := [(6, .int z_1005), (4, .int y_1003), (3, .int y_1004), (5, .int y_999), (0, .ref o0), (1, .int a1), (2, .int a2)]) hx hb dX10_run_84 hl (k := 3) rfl (by rw [e_z_1005]; rfl) (by decide) rfl (fun ls hl => ?_)
            obtain ⟨q_z_1005, b_z_1005⟩ := ti_add (lo := 1) (hi := 20000) e_z_1005 rfl (by decide : (1 : Int32).toInt = 1) b_y_541 (by decide : (1 : Int) ≤ (1 : Int32).toInt ∧ (1 : Int32).toInt ≤ 1) (by decide)
            refine lv_goto (tgt := 32) hx hb dX10_run_87 (by decide) ?_
            exact ih_32_979 (z_1005, y_999, y_1003, y_1004) _ ⟨(show (0 : Int) ≤ z_1005.toInt ∧ z_1005.toInt ≤ 20000 from (rg_w b_z_1005 (by decide) (by decide))), (show (-2147483648 : Int) ≤ y_1003.toInt ∧ y_1003.toInt ≤ 19999 from b_y_1003), (show (0 : Int) ≤ y_1004.toInt ∧ y_1004.toInt ≤ 2147483647 from b_y_1004), lv_sub hl [0, 3, 1, 2, 4, 5, 6] rfl⟩ (show (20000 - z_1005.toInt).toNat < (20000 - y_541.toInt).toNat by omega)
          ·
            refine lv_icmp_gt (tgt := 72) hx hb dX10_run_66 (by decide) (fun c_1000 => ?_) (fun c_1000 => ?_)
            ·
              have n_c_1000 : (y_544.toInt : Int) < y_999.toInt := c_gt rfl rfl c_1000
              have b_y_544 : (0 : Int) ≤ y_544.toInt ∧ y_544.toInt ≤ 2147483646 := r_lt1 b_y_544 (ti_rng y_999) n_c_1000 (by decide)
              have b_y_999 : (1 : Int) ≤ y_999.toInt ∧ y_999.toInt ≤ 2147483647 := r_lt2 b_y_544 (ti_rng y_999) n_c_1000 (by decide)
              refine lv_iload hx hb dX10_run_72 (lv_at hl 0 rfl) ?_
              refine lv_istore_n (lv' := [(3, .int y_999), (5, .int y_999), (6, .int y_541), (4, .int y_543), (0, .ref o0), (1, .int a1), (2, .int a2)]) hx hb dX10_run_74 rfl hl (by decide) rfl (fun ls hl => ?_)
              refine lv_iload hx hb dX10_run_75 (lv_at hl 2 rfl) ?_
              refine lv_iconst (v := 1) hx hb dX10_run_77 (by decide) ?_
              refine lv_iadd hx hb dX10_run_78 ?_
              refine lv_topi (fun z_1006 e_z_1006 => ?_)
              obtain ⟨q_z_1006, b_z_1006⟩ := ti_add (lo := 1) (hi := 20000) e_z_1006 rfl (by decide : (1 : Int32).toInt = 1) b_y_541 (by decide : (1 : Int) ≤ (1 : Int32).toInt ∧ (1 : Int32).toInt ≤ 1) (by decide)
              refine lv_iload hx hb dX10_run_79 (lv_at hl 1 rfl) ?_
              refine lv_isub hx hb dX10_run_81 ?_
              refine lv_topi (fun z_1007 e_z_1007 => ?_)
              obtain ⟨q_z_1007, b_z_1007⟩ := ti_sub (lo := -2147483646) (hi := 19999) e_z_1007 rfl rfl b_z_1006 b_y_999 (by decide)
              refine lv_istore (lv' := [(4, .int z_1007), (3, .int y_999), (5, .int y_999), (6, .int y_541), (0, .ref o0), (1, .int a1), (2, .int a2)]) hx hb dX10_run_82 hl (by decide) rfl (fun ls hl => ?_)
              exact hj_84_1004 (z_1007, y_999) _ ⟨(show (-2147483648 : Int) ≤ z_1007.toInt ∧ z_1007.toInt ≤ 19999 from (rg_w b_z_1007 (by decide) (by decide))), (show (0 : Int) ≤ y_999.toInt ∧ y_999.toInt ≤ 2147483647 from (rg_w b_y_999 (by decide) (by decide))), lv_sub hl [0, 1, 2, 3, 4, 5, 6] rfl⟩
            ·
              have n_c_1000 : (y_999.toInt : Int) ≤ y_544.toInt := c_ngt rfl rfl c_1000
              refine lv_goto (tgt := 84) hx hb dX10_run_69 (by decide) ?_
              exact hj_84_1004 (y_543, y_544) _ ⟨(show (-2147483648 : Int) ≤ y_543.toInt ∧ y_543.toInt ≤ 19999 from b_y_543), (show (0 : Int) ≤ y_544.toInt ∧ y_544.toInt ≤ 2147483647 from b_y_544), lv_sub hl [2, 3, 0, 1, 4, 5, 6] rfl⟩
        ·
          refine lv_if_eq (tgt := 60) hx hb dX10_run_50 (by decide) (fun c_997 => ?_) (fun c_997 => ?_)
          ·
            have n_c_997 : (r_996.toInt : Int) = 0 := c_eq rfl (by decide) c_997
            have b_r_996 : (0 : Int) ≤ r_996.toInt ∧ r_996.toInt ≤ 0 := r_eq1 b_r_996 (by decide : (0 : Int) ≤ (0 : Int32).toInt ∧ (0 : Int32).toInt ≤ 0) n_c_997 (by decide)
            refine lv_iconst (v := 0) hx hb dX10_run_60 (by decide) ?_
            exact hj_61_999 (0 : Int32) _ (lv_sub hl [0, 1, 2, 3, 4, 5, 6] rfl)
          ·
            have n_c_997 : (r_996.toInt : Int) ≠ 0 := c_ne rfl (by decide) c_997
            have b_r_996 : (1 : Int) ≤ r_996.toInt ∧ r_996.toInt ≤ 1 := r_ne1 b_r_996 (by decide : (0 : Int) ≤ (0 : Int32).toInt ∧ (0 : Int32).toInt ≤ 0) n_c_997 (by decide)
            refine lv_iload hx hb dX10_run_53 (lv_at hl 1 rfl) ?_
            refine lv_iconst (v := 1) hx hb dX10_run_55 (by decide) ?_
            refine lv_iadd hx hb dX10_run_56 ?_
            refine lv_topi (fun z_1008 e_z_1008 => ?_)
            refine lv_goto (tgt := 61) hx hb dX10_run_57 (by decide) ?_
            exact hj_61_999 z_1008 _ (lv_sub hl [0, 1, 2, 3, 4, 5, 6] rfl)
    ·
      have n_c_510 : (r_509.toInt : Int) = 0 := c_eq rfl (by decide) c_510
      have b_r_509 : (0 : Int) ≤ r_509.toInt ∧ r_509.toInt ≤ 0 := r_eq1 b_r_509 (by decide : (0 : Int) ≤ (0 : Int32).toInt ∧ (0 : Int32).toInt ≤ 0) n_c_510 (by decide)
      refine lv_bipush (v := (-2)) hx hb dX10_run_18 (by decide) ?_
      exact W.iret (v := (-2)) hx hb hr (fun t ht hW => ⟨(-2), rfl, trivial, ht⟩) t_nil dX10_run_20
theorem dX10_window_0 : decode cX10_window 0 = .ok (.aload_n 0, 1) := by decide +kernel
theorem dX10_window_1 : decode cX10_window 1 = .ok (.iload_n 1, 1) := by decide +kernel
theorem dX10_window_2 : decode cX10_window 2 = .ok (.invokevirtual 89, 3) := by decide +kernel
theorem dX10_window_5 : decode cX10_window 5 = .ok (.ifCond .eq 31, 3) := by decide +kernel
theorem dX10_window_8 : decode cX10_window 8 = .ok (.iload_n 2, 1) := by decide +kernel
theorem dX10_window_9 : decode cX10_window 9 = .ok (.i2l, 1) := by decide +kernel
theorem dX10_window_10 : decode cX10_window 10 = .ok (.lconst 1, 1) := by decide +kernel
theorem dX10_window_11 : decode cX10_window 11 = .ok (.aload_n 0, 1) := by decide +kernel
theorem dX10_window_12 : decode cX10_window 12 = .ok (.getfield 9, 3) := by decide +kernel
theorem dX10_window_15 : decode cX10_window 15 = .ok (.iconst 2, 1) := by decide +kernel
theorem dX10_window_16 : decode cX10_window 16 = .ok (.iaload, 1) := by decide +kernel
theorem dX10_window_17 : decode cX10_window 17 = .ok (.i2l, 1) := by decide +kernel
theorem dX10_window_18 : decode cX10_window 18 = .ok (.invokestatic 82, 3) := by decide +kernel
theorem dX10_window_21 : decode cX10_window 21 = .ok (.ifCond .eq 15, 3) := by decide +kernel
theorem dX10_window_24 : decode cX10_window 24 = .ok (.iload_n 3, 1) := by decide +kernel
theorem dX10_window_25 : decode cX10_window 25 = .ok (.i2l, 1) := by decide +kernel
theorem dX10_window_26 : decode cX10_window 26 = .ok (.lconst 0, 1) := by decide +kernel
theorem dX10_window_27 : decode cX10_window 27 = .ok (.ldc2_w 375, 3) := by decide +kernel
theorem dX10_window_30 : decode cX10_window 30 = .ok (.invokestatic 82, 3) := by decide +kernel
theorem dX10_window_33 : decode cX10_window 33 = .ok (.ifCond .ne 6, 3) := by decide +kernel
theorem dX10_window_36 : decode cX10_window 36 = .ok (.bipush (-2), 2) := by decide +kernel
theorem dX10_window_38 : decode cX10_window 38 = .ok (.ireturn, 1) := by decide +kernel
theorem dX10_window_39 : decode cX10_window 39 = .ok (.aload_n 0, 1) := by decide +kernel
theorem dX10_window_40 : decode cX10_window 40 = .ok (.iload_n 1, 1) := by decide +kernel
theorem dX10_window_41 : decode cX10_window 41 = .ok (.iload_n 2, 1) := by decide +kernel
theorem dX10_window_42 : decode cX10_window 42 = .ok (.invokevirtual 319, 3) := by decide +kernel
theorem dX10_window_45 : decode cX10_window 45 = .ok (.istore 4, 2) := by decide +kernel
theorem dX10_window_47 : decode cX10_window 47 = .ok (.iload 4, 2) := by decide +kernel
theorem dX10_window_49 : decode cX10_window 49 = .ok (.istore 5, 2) := by decide +kernel
theorem dX10_window_51 : decode cX10_window 51 = .ok (.iconst 0, 1) := by decide +kernel
theorem dX10_window_52 : decode cX10_window 52 = .ok (.istore 6, 2) := by decide +kernel
theorem dX10_window_54 : decode cX10_window 54 = .ok (.iload 4, 2) := by decide +kernel
theorem dX10_window_56 : decode cX10_window 56 = .ok (.istore 7, 2) := by decide +kernel
theorem dX10_window_58 : decode cX10_window 58 = .ok (.iconst 0, 1) := by decide +kernel
theorem dX10_window_59 : decode cX10_window 59 = .ok (.istore 8, 2) := by decide +kernel
theorem dX10_window_61 : decode cX10_window 61 = .ok (.iconst 1, 1) := by decide +kernel
theorem dX10_window_62 : decode cX10_window 62 = .ok (.istore 9, 2) := by decide +kernel
theorem dX10_window_64 : decode cX10_window 64 = .ok (.iload 9, 2) := by decide +kernel
theorem dX10_window_66 : decode cX10_window 66 = .ok (.iload_n 2, 1) := by decide +kernel
theorem dX10_window_67 : decode cX10_window 67 = .ok (.iadd, 1) := by decide +kernel
theorem dX10_window_68 : decode cX10_window 68 = .ok (.aload_n 0, 1) := by decide +kernel
theorem dX10_window_69 : decode cX10_window 69 = .ok (.getfield 9, 3) := by decide +kernel
theorem dX10_window_72 : decode cX10_window 72 = .ok (.iconst 2, 1) := by decide +kernel
theorem dX10_window_73 : decode cX10_window 73 = .ok (.iaload, 1) := by decide +kernel
theorem dX10_window_74 : decode cX10_window 74 = .ok (.if_icmp .gt 93, 3) := by decide +kernel
theorem dX10_window_77 : decode cX10_window 77 = .ok (.iload 4, 2) := by decide +kernel
theorem dX10_window_79 : decode cX10_window 79 = .ok (.aload_n 0, 1) := by decide +kernel
theorem dX10_window_80 : decode cX10_window 80 = .ok (.getfield 20, 3) := by decide +kernel
theorem dX10_window_83 : decode cX10_window 83 = .ok (.iload 9, 2) := by decide +kernel
theorem dX10_window_85 : decode cX10_window 85 = .ok (.iload_n 2, 1) := by decide +kernel
theorem dX10_window_86 : decode cX10_window 86 = .ok (.iadd, 1) := by decide +kernel
theorem dX10_window_87 : decode cX10_window 87 = .ok (.iconst 1, 1) := by decide +kernel
theorem dX10_window_88 : decode cX10_window 88 = .ok (.isub, 1) := by decide +kernel
theorem dX10_window_89 : decode cX10_window 89 = .ok (.iaload, 1) := by decide +kernel
theorem dX10_window_90 : decode cX10_window 90 = .ok (.iload_n 1, 1) := by decide +kernel
theorem dX10_window_91 : decode cX10_window 91 = .ok (.ishr, 1) := by decide +kernel
theorem dX10_window_92 : decode cX10_window 92 = .ok (.iconst 1, 1) := by decide +kernel
theorem dX10_window_93 : decode cX10_window 93 = .ok (.iand, 1) := by decide +kernel
theorem dX10_window_94 : decode cX10_window 94 = .ok (.aload_n 0, 1) := by decide +kernel
theorem dX10_window_95 : decode cX10_window 95 = .ok (.getfield 20, 3) := by decide +kernel
theorem dX10_window_98 : decode cX10_window 98 = .ok (.iload 9, 2) := by decide +kernel
theorem dX10_window_100 : decode cX10_window 100 = .ok (.iconst 1, 1) := by decide +kernel
theorem dX10_window_101 : decode cX10_window 101 = .ok (.isub, 1) := by decide +kernel
theorem dX10_window_102 : decode cX10_window 102 = .ok (.iaload, 1) := by decide +kernel
theorem dX10_window_103 : decode cX10_window 103 = .ok (.iload_n 1, 1) := by decide +kernel
theorem dX10_window_104 : decode cX10_window 104 = .ok (.ishr, 1) := by decide +kernel
theorem dX10_window_105 : decode cX10_window 105 = .ok (.iconst 1, 1) := by decide +kernel
theorem dX10_window_106 : decode cX10_window 106 = .ok (.iand, 1) := by decide +kernel
theorem dX10_window_107 : decode cX10_window 107 = .ok (.isub, 1) := by decide +kernel
theorem dX10_window_108 : decode cX10_window 108 = .ok (.iadd, 1) := by decide +kernel
theorem dX10_window_109 : decode cX10_window 109 = .ok (.istore 4, 2) := by decide +kernel
theorem dX10_window_111 : decode cX10_window 111 = .ok (.iload 4, 2) := by decide +kernel
theorem dX10_window_113 : decode cX10_window 113 = .ok (.iload 5, 2) := by decide +kernel
theorem dX10_window_115 : decode cX10_window 115 = .ok (.if_icmp .le 8, 3) := by decide +kernel
theorem dX10_window_118 : decode cX10_window 118 = .ok (.iload 9, 2) := by decide +kernel
theorem dX10_window_120 : decode cX10_window 120 = .ok (.goto 5, 3) := by decide +kernel
theorem dX10_window_123 : decode cX10_window 123 = .ok (.iload 6, 2) := by decide +kernel
theorem dX10_window_125 : decode cX10_window 125 = .ok (.istore 6, 2) := by decide +kernel
theorem dX10_window_127 : decode cX10_window 127 = .ok (.iload 5, 2) := by decide +kernel
theorem dX10_window_129 : decode cX10_window 129 = .ok (.iload 4, 2) := by decide +kernel
theorem dX10_window_131 : decode cX10_window 131 = .ok (.invokestatic 427, 3) := by decide +kernel
theorem dX10_window_134 : decode cX10_window 134 = .ok (.istore 5, 2) := by decide +kernel
theorem dX10_window_136 : decode cX10_window 136 = .ok (.iload 4, 2) := by decide +kernel
theorem dX10_window_138 : decode cX10_window 138 = .ok (.iload 7, 2) := by decide +kernel
theorem dX10_window_140 : decode cX10_window 140 = .ok (.if_icmp .ge 8, 3) := by decide +kernel
theorem dX10_window_143 : decode cX10_window 143 = .ok (.iload 9, 2) := by decide +kernel
theorem dX10_window_145 : decode cX10_window 145 = .ok (.goto 5, 3) := by decide +kernel
theorem dX10_window_148 : decode cX10_window 148 = .ok (.iload 8, 2) := by decide +kernel
theorem dX10_window_150 : decode cX10_window 150 = .ok (.istore 8, 2) := by decide +kernel
theorem dX10_window_152 : decode cX10_window 152 = .ok (.iload 7, 2) := by decide +kernel
theorem dX10_window_154 : decode cX10_window 154 = .ok (.iload 4, 2) := by decide +kernel
theorem dX10_window_156 : decode cX10_window 156 = .ok (.invokestatic 128, 3) := by decide +kernel
theorem dX10_window_159 : decode cX10_window 159 = .ok (.istore 7, 2) := by decide +kernel
theorem dX10_window_161 : decode cX10_window 161 = .ok (.iinc 9 1, 3) := by decide +kernel
theorem dX10_window_164 : decode cX10_window 164 = .ok (.goto (-100), 3) := by decide +kernel
theorem dX10_window_167 : decode cX10_window 167 = .ok (.iload_n 3, 1) := by decide +kernel
theorem dX10_window_168 : decode cX10_window 168 = .ok (.ifCond .ne 8, 3) := by decide +kernel
theorem dX10_window_171 : decode cX10_window 171 = .ok (.iload 5, 2) := by decide +kernel
theorem dX10_window_173 : decode cX10_window 173 = .ok (.goto 25, 3) := by decide +kernel
theorem dX10_window_176 : decode cX10_window 176 = .ok (.iload_n 3, 1) := by decide +kernel
theorem dX10_window_177 : decode cX10_window 177 = .ok (.iconst 1, 1) := by decide +kernel
theorem dX10_window_178 : decode cX10_window 178 = .ok (.if_icmp .ne 8, 3) := by decide +kernel
theorem dX10_window_181 : decode cX10_window 181 = .ok (.iload 6, 2) := by decide +kernel
theorem dX10_window_183 : decode cX10_window 183 = .ok (.goto 15, 3) := by decide +kernel
theorem dX10_window_186 : decode cX10_window 186 = .ok (.iload_n 3, 1) := by decide +kernel
theorem dX10_window_187 : decode cX10_window 187 = .ok (.iconst 2, 1) := by decide +kernel
theorem dX10_window_188 : decode cX10_window 188 = .ok (.if_icmp .ne 8, 3) := by decide +kernel
theorem dX10_window_191 : decode cX10_window 191 = .ok (.iload 7, 2) := by decide +kernel
theorem dX10_window_193 : decode cX10_window 193 = .ok (.goto 5, 3) := by decide +kernel
theorem dX10_window_196 : decode cX10_window 196 = .ok (.iload 8, 2) := by decide +kernel
theorem dX10_window_198 : decode cX10_window 198 = .ok (.ireturn, 1) := by decide +kernel
def uX10_window : List Cond := .code yX10_window cX10_window 10 (some .int) :: ([.methodLink RX10 89 yX10_isLaw, .instanceMethod yX10_isLaw, .selects RX10 yX10_isLaw yX10_isLaw, .initialized RX10, .code yX10_isLaw cX10_isLaw 2 (some .boolean), .fieldLink RX10 9 "LuckyTicketModel" "world" "[I", .methodLink RX10 82 yX10_in, .static yX10_in, .code yX10_in cX10_in 6 (some .boolean), .constantLong RX10 375 (3), .methodLink RX10 319 yX10_rankOf, .instanceMethod yX10_rankOf, .selects RX10 yX10_rankOf yX10_rankOf, .code yX10_rankOf cX10_rankOf 5 (some .int), .fieldLink RX10 20 "LuckyTicketModel" "luck" "[I", .methodLink RX10 427 yJ9_max_7cf53, .static yJ9_max_7cf53, .initialized RJ9, .code yJ9_max_7cf53 cJ9_max_7cf53 2 (some .int), .methodLink RX10 128 yJ9_min_7cf53, .static yJ9_min_7cf53, .code yJ9_min_7cf53 cJ9_min_7cf53 2 (some .int)] ++ wsX100)
theorem iX10_window_X10 : ∀ w ∈ wsX100, w ∈ uX10_window := fun _ h => List.mem_cons_of_mem _ (List.mem_append_right _ h)
set_option maxRecDepth 20000 in
theorem gX10_window__X10_isLaw_V89 : GoodIn uX10_window (wsV RX10 89 RX10 yX10_isLaw uX10_isLaw) := goodIn_p _ [5, 9] rfl (by decide +kernel)
set_option maxRecDepth 20000 in
theorem gX10_window__X10_in_S82 : GoodIn uX10_window (va_wsS RX10 82 yX10_in uX10_in) := goodIn_p _ [9] rfl (by decide +kernel)
set_option maxRecDepth 20000 in
theorem gX10_window__X10_rankOf_V319 : GoodIn uX10_window (wsV RX10 319 RX10 yX10_rankOf uX10_rankOf) := goodIn_p _ [14] rfl (by decide +kernel)
set_option maxHeartbeats 4000000 in
set_option maxRecDepth 100000 in
theorem kX10_window (l : Launch) (dC : Nat → ClassId) (dI : Nat → Nat → Nat) (o0 : Nat) (x_th : Int32) (mwo : Nat) (mim : Nat) (mhi : Nat) (mlu : Nat) (mtp : Nat) (x_td : Int32) (mfv : Nat) (x_sz : Int32) (x_at : Int32) (x_fr : Int32) (x_to : Int32) (x_va : Int32) (x_fk : Int32) (x_fp : Int32) (mfr : Nat) (mwt : Nat) (x_wt : Int32) (x_op : Int32) (x_jo : Int32) (mfg : Nat) (mpl : Nat) (x_dr : Int64) (mtm : Nat) (mfa : Nat) (mqu : Nat) (mmo : Nat) (mwy : Nat) (mwn : Nat) (mma : Nat) (mwi : Nat) (mnu : Nat) (mmv : Nat) (c_wo : ClassId) (c_lu : ClassId) (w_wo : Nat → Int32) (w_lu : Nat → Int32) (ln : Int32) (bs : Int32) (tk : Int32) (lw : Int32) (li : Int32) (a1 : Int32) (a2 : Int32) (a3 : Int32) (b_ln : (0 : Int) ≤ ln.toInt ∧ ln.toInt ≤ 12) (b_bs : (0 : Int) ≤ bs.toInt ∧ bs.toInt ≤ 16) (b_tk : (0 : Int) ≤ tk.toInt ∧ tk.toInt ≤ 20000) (b_lw : (0 : Int) ≤ lw.toInt ∧ lw.toInt ≤ 9) (hw0 : w_wo 0 = ln) (hw1 : w_wo 1 = bs) (hw2 : w_wo 2 = tk) (hw3 : w_wo 3 = lw) (hw4 : w_wo 4 = li) (hwz : (ln.toInt = 0 ∧ bs.toInt = 0 ∧ tk.toInt = 0 ∧ lw.toInt = 0) ∨ (1 ≤ ln.toInt ∧ 2 ≤ bs.toInt ∧ 1 ≤ tk.toInt)) : Met l yX10_window uX10_window ({ frames := 2, cells := 0, slots := 0, locals := 46 }) (va_Pc [.ref o0, .int a1, .int a2, .int a3] (pw (dC, dI) vwCl [(o0, .inr (8, [.int x_th, .ref mwo, .ref mim, .ref mhi, .ref mlu, .ref mtp, .int x_td, .ref mfv, .int x_sz, .int x_at, .int x_fr, .int x_to, .int x_va, .int x_fk, .int x_fp, .ref mfr, .ref mwt, .int x_wt, .int x_op, .int x_jo, .ref mfg, .ref mpl, .long x_dr, .ref mtm, .ref mfa, .ref mqu, .ref mmo, .ref mwy, .ref mwn, .ref mma, .ref mwi, .ref mnu, .ref mmv])), (mwo, .inl (c_wo, 1875, .inl w_wo)), (mlu, .inl (c_lu, 20000, .inl w_lu))] [(c_wo, .int), (c_lu, .int)])) (vp_Si (fun r => True)) 0 0 (fun _ => False) := by
  refine Met.ofW (cc := cX10_window) (maxL := 10) (ret := (some .int)) (by decide) rfl ?_
  intro p e s m args below meth c s₁ B hml hv
  obtain ⟨rfl, hP, hK, hN⟩ := hv
  have hx := B.exec
  have hb := B.bytes
  have hr := B.returns
  have hts := atoms_spec (ws := uX10_window) B.pre
  have hown : s.vm.findClass RX10 = some m.cls := findClass_of_methodNamed B.named
  have hlocks := B.notSynchronized
  have hl := lv_entry ([.ref o0, .int a1, .int a2, .int a3]) (n := 10) (Nat.le_of_ble_eq_true rfl)
  rw [lg_entry_eq]
  generalize (lg_sl ([.ref o0, .int a1, .int a2, .int a3]) ++ List.replicate (10 - (lg_sl ([.ref o0, .int a1, .int a2, .int a3])).length) Slot.unset).toArray = ls at hl ⊢
  have hl : lv_has ls 10 [(0, .ref o0), (1, .int a1), (2, .int a2), (3, .int a3)] := hl
  refine lv_aload_n hx hb dX10_window_0 rfl (lv_at hl 0 rfl) ?_
  refine lv_iload_n hx hb dX10_window_1 rfl (lv_at hl 1 rfl) ?_
  refine vp_callSi (W.runV (As := [.int a1]) (rest := []) ⟨hx, hb, hml, hown, hts⟩ (kX10_isLaw l dC dI o0 x_th mwo mim mhi mlu mtp x_td mfv x_sz x_at x_fr x_to x_va x_fk x_fp mfr mwt x_wt x_op x_jo mfg mpl x_dr mtm mfa mqu mmo mwy mwn mma mwi mnu mmv c_wo w_wo ln bs tk lw li a1 b_ln b_bs b_tk b_lw (hw0) (hw1) (hw2) (hw3) (hw4) (hwz)) (cwV 1 hts gX10_window__X10_isLaw_V89 rfl rfl rfl (by decide +kernel) ⟨lel 2 2 rfl, lel 46 46 rfl⟩) ⟨pw_fb, va_recv hK hP (ci := 8) (q0 := 0) rfl rfl, (pw_use hP hK hN [0, 1] rfl [0] rfl)⟩ rfl rfl hl.1 rfl (lv_room (Nat.le_of_ble_eq_true rfl)) dX10_window_2 ⟨lel 0 0 rfl, lel 0 0 rfl⟩) (fun r_315 h_r_315 => ?_)
  obtain ⟨b_r_315, nz_r_315⟩ := h_r_315
  have b_r_315 : (0 : Int) ≤ r_315.toInt ∧ r_315.toInt ≤ 1 := b_r_315
  refine lv_if_eq (tgt := 36) hx hb dX10_window_5 (by decide) (fun c_316 => ?_) (fun c_316 => ?_)
  ·
    have n_c_316 : (r_315.toInt : Int) = 0 := c_eq rfl (by decide) c_316
    have b_r_315 : (0 : Int) ≤ r_315.toInt ∧ r_315.toInt ≤ 0 := r_eq1 b_r_315 (by decide : (0 : Int) ≤ (0 : Int32).toInt ∧ (0 : Int32).toInt ≤ 0) n_c_316 (by decide)
    refine lv_bipush (v := (-2)) hx hb dX10_window_36 (by decide) ?_
    exact W.iret (v := (-2)) hx hb hr (fun t ht hW => ⟨(-2), rfl, trivial, ht⟩) t_nil dX10_window_38
  ·
    have n_c_316 : (r_315.toInt : Int) ≠ 0 := c_ne rfl (by decide) c_316
    have b_r_315 : (1 : Int) ≤ r_315.toInt ∧ r_315.toInt ≤ 1 := r_ne1 b_r_315 (by decide : (0 : Int) ≤ (0 : Int32).toInt ∧ (0 : Int32).toInt ≤ 0) n_c_316 (by decide)
    obtain ⟨b_a1, g_317⟩ := nz_r_315 c_316
    refine lv_iload_n hx hb dX10_window_8 rfl (lv_at hl 2 rfl) ?_
    obtain ⟨z_318, e_z_318⟩ : ∃ y : Int64, y = a2.toInt64 := ⟨_, rfl⟩
    refine lv_i2l (v := z_318) hx hb dX10_window_9 e_z_318.symm ?_
    obtain ⟨q_z_318, b_z_318⟩ := ti_i2l e_z_318 (ti_rng a2)
    refine lv_lconst (v := 1) hx hb dX10_window_10 (by decide) ?_
    refine lv_aload_n hx hb dX10_window_11 rfl (lv_at hl 0 rfl) ?_
    refine va_get (D := (dC, dI)) (ci := 8) (v := .ref mwo) (C := RX10) (T := TX10) (N := 33) hx hb hts iX10_window_X10 hown hK hP 0 rfl rfl 1 (by decide) (hts (.fieldLink RX10 9 "LuckyTicketModel" "world" "[I") (List.mem_of_getElem? (i := 6) rfl)) (fun _ h9 => h9) rfl dX10_window_12 ?_
    refine lv_iconst (v := 2) hx hb dX10_window_15 (by decide) ?_
    refine va_iald hx hb hK hP 1 0 rfl rfl (vp_in_b (by decide : (2 : Int) ≤ (2 : Int32).toInt ∧ (2 : Int32).toInt ≤ 2) (by decide) (by decide)) dX10_window_16 ?_
    refine lv_topi (fun z_319 e_z_319 => ?_)
    obtain rfl : z_319 = tk := e_z_319.trans hw2
    obtain ⟨z_320, e_z_320⟩ : ∃ y : Int64, y = tk.toInt64 := ⟨_, rfl⟩
    refine lv_i2l (v := z_320) hx hb dX10_window_17 e_z_320.symm ?_
    obtain ⟨q_z_320, b_z_320⟩ := ti_i2l e_z_320 b_tk
    refine vp_callSi (W.runS (As := [.long z_318, .long 1, .long z_320]) (rest := []) ⟨hx, hb, hml, hown, hts⟩ (kX10_in l dC dI z_318 1 z_320 ) (va_cwS 3 hts gX10_window__X10_in_S82 rfl rfl rfl (by decide +kernel) ⟨lel 1 2 rfl, lel 25 46 rfl⟩) ⟨pn_fb, pn_use⟩ rfl rfl hl.1 rfl (lv_room (Nat.le_of_ble_eq_true rfl)) dX10_window_18 ⟨lel 0 0 rfl, lel 0 0 rfl⟩) (fun r_321 h_r_321 => ?_)
    obtain ⟨b_r_321, nz_r_321⟩ := h_r_321
    have b_r_321 : (0 : Int) ≤ r_321.toInt ∧ r_321.toInt ≤ 1 := b_r_321
    refine lv_if_eq (tgt := 36) hx hb dX10_window_21 (by decide) (fun c_322 => ?_) (fun c_322 => ?_)
    ·
      have n_c_322 : (r_321.toInt : Int) = 0 := c_eq rfl (by decide) c_322
      have b_r_321 : (0 : Int) ≤ r_321.toInt ∧ r_321.toInt ≤ 0 := r_eq1 b_r_321 (by decide : (0 : Int) ≤ (0 : Int32).toInt ∧ (0 : Int32).toInt ≤ 0) n_c_322 (by decide)
      refine lv_bipush (v := (-2)) hx hb dX10_window_36 (by decide) ?_
      exact W.iret (v := (-2)) hx hb hr (fun t ht hW => ⟨(-2), rfl, trivial, ht⟩) t_nil dX10_window_38
    ·
      have n_c_322 : (r_321.toInt : Int) ≠ 0 := c_ne rfl (by decide) c_322
      have b_r_321 : (1 : Int) ≤ r_321.toInt ∧ r_321.toInt ≤ 1 := r_ne1 b_r_321 (by decide : (0 : Int) ≤ (0 : Int32).toInt ∧ (0 : Int32).toInt ≤ 0) n_c_322 (by decide)
      have g_323 := nz_r_321 c_322
      have lt0_g_323 := (by decide : (1 : Int64).toInt = 1)
      have b_z_318 : (1 : Int) ≤ z_318.toInt ∧ z_318.toInt ≤ 20000 := by
        have q0 := b_z_318
        have q1 := (by decide : (1 : Int) ≤ (1 : Int64).toInt ∧ (1 : Int64).toInt ≤ 1)
        have q2 := b_z_320
        omega
      have b_a2 : (1 : Int) ≤ a2.toInt ∧ a2.toInt ≤ 20000 := by
        have q0 := b_z_318; have q1 := q_z_318; have q2 := (ti_rng a2); omega
      refine lv_iload_n hx hb dX10_window_24 rfl (lv_at hl 3 rfl) ?_
      obtain ⟨z_324, e_z_324⟩ : ∃ y : Int64, y = a3.toInt64 := ⟨_, rfl⟩
      refine lv_i2l (v := z_324) hx hb dX10_window_25 e_z_324.symm ?_
      obtain ⟨q_z_324, b_z_324⟩ := ti_i2l e_z_324 (ti_rng a3)
      refine lv_lconst (v := 0) hx hb dX10_window_26 (by decide) ?_
      refine lv_ldc2 (v := 3) hx hb hown (hts (.constantLong RX10 375 (3)) (List.mem_of_getElem? (i := 10) rfl)) dX10_window_27 ?_
      refine vp_callSi (W.runS (As := [.long z_324, .long 0, .long 3]) (rest := []) ⟨hx, hb, hml, hown, hts⟩ (kX10_in l dC dI z_324 0 3 ) (va_cwS 3 hts gX10_window__X10_in_S82 rfl rfl rfl (by decide +kernel) ⟨lel 1 2 rfl, lel 25 46 rfl⟩) ⟨pn_fb, pn_use⟩ rfl rfl hl.1 rfl (lv_room (Nat.le_of_ble_eq_true rfl)) dX10_window_30 ⟨lel 0 0 rfl, lel 0 0 rfl⟩) (fun r_325 h_r_325 => ?_)
      obtain ⟨b_r_325, nz_r_325⟩ := h_r_325
      have b_r_325 : (0 : Int) ≤ r_325.toInt ∧ r_325.toInt ≤ 1 := b_r_325
      refine lv_if_ne (tgt := 39) hx hb dX10_window_33 (by decide) (fun c_326 => ?_) (fun c_326 => ?_)
      ·
        have n_c_326 : (r_325.toInt : Int) ≠ 0 := c_ne rfl (by decide) c_326
        have b_r_325 : (1 : Int) ≤ r_325.toInt ∧ r_325.toInt ≤ 1 := r_ne1 b_r_325 (by decide : (0 : Int) ≤ (0 : Int32).toInt ∧ (0 : Int32).toInt ≤ 0) n_c_326 (by decide)
        have g_327 := nz_r_325 c_326
        have lt0_g_327 := (by decide : (0 : Int64).toInt = 0)
        have lt1_g_327 := (by decide : (3 : Int64).toInt = 3)
        have b_z_324 : (0 : Int) ≤ z_324.toInt ∧ z_324.toInt ≤ 3 := by
          have q0 := b_z_324
          have q1 := (by decide : (0 : Int) ≤ (0 : Int64).toInt ∧ (0 : Int64).toInt ≤ 0)
          have q2 := (by decide : (3 : Int) ≤ (3 : Int64).toInt ∧ (3 : Int64).toInt ≤ 3)
          omega
        have b_a3 : (0 : Int) ≤ a3.toInt ∧ a3.toInt ≤ 3 := by
          have q0 := b_z_324; have q1 := q_z_324; have q2 := (ti_rng a3); omega
        refine lv_aload_n hx hb dX10_window_39 rfl (lv_at hl 0 rfl) ?_
        refine lv_iload_n hx hb dX10_window_40 rfl (lv_at hl 1 rfl) ?_
        refine lv_iload_n hx hb dX10_window_41 rfl (lv_at hl 2 rfl) ?_
        refine vp_callSi (W.runV (As := [.int a1, .int a2]) (rest := []) ⟨hx, hb, hml, hown, hts⟩ (kX10_rankOf l dC dI o0 x_th mwo mim mhi mlu mtp x_td mfv x_sz x_at x_fr x_to x_va x_fk x_fp mfr mwt x_wt x_op x_jo mfg mpl x_dr mtm mfa mqu mmo mwy mwn mma mwi mnu mmv c_wo c_lu w_wo w_lu ln bs tk lw li a1 a2 b_ln b_bs b_tk b_lw (rg_w b_a2 (by decide) (by decide)) (hw0) (hw1) (hw2) (hw3) (hw4) (hwz)) (cwV 2 hts gX10_window__X10_rankOf_V319 rfl rfl rfl (by decide +kernel) ⟨lel 1 2 rfl, lel 24 46 rfl⟩) ⟨pw_fb, va_recv hK hP (ci := 8) (q0 := 0) rfl rfl, (pw_use hP hK hN [0, 1, 2] rfl [0, 1] rfl)⟩ rfl rfl hl.1 rfl (lv_room (Nat.le_of_ble_eq_true rfl)) dX10_window_42 ⟨lel 0 0 rfl, lel 0 0 rfl⟩) (fun r_328 h_r_328 => ?_)
        obtain ⟨b_r_328, pr_r_328⟩ := h_r_328
        have b_r_328 : (0 : Int) ≤ r_328.toInt ∧ r_328.toInt ≤ 20000 := b_r_328
        refine lv_istore (lv' := [(4, .int r_328), (0, .ref o0), (1, .int a1), (2, .int a2), (3, .int a3)]) hx hb dX10_window_45 hl (by decide) rfl (fun ls hl => ?_)
        refine lv_iload hx hb dX10_window_47 (lv_at hl 0 rfl) ?_
        refine lv_istore (lv' := [(5, .int r_328), (4, .int r_328), (0, .ref o0), (1, .int a1), (2, .int a2), (3, .int a3)]) hx hb dX10_window_49 hl (by decide) rfl (fun ls hl => ?_)
        refine lv_iconst (v := 0) hx hb dX10_window_51 (by decide) ?_
        refine lv_istore (lv' := [(6, .int 0), (5, .int r_328), (4, .int r_328), (0, .ref o0), (1, .int a1), (2, .int a2), (3, .int a3)]) hx hb dX10_window_52 hl (by decide) rfl (fun ls hl => ?_)
        refine lv_iload hx hb dX10_window_54 (lv_at hl 2 rfl) ?_
        refine lv_istore (lv' := [(7, .int r_328), (6, .int 0), (5, .int r_328), (4, .int r_328), (0, .ref o0), (1, .int a1), (2, .int a2), (3, .int a3)]) hx hb dX10_window_56 hl (by decide) rfl (fun ls hl => ?_)
        refine lv_iconst (v := 0) hx hb dX10_window_58 (by decide) ?_
        refine lv_istore (lv' := [(8, .int 0), (7, .int r_328), (6, .int 0), (5, .int r_328), (4, .int r_328), (0, .ref o0), (1, .int a1), (2, .int a2), (3, .int a3)]) hx hb dX10_window_59 hl (by decide) rfl (fun ls hl => ?_)
        refine lv_iconst (v := 1) hx hb dX10_window_61 (by decide) ?_
        refine lv_istore (lv' := [(9, .int 1), (8, .int 0), (7, .int r_328), (6, .int 0), (5, .int r_328), (4, .int r_328), (0, .ref o0), (1, .int a1), (2, .int a2), (3, .int a3)]) hx hb dX10_window_62 hl (by decide) rfl (fun ls hl => ?_)
        refine loopP (σ := Int32 × Int32 × Int32 × Int32 × Int32 × Int32) (fun v => (20000 - v.1.toInt).toNat) (fun v ls => ((1 : Int) ≤ v.1.toInt ∧ v.1.toInt ≤ 20000) ∧ ((0 : Int) ≤ v.2.1.toInt ∧ v.2.1.toInt ≤ 19999) ∧ ((-2147483648 : Int) ≤ v.2.2.1.toInt ∧ v.2.2.1.toInt ≤ 20000) ∧ ((0 : Int) ≤ v.2.2.2.1.toInt ∧ v.2.2.2.1.toInt ≤ 19999) ∧ ((0 : Int) ≤ v.2.2.2.2.1.toInt ∧ v.2.2.2.2.1.toInt ≤ 2147483647) ∧ lv_has ls 10 [(9, .int v.1), (8, .int v.2.1), (7, .int v.2.2.1), (6, .int v.2.2.2.1), (5, .int v.2.2.2.2.1), (4, .int v.2.2.2.2.2), (0, .ref o0), (1, .int a1), (2, .int a2), (3, .int a3)]) (fun v ls hI ih_64_586 => ?_) ((1 : Int32), (0 : Int32), r_328, (0 : Int32), r_328, r_328) ⟨(show (1 : Int) ≤ (1 : Int32).toInt ∧ (1 : Int32).toInt ≤ 20000 from (rg_w (by decide : (1 : Int) ≤ (1 : Int32).toInt ∧ (1 : Int32).toInt ≤ 1) (by decide) (by decide))), (show (0 : Int) ≤ (0 : Int32).toInt ∧ (0 : Int32).toInt ≤ 19999 from (rg_w (by decide : (0 : Int) ≤ (0 : Int32).toInt ∧ (0 : Int32).toInt ≤ 0) (by decide) (by decide))), (show (-2147483648 : Int) ≤ r_328.toInt ∧ r_328.toInt ≤ 20000 from (rg_w b_r_328 (by decide) (by decide))), (show (0 : Int) ≤ (0 : Int32).toInt ∧ (0 : Int32).toInt ≤ 19999 from (rg_w (by decide : (0 : Int) ≤ (0 : Int32).toInt ∧ (0 : Int32).toInt ≤ 0) (by decide) (by decide))), (show (0 : Int) ≤ r_328.toInt ∧ r_328.toInt ≤ 2147483647 from (rg_w b_r_328 (by decide) (by decide))), lv_sub hl [0, 1, 2, 3, 4, 5, 6, 7, 8, 9] rfl⟩
        obtain ⟨y_371, y_372, y_373, y_374, y_375, y_376⟩ := v
        obtain ⟨b_y_371, b_y_372, b_y_373, b_y_374, b_y_375, hl⟩ := hI
        have b_y_371 : (1 : Int) ≤ y_371.toInt ∧ y_371.toInt ≤ 20000 := b_y_371
        have b_y_372 : (0 : Int) ≤ y_372.toInt ∧ y_372.toInt ≤ 19999 := b_y_372
        have b_y_373 : (-2147483648 : Int) ≤ y_373.toInt ∧ y_373.toInt ≤ 20000 := b_y_373
        have b_y_374 : (0 : Int) ≤ y_374.toInt ∧ y_374.toInt ≤ 19999 := b_y_374
        have b_y_375 : (0 : Int) ≤ y_375.toInt ∧ y_375.toInt ≤ 2147483647 := b_y_375
        have hl : lv_has ls 10 [(9, .int y_371), (8, .int y_372), (7, .int y_373), (6, .int y_374), (5, .int y_375), (4, .int y_376), (0, .ref o0), (1, .int a1), (2, .int a2), (3, .int a3)] := hl
        refine lv_iload hx hb dX10_window_64 (lv_at hl 0 rfl) ?_
        refine lv_iload_n hx hb dX10_window_66 rfl (lv_at hl 8 rfl) ?_
        refine lv_iadd hx hb dX10_window_67 ?_
        refine lv_topi (fun z_587 e_z_587 => ?_)
        obtain ⟨q_z_587, b_z_587⟩ := ti_add (lo := 2) (hi := 40000) e_z_587 rfl rfl b_y_371 b_a2 (by decide)
        refine lv_aload_n hx hb dX10_window_68 rfl (lv_at hl 6 rfl) ?_
        refine va_get (D := (dC, dI)) (ci := 8) (v := .ref mwo) (C := RX10) (T := TX10) (N := 33) hx hb hts iX10_window_X10 hown hK hP 0 rfl rfl 1 (by decide) (hts (.fieldLink RX10 9 "LuckyTicketModel" "world" "[I") (List.mem_of_getElem? (i := 6) rfl)) (fun _ h9 => h9) rfl dX10_window_69 ?_
        refine lv_iconst (v := 2) hx hb dX10_window_72 (by decide) ?_
        refine va_iald hx hb hK hP 1 0 rfl rfl (vp_in_b (by decide : (2 : Int) ≤ (2 : Int32).toInt ∧ (2 : Int32).toInt ≤ 2) (by decide) (by decide)) dX10_window_73 ?_
        refine lv_topi (fun z_588 e_z_588 => ?_)
        obtain rfl : z_588 = tk := e_z_588.trans hw2
        refine lv_icmp_gt (tgt := 167) hx hb dX10_window_74 (by decide) (fun c_589 => ?_) (fun c_589 => ?_)
        ·
          have n_c_589 : (tk.toInt : Int) < z_587.toInt := c_gt rfl rfl c_589
          refine lv_iload_n hx hb dX10_window_167 rfl (lv_at hl 9 rfl) ?_
          refine lv_if_ne (tgt := 176) hx hb dX10_window_168 (by decide) (fun c_608 => ?_) (fun c_608 => ?_)
          ·
            have n_c_608 : (a3.toInt : Int) ≠ 0 := c_ne rfl (by decide) c_608
            have b_a3 : (1 : Int) ≤ a3.toInt ∧ a3.toInt ≤ 3 := r_ne1 b_a3 (by decide : (0 : Int) ≤ (0 : Int32).toInt ∧ (0 : Int32).toInt ≤ 0) n_c_608 (by decide)
            refine lv_iload_n hx hb dX10_window_176 rfl (lv_at hl 9 rfl) ?_
            refine lv_iconst (v := 1) hx hb dX10_window_177 (by decide) ?_
            refine lv_icmp_ne (tgt := 186) hx hb dX10_window_178 (by decide) (fun c_609 => ?_) (fun c_609 => ?_)
            ·
              have n_c_609 : (a3.toInt : Int) ≠ 1 := c_ne rfl (by decide) c_609
              have b_a3 : (2 : Int) ≤ a3.toInt ∧ a3.toInt ≤ 3 := r_ne1 b_a3 (by decide : (1 : Int) ≤ (1 : Int32).toInt ∧ (1 : Int32).toInt ≤ 1) n_c_609 (by decide)
              refine lv_iload_n hx hb dX10_window_186 rfl (lv_at hl 9 rfl) ?_
              refine lv_iconst (v := 2) hx hb dX10_window_187 (by decide) ?_
              refine lv_icmp_ne (tgt := 196) hx hb dX10_window_188 (by decide) (fun c_610 => ?_) (fun c_610 => ?_)
              ·
                have n_c_610 : (a3.toInt : Int) ≠ 2 := c_ne rfl (by decide) c_610
                have b_a3 : (3 : Int) ≤ a3.toInt ∧ a3.toInt ≤ 3 := r_ne1 b_a3 (by decide : (2 : Int) ≤ (2 : Int32).toInt ∧ (2 : Int32).toInt ≤ 2) n_c_610 (by decide)
                refine lv_iload hx hb dX10_window_196 (lv_at hl 1 rfl) ?_
                exact W.iret (v := y_372) hx hb hr (fun t ht hW => ⟨y_372, rfl, trivial, ht⟩) t_nil dX10_window_198
              ·
                have n_c_610 : (a3.toInt : Int) = 2 := c_eq rfl (by decide) c_610
                have b_a3 : (2 : Int) ≤ a3.toInt ∧ a3.toInt ≤ 2 := r_eq1 b_a3 (by decide : (2 : Int) ≤ (2 : Int32).toInt ∧ (2 : Int32).toInt ≤ 2) n_c_610 (by decide)
                refine lv_iload hx hb dX10_window_191 (lv_at hl 2 rfl) ?_
                refine lv_goto (tgt := 198) hx hb dX10_window_193 (by decide) ?_
                exact W.iret (v := y_373) hx hb hr (fun t ht hW => ⟨y_373, rfl, trivial, ht⟩) t_nil dX10_window_198
            ·
              have n_c_609 : (a3.toInt : Int) = 1 := c_eq rfl (by decide) c_609
              have b_a3 : (1 : Int) ≤ a3.toInt ∧ a3.toInt ≤ 1 := r_eq1 b_a3 (by decide : (1 : Int) ≤ (1 : Int32).toInt ∧ (1 : Int32).toInt ≤ 1) n_c_609 (by decide)
              refine lv_iload hx hb dX10_window_181 (lv_at hl 3 rfl) ?_
              refine lv_goto (tgt := 198) hx hb dX10_window_183 (by decide) ?_
              exact W.iret (v := y_374) hx hb hr (fun t ht hW => ⟨y_374, rfl, trivial, ht⟩) t_nil dX10_window_198
          ·
            have n_c_608 : (a3.toInt : Int) = 0 := c_eq rfl (by decide) c_608
            have b_a3 : (0 : Int) ≤ a3.toInt ∧ a3.toInt ≤ 0 := r_eq1 b_a3 (by decide : (0 : Int) ≤ (0 : Int32).toInt ∧ (0 : Int32).toInt ≤ 0) n_c_608 (by decide)
            refine lv_iload hx hb dX10_window_171 (lv_at hl 4 rfl) ?_
            refine lv_goto (tgt := 198) hx hb dX10_window_173 (by decide) ?_
            exact W.iret (v := y_375) hx hb hr (fun t ht hW => ⟨y_375, rfl, trivial, ht⟩) t_nil dX10_window_198
        ·
          have n_c_589 : (z_587.toInt : Int) ≤ tk.toInt := c_ngt rfl rfl c_589
          have b_z_587 : (2 : Int) ≤ z_587.toInt ∧ z_587.toInt ≤ 20000 := r_le1 b_z_587 b_tk n_c_589 (by decide)
          have b_y_371 : (1 : Int) ≤ y_371.toInt ∧ y_371.toInt ≤ 19999 := by
            have q0 := b_z_587; have q1 := q_z_587; have q2 := b_y_371; have q3 := b_a2; omega
          have b_a2 : (1 : Int) ≤ a2.toInt ∧ a2.toInt ≤ 19999 := by
            have q0 := b_z_587; have q1 := q_z_587; have q2 := b_a2; have q3 := b_y_371; omega
          have b_tk : (2 : Int) ≤ tk.toInt ∧ tk.toInt ≤ 20000 := r_le2 b_z_587 b_tk n_c_589 (by decide)
          refine lv_iload hx hb dX10_window_77 (lv_at hl 5 rfl) ?_
          refine lv_aload_n hx hb dX10_window_79 rfl (lv_at hl 6 rfl) ?_
          refine va_get (D := (dC, dI)) (ci := 8) (v := .ref mlu) (C := RX10) (T := TX10) (N := 33) hx hb hts iX10_window_X10 hown hK hP 0 rfl rfl 4 (by decide) (hts (.fieldLink RX10 20 "LuckyTicketModel" "luck" "[I") (List.mem_of_getElem? (i := 15) rfl)) (fun _ h9 => h9) rfl dX10_window_80 ?_
          refine lv_iload hx hb dX10_window_83 (lv_at hl 0 rfl) ?_
          refine lv_iload_n hx hb dX10_window_85 rfl (lv_at hl 8 rfl) ?_
          refine lv_iadd hx hb dX10_window_86 ?_
          refine lv_topi (fun z_611 e_z_611 => ?_)
          obtain ⟨q_z_611, b_z_611⟩ := ti_add (lo := 2) (hi := 39998) e_z_611 rfl rfl b_y_371 b_a2 (by decide)
          refine lv_iconst (v := 1) hx hb dX10_window_87 (by decide) ?_
          refine lv_isub hx hb dX10_window_88 ?_
          refine lv_topi (fun z_612 e_z_612 => ?_)
          obtain ⟨q_z_612, b_z_612⟩ := ti_sub (lo := 1) (hi := 39997) e_z_612 rfl (by decide : (1 : Int32).toInt = 1) b_z_611 (by decide : (1 : Int) ≤ (1 : Int32).toInt ∧ (1 : Int32).toInt ≤ 1) (by decide)
          refine va_iald hx hb hK hP 2 1 rfl rfl (vp_in_iff.mpr ⟨by omega, by omega⟩) dX10_window_89 ?_
          refine lv_topi (fun z_613 e_z_613 => ?_)
          refine lv_iload_n hx hb dX10_window_90 rfl (lv_at hl 7 rfl) ?_
          refine lv_ishr hx hb dX10_window_91 ?_
          refine lv_topi (fun z_614 e_z_614 => ?_)
          refine lv_iconst (v := 1) hx hb dX10_window_92 (by decide) ?_
          refine lv_iand hx hb dX10_window_93 ?_
          refine lv_topi (fun z_615 e_z_615 => ?_)
          have b_z_615 : (0 : Int) ≤ z_615.toInt ∧ z_615.toInt ≤ 1 := ti_and (k := 1) e_z_615 (by decide) (by decide) (by decide)
          refine lv_aload_n hx hb dX10_window_94 rfl (lv_at hl 6 rfl) ?_
          refine va_get (D := (dC, dI)) (ci := 8) (v := .ref mlu) (C := RX10) (T := TX10) (N := 33) hx hb hts iX10_window_X10 hown hK hP 0 rfl rfl 4 (by decide) (hts (.fieldLink RX10 20 "LuckyTicketModel" "luck" "[I") (List.mem_of_getElem? (i := 15) rfl)) (fun _ h9 => h9) rfl dX10_window_95 ?_
          refine lv_iload hx hb dX10_window_98 (lv_at hl 0 rfl) ?_
          refine lv_iconst (v := 1) hx hb dX10_window_100 (by decide) ?_
          refine lv_isub hx hb dX10_window_101 ?_
          refine lv_topi (fun z_616 e_z_616 => ?_)
          obtain ⟨q_z_616, b_z_616⟩ := ti_sub (lo := 0) (hi := 19998) e_z_616 rfl (by decide : (1 : Int32).toInt = 1) b_y_371 (by decide : (1 : Int) ≤ (1 : Int32).toInt ∧ (1 : Int32).toInt ≤ 1) (by decide)
          refine va_iald hx hb hK hP 2 1 rfl rfl (vp_in_b b_z_616 (by decide) (by decide)) dX10_window_102 ?_
          refine lv_topi (fun z_617 e_z_617 => ?_)
          refine lv_iload_n hx hb dX10_window_103 rfl (lv_at hl 7 rfl) ?_
          refine lv_ishr hx hb dX10_window_104 ?_
          refine lv_topi (fun z_618 e_z_618 => ?_)
          refine lv_iconst (v := 1) hx hb dX10_window_105 (by decide) ?_
          refine lv_iand hx hb dX10_window_106 ?_
          refine lv_topi (fun z_619 e_z_619 => ?_)
          have b_z_619 : (0 : Int) ≤ z_619.toInt ∧ z_619.toInt ≤ 1 := ti_and (k := 1) e_z_619 (by decide) (by decide) (by decide)
          refine lv_isub hx hb dX10_window_107 ?_
          refine lv_topi (fun z_620 e_z_620 => ?_)
          obtain ⟨q_z_620, b_z_620⟩ := ti_sub (lo := -1) (hi := 1) e_z_620 rfl rfl b_z_615 b_z_619 (by decide)
          refine lv_iadd hx hb dX10_window_108 ?_
          refine lv_topi (fun z_621 e_z_621 => ?_)
          refine lv_istore (lv' := [(4, .int z_621), (9, .int y_371), (8, .int y_372), (7, .int y_373), (6, .int y_374), (5, .int y_375), (0, .ref o0), (1, .int a1), (2, .int a2), (3, .int a3)]) hx hb dX10_window_109 hl (by decide) rfl (fun ls hl => ?_)
          refine lv_iload hx hb dX10_window_111 (lv_at hl 0 rfl) ?_
          refine lv_iload hx hb dX10_window_113 (lv_at hl 5 rfl) ?_
          refine cutP (σ := Int32) (pc2 := 125) (st2 := fun v => [.int v]) (cells2 := 0) (slots2 := 0) (fun v ls => ((0 : Int) ≤ v.toInt ∧ v.toInt ≤ 19999) ∧ lv_has ls 10 [(4, .int z_621), (9, .int y_371), (8, .int y_372), (7, .int y_373), (6, .int y_374), (5, .int y_375), (0, .ref o0), (1, .int a1), (2, .int a2), (3, .int a3)]) (fun v ls hI => ?_) (fun hj_125_623 => ?_)
          ·
            obtain ⟨y_623, rfl⟩ : ∃ z, z = v := ⟨_, rfl⟩
            obtain ⟨b_y_623, hl⟩ := hI
            have b_y_623 : (0 : Int) ≤ y_623.toInt ∧ y_623.toInt ≤ 19999 := b_y_623
            have hl : lv_has ls 10 [(4, .int z_621), (9, .int y_371), (8, .int y_372), (7, .int y_373), (6, .int y_374), (5, .int y_375), (0, .ref o0), (1, .int a1), (2, .int a2), (3, .int a3)] := hl
            refine lv_istore (lv' := [(6, .int y_623), (4, .int z_621), (9, .int y_371), (8, .int y_372), (7, .int y_373), (5, .int y_375), (0, .ref o0), (1, .int a1), (2, .int a2), (3, .int a3)]) hx hb dX10_window_125 hl (by decide) rfl (fun ls hl => ?_)
            refine lv_iload hx hb dX10_window_127 (lv_at hl 5 rfl) ?_
            refine lv_iload hx hb dX10_window_129 (lv_at hl 1 rfl) ?_
            refine va_mmax hx hb (hml.trans hl.1.symm) hown (hts (.methodLink RX10 427 yJ9_max_7cf53) (List.mem_of_getElem? (i := 16) rfl)) (hts (.static yJ9_max_7cf53) (List.mem_of_getElem? (i := 17) rfl)) (hts (.initialized RJ9) (List.mem_of_getElem? (i := 18) rfl)) (hts (.code yJ9_max_7cf53 cJ9_max_7cf53 2 (some .int)) (List.mem_of_getElem? (i := 19) rfl)) (lel 1 2 rfl) (Nat.le_of_ble_eq_true rfl) (lel 0 0 rfl) (lel 0 0 rfl) dX10_window_131 ?_
            refine lv_topi (fun z_624 e_z_624 => ?_)
            have q_z_624 := ti_max e_z_624 rfl rfl
            have b_z_624 : (0 : Int) ≤ z_624.toInt ∧ z_624.toInt ≤ 2147483647 := by
              have q0 := b_y_375; have q1 := (ti_rng z_621)
              omega
            refine lv_istore (lv' := [(5, .int z_624), (6, .int y_623), (4, .int z_621), (9, .int y_371), (8, .int y_372), (7, .int y_373), (0, .ref o0), (1, .int a1), (2, .int a2), (3, .int a3)]) hx hb dX10_window_134 hl (by decide) rfl (fun ls hl => ?_)
            refine lv_iload hx hb dX10_window_136 (lv_at hl 2 rfl) ?_
            refine lv_iload hx hb dX10_window_138 (lv_at hl 5 rfl) ?_
            refine cutP (σ := Int32) (pc2 := 150) (st2 := fun v => [.int v]) (cells2 := 0) (slots2 := 0) (fun v ls => ((0 : Int) ≤ v.toInt ∧ v.toInt ≤ 19999) ∧ lv_has ls 10 [(5, .int z_624), (6, .int y_623), (4, .int z_621), (9, .int y_371), (8, .int y_372), (7, .int y_373), (0, .ref o0), (1, .int a1), (2, .int a2), (3, .int a3)]) (fun v ls hI => ?_) (fun hj_150_626 => ?_)
            ·
              obtain ⟨y_626, rfl⟩ : ∃ z, z = v := ⟨_, rfl⟩
              obtain ⟨b_y_626, hl⟩ := hI
              have b_y_626 : (0 : Int) ≤ y_626.toInt ∧ y_626.toInt ≤ 19999 := b_y_626
              have hl : lv_has ls 10 [(5, .int z_624), (6, .int y_623), (4, .int z_621), (9, .int y_371), (8, .int y_372), (7, .int y_373), (0, .ref o0), (1, .int a1), (2, .int a2), (3, .int a3)] := hl
              refine lv_istore (lv' := [(8, .int y_626), (5, .int z_624), (6, .int y_623), (4, .int z_621), (9, .int y_371), (7, .int y_373), (0, .ref o0), (1, .int a1), (2, .int a2), (3, .int a3)]) hx hb dX10_window_150 hl (by decide) rfl (fun ls hl => ?_)
              refine lv_iload hx hb dX10_window_152 (lv_at hl 5 rfl) ?_
              refine lv_iload hx hb dX10_window_154 (lv_at hl 3 rfl) ?_
              refine va_mmin hx hb (hml.trans hl.1.symm) hown (hts (.methodLink RX10 128 yJ9_min_7cf53) (List.mem_of_getElem? (i := 20) rfl)) (hts (.static yJ9_min_7cf53) (List.mem_of_getElem? (i := 21) rfl)) (hts (.initialized RJ9) (List.mem_of_getElem? (i := 18) rfl)) (hts (.code yJ9_min_7cf53 cJ9_min_7cf53 2 (some .int)) (List.mem_of_getElem? (i := 22) rfl)) (lel 1 2 rfl) (Nat.le_of_ble_eq_true rfl) (lel 0 0 rfl) (lel 0 0 rfl) dX10_window_156 ?_
              refine lv_topi (fun z_627 e_z_627 => ?_)
              have q_z_627 := ti_min e_z_627 rfl rfl
              have b_z_627 : (-2147483648 : Int) ≤ z_627.toInt ∧ z_627.toInt ≤ 20000 := by
                have q0 := b_y_373; have q1 := (ti_rng z_621)
                omega
              refine lv_istore (lv' := [(7, .int z_627), (8, .int y_626), (5, .int z_624), (6, .int y_623), (4, .int z_621), (9, .int y_371), (0, .ref o0), (1, .int a1), (2, .int a2), (3, .int a3)]) hx hb dX10_window_159 hl (by decide) rfl (fun ls hl => ?_)
              obtain ⟨z_628, e_z_628⟩ : ∃ y : Int32, y = y_371 + 1 := ⟨_, rfl⟩
              refine lv_iinc (v := z_628) (lv' := [(9, .int z_628), (7, .int z_627), (8, .int y_626), (5, .int z_624), (6, .int y_623), (4, .int z_621), (0, .ref o0), (1, .int a1), (2, .int a2), (3, .int a3)]) hx hb dX10_window_161 hl (k := 5) rfl (by rw [e_z_628]; rfl) (by decide) rfl (fun ls hl => ?_)
              obtain ⟨q_z_628, b_z_628⟩ := ti_add (lo := 2) (hi := 20000) e_z_628 rfl (by decide : (1 : Int32).toInt = 1) b_y_371 (by decide : (1 : Int) ≤ (1 : Int32).toInt ∧ (1 : Int32).toInt ≤ 1) (by decide)
              refine lv_goto (tgt := 64) hx hb dX10_window_164 (by decide) ?_
              exact ih_64_586 (z_628, y_626, z_627, y_623, z_624, z_621) _ ⟨(show (1 : Int) ≤ z_628.toInt ∧ z_628.toInt ≤ 20000 from (rg_w b_z_628 (by decide) (by decide))), (show (0 : Int) ≤ y_626.toInt ∧ y_626.toInt ≤ 19999 from b_y_626), (show (-2147483648 : Int) ≤ z_627.toInt ∧ z_627.toInt ≤ 20000 from b_z_627), (show (0 : Int) ≤ y_623.toInt ∧ y_623.toInt ≤ 19999 from b_y_623), (show (0 : Int) ≤ z_624.toInt ∧ z_624.toInt ≤ 2147483647 from b_z_624), lv_sub hl [0, 2, 1, 4, 3, 5, 6, 7, 8, 9] rfl⟩ (show (20000 - z_628.toInt).toNat < (20000 - y_371.toInt).toNat by omega)
            ·
              refine lv_icmp_ge (tgt := 148) hx hb dX10_window_140 (by decide) (fun c_625 => ?_) (fun c_625 => ?_)
              ·
                have n_c_625 : (y_373.toInt : Int) ≤ z_621.toInt := c_ge rfl rfl c_625
                refine lv_iload hx hb dX10_window_148 (lv_at hl 4 rfl) ?_
                exact hj_150_626 y_372 _ ⟨(show (0 : Int) ≤ y_372.toInt ∧ y_372.toInt ≤ 19999 from b_y_372), lv_sub hl [0, 1, 2, 3, 4, 5, 6, 7, 8, 9] rfl⟩
              ·
                have n_c_625 : (z_621.toInt : Int) < y_373.toInt := c_nge rfl rfl c_625
                have b_z_621 : (-2147483648 : Int) ≤ z_621.toInt ∧ z_621.toInt ≤ 19999 := r_lt1 (ti_rng z_621) b_y_373 n_c_625 (by decide)
                have b_y_373 : (-2147483647 : Int) ≤ y_373.toInt ∧ y_373.toInt ≤ 20000 := r_lt2 (ti_rng z_621) b_y_373 n_c_625 (by decide)
                refine lv_iload hx hb dX10_window_143 (lv_at hl 3 rfl) ?_
                refine lv_goto (tgt := 150) hx hb dX10_window_145 (by decide) ?_
                exact hj_150_626 y_371 _ ⟨(show (0 : Int) ≤ y_371.toInt ∧ y_371.toInt ≤ 19999 from (rg_w b_y_371 (by decide) (by decide))), lv_sub hl [0, 1, 2, 3, 4, 5, 6, 7, 8, 9] rfl⟩
          ·
            refine lv_icmp_le (tgt := 123) hx hb dX10_window_115 (by decide) (fun c_622 => ?_) (fun c_622 => ?_)
            ·
              have n_c_622 : (z_621.toInt : Int) ≤ y_375.toInt := c_le rfl rfl c_622
              refine lv_iload hx hb dX10_window_123 (lv_at hl 4 rfl) ?_
              exact hj_125_623 y_374 _ ⟨(show (0 : Int) ≤ y_374.toInt ∧ y_374.toInt ≤ 19999 from b_y_374), lv_sub hl [0, 1, 2, 3, 4, 5, 6, 7, 8, 9] rfl⟩
            ·
              have n_c_622 : (y_375.toInt : Int) < z_621.toInt := c_nle rfl rfl c_622
              have b_y_375 : (0 : Int) ≤ y_375.toInt ∧ y_375.toInt ≤ 2147483646 := r_lt1 b_y_375 (ti_rng z_621) n_c_622 (by decide)
              have b_z_621 : (1 : Int) ≤ z_621.toInt ∧ z_621.toInt ≤ 2147483647 := r_lt2 b_y_375 (ti_rng z_621) n_c_622 (by decide)
              refine lv_iload hx hb dX10_window_118 (lv_at hl 1 rfl) ?_
              refine lv_goto (tgt := 125) hx hb dX10_window_120 (by decide) ?_
              exact hj_125_623 y_371 _ ⟨(show (0 : Int) ≤ y_371.toInt ∧ y_371.toInt ≤ 19999 from (rg_w b_y_371 (by decide) (by decide))), lv_sub hl [0, 1, 2, 3, 4, 5, 6, 7, 8, 9] rfl⟩
      ·
        have n_c_326 : (r_325.toInt : Int) = 0 := c_eq rfl (by decide) c_326
        have b_r_325 : (0 : Int) ≤ r_325.toInt ∧ r_325.toInt ≤ 0 := r_eq1 b_r_325 (by decide : (0 : Int) ≤ (0 : Int32).toInt ∧ (0 : Int32).toInt ≤ 0) n_c_326 (by decide)
        refine lv_bipush (v := (-2)) hx hb dX10_window_36 (by decide) ?_
        exact W.iret (v := (-2)) hx hb hr (fun t ht hW => ⟨(-2), rfl, trivial, ht⟩) t_nil dX10_window_38
