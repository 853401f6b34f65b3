theorem dX2_stands_0 : decode cX2_stands 0 = .ok (.aload_n 0, 1) := by decide +kernel
theorem dX2_stands_1 : decode cX2_stands 1 = .ok (.getfield 42, 3) := by decide +kernel
theorem dX2_stands_4 : decode cX2_stands 4 = .ok (.ifCond .le 7, 3) := by decide +kernel
theorem dX2_stands_7 : decode cX2_stands 7 = .ok (.iconst 1, 1) := by decide +kernel
theorem dX2_stands_8 : decode cX2_stands 8 = .ok (.goto 4, 3) := by decide +kernel
theorem dX2_stands_11 : decode cX2_stands 11 = .ok (.iconst 0, 1) := by decide +kernel
theorem dX2_stands_12 : decode cX2_stands 12 = .ok (.ireturn, 1) := by decide +kernel
theorem hd_yX2_stands : yX2_stands.cls = RX2 ∧ yX2_stands.cls ≠ "java/lang/invoke/MethodHandle" ∧ yX2_stands.cls ≠ "java/lang/invoke/VarHandle" ∧ (parseMethodDescriptor yX2_stands.desc).map (fun d => d.parameters.length) = some 0 := by decide +kernel
def uX2_stands : List Cond := List.cons (.code yX2_stands cX2_stands 1 (some .boolean)) (HAppend.hAppend ([.fieldLink RX2 42 "LuckyTicket$Roll" "tickets" "I"] : List Cond) wsX20)
theorem iX2_stands_X2 : ∀ w ∈ wsX20, w ∈ uX2_stands := fun _ h => (List.mem_cons_of_mem _ (List.mem_append_right _ h))
theorem guX2_stands : GU uX2_stands := gu_cons (gu_app (by decide +kernel) gws_X2)
set_option maxHeartbeats 4000000 in
set_option maxRecDepth 100000 in
theorem kX2_stands (l : Launch) (dC : Nat → ClassId) (dI : Nat → Nat → Nat) (cu : Nat) (ln : Int32) (bs : Int32) (tk : Int32) (lw : Int32) (li : Int32) (fa : Nat) (lu : Nat) (b_ln : (0 : Int) ≤ ln.toInt ∧ ln.toInt ≤ 12) (b_bs : (0 : Int) ≤ bs.toInt ∧ bs.toInt ≤ 16) (b_tk : (0 : Int) ≤ tk.toInt ∧ tk.toInt ≤ 20000) (b_lw : (0 : Int) ≤ lw.toInt ∧ lw.toInt ≤ 9) : Met l yX2_stands uX2_stands ({ frames := 0, cells := 0, slots := 0, locals := 0 }) (va_Pc [.ref cu] (pw (dC, dI) vwCl [(cu, .inr (1, [.int ln, .int bs, .int tk, .int lw, .int li, .ref fa, .ref lu]))] [])) (vp_Si (fun r => ((0 : Int) ≤ r.toInt ∧ r.toInt ≤ 1) ∧ (r ≠ 0 → (0 < tk.toInt)))) 0 0 (fun _ => False) := by
  refine Met.ofW (cc := cX2_stands) (maxL := 1) (ret := (some .boolean)) pn_X2 rfl ?_
  intro p e s m args below meth c s₁ B hml hv
  obtain ⟨rfl, hP, hK, hN⟩ := hv
  have hx := B.exec
  have hb := B.bytes
  have hr := B.returns
  have hts := atoms_spec (ws := uX2_stands) B.pre
  have hown : s.vm.findClass RX2 = some m.cls := hown_of B.named rfl
  have hlocks := B.notSynchronized
  have hl := lv_entry ([.ref cu]) (n := 1) (Nat.le_of_ble_eq_true rfl)
  rw [lg_entry_eq]
  generalize (lg_sl ([.ref cu]) ++ List.replicate (1 - (lg_sl ([.ref cu])).length) Slot.unset).toArray = ls at hl ⊢
  have hl : lv_has ls 1 [(0, .ref cu)] := hl
  refine lv_aload_n hx hb dX2_stands_0 rfl (lv_at hl 0 rfl) ?_
  refine va_get (D := (dC, dI)) (ci := 1) (v := .int tk) (C := RX2) (T := TX2) (N := 7) hx hb hts iX2_stands_X2 hown hK hP 0 rfl rfl 2 (by decide) (hts (.fieldLink RX2 42 "LuckyTicket$Roll" "tickets" "I") (List.mem_of_getElem? (i := 1) rfl)) (fun _ h9 => h9) rfl dX2_stands_1 ?_
  refine lv_if_le (tgt := 11) hx hb dX2_stands_4 (by decide) (fun c_2 => ?_) (fun c_2 => ?_)
  ·
    have n_c_2 : (tk.toInt : Int) ≤ 0 := c_le rfl (by decide) c_2
    have b_tk : (0 : Int) ≤ tk.toInt ∧ tk.toInt ≤ 0 := r_le1 b_tk (by decide : (0 : Int) ≤ (0 : Int32).toInt ∧ (0 : Int32).toInt ≤ 0) n_c_2 (by decide)
    refine lv_iconst (v := 0) hx hb dX2_stands_11 (by decide) ?_
    exact W.zret (v := 0) hx hb hr rfl (fun t ht hW => ⟨0, rfl, ⟨(rg_w (by decide : (0 : Int) ≤ (0 : Int32).toInt ∧ (0 : Int32).toInt ≤ 0) (by decide) (by decide)), (fun h9 => absurd rfl h9)⟩, ht⟩) t_nil dX2_stands_12
  ·
    have n_c_2 : (0 : Int) < tk.toInt := c_nle rfl (by decide) c_2
    have b_tk : (1 : Int) ≤ tk.toInt ∧ tk.toInt ≤ 20000 := r_lt2 (by decide : (0 : Int) ≤ (0 : Int32).toInt ∧ (0 : Int32).toInt ≤ 0) b_tk n_c_2 (by decide)
    refine lv_iconst (v := 1) hx hb dX2_stands_7 (by decide) ?_
    refine lv_goto (tgt := 12) hx hb dX2_stands_8 (by decide) ?_
    exact W.zret (v := 1) hx hb hr rfl (fun t ht hW => ⟨1, rfl, ⟨(rg_w (by decide : (1 : Int) ≤ (1 : Int32).toInt ∧ (1 : Int32).toInt ≤ 1) (by decide) (by decide)), (fun _ => (by omega))⟩, ht⟩) t_nil dX2_stands_12
theorem dX2_lineCount_0 : decode cX2_lineCount 0 = .ok (.aload_n 0, 1) := by decide +kernel
theorem dX2_lineCount_1 : decode cX2_lineCount 1 = .ok (.getfield 29, 3) := by decide +kernel
theorem dX2_lineCount_4 : decode cX2_lineCount 4 = .ok (.iconst 1, 1) := by decide +kernel
theorem dX2_lineCount_5 : decode cX2_lineCount 5 = .ok (.if_icmp .le 15, 3) := by decide +kernel
theorem dX2_lineCount_8 : decode cX2_lineCount 8 = .ok (.aload_n 0, 1) := by decide +kernel
theorem dX2_lineCount_9 : decode cX2_lineCount 9 = .ok (.getfield 42, 3) := by decide +kernel
theorem dX2_lineCount_12 : decode cX2_lineCount 12 = .ok (.aload_n 0, 1) := by decide +kernel
theorem dX2_lineCount_13 : decode cX2_lineCount 13 = .ok (.getfield 29, 3) := by decide +kernel
theorem dX2_lineCount_16 : decode cX2_lineCount 16 = .ok (.idiv, 1) := by decide +kernel
theorem dX2_lineCount_17 : decode cX2_lineCount 17 = .ok (.goto 4, 3) := by decide +kernel
theorem dX2_lineCount_20 : decode cX2_lineCount 20 = .ok (.iconst 0, 1) := by decide +kernel
theorem dX2_lineCount_21 : decode cX2_lineCount 21 = .ok (.ireturn, 1) := by decide +kernel
theorem hd_yX2_lineCount : yX2_lineCount.cls = RX2 ∧ yX2_lineCount.cls ≠ "java/lang/invoke/MethodHandle" ∧ yX2_lineCount.cls ≠ "java/lang/invoke/VarHandle" ∧ (parseMethodDescriptor yX2_lineCount.desc).map (fun d => d.parameters.length) = some 0 := by decide +kernel
def uX2_lineCount : List Cond := List.cons (.code yX2_lineCount cX2_lineCount 1 (some .int)) (HAppend.hAppend ([.fieldLink RX2 29 "LuckyTicket$Roll" "base" "I", .fieldLink RX2 42 "LuckyTicket$Roll" "tickets" "I"] : List Cond) wsX20)
theorem iX2_lineCount_X2 : ∀ w ∈ wsX20, w ∈ uX2_lineCount := fun _ h => (List.mem_cons_of_mem _ (List.mem_append_right _ h))
theorem guX2_lineCount : GU uX2_lineCount := gu_cons (gu_app (by decide +kernel) gws_X2)
set_option maxHeartbeats 4000000 in
set_option maxRecDepth 100000 in
theorem kX2_lineCount (l : Launch) (dC : Nat → ClassId) (dI : Nat → Nat → Nat) (cu : Nat) (ln : Int32) (bs : Int32) (tk : Int32) (lw : Int32) (li : Int32) (fa : Nat) (lu : Nat) (b_ln : (0 : Int) ≤ ln.toInt ∧ ln.toInt ≤ 12) (b_bs : (0 : Int) ≤ bs.toInt ∧ bs.toInt ≤ 16) (b_tk : (0 : Int) ≤ tk.toInt ∧ tk.toInt ≤ 20000) (b_lw : (0 : Int) ≤ lw.toInt ∧ lw.toInt ≤ 9) : Met l yX2_lineCount uX2_lineCount ({ frames := 0, cells := 0, slots := 0, locals := 0 }) (va_Pc [.ref cu] (pw (dC, dI) vwCl [(cu, .inr (1, [.int ln, .int bs, .int tk, .int lw, .int li, .ref fa, .ref lu]))] [])) (vp_Si (fun r => ((0 : Int) ≤ r.toInt ∧ r.toInt ≤ 10000))) 0 0 (fun _ => False) := by
  refine Met.ofW (cc := cX2_lineCount) (maxL := 1) (ret := (some .int)) pn_X2 rfl ?_
  intro p e s m args below meth c s₁ B hml hv
  obtain ⟨rfl, hP, hK, hN⟩ := hv
  have hx := B.exec
  have hb := B.bytes
  have hr := B.returns
  have hts := atoms_spec (ws := uX2_lineCount) B.pre
  have hown : s.vm.findClass RX2 = some m.cls := hown_of B.named rfl
  have hlocks := B.notSynchronized
  have hl := lv_entry ([.ref cu]) (n := 1) (Nat.le_of_ble_eq_true rfl)
  rw [lg_entry_eq]
  generalize (lg_sl ([.ref cu]) ++ List.replicate (1 - (lg_sl ([.ref cu])).length) Slot.unset).toArray = ls at hl ⊢
  have hl : lv_has ls 1 [(0, .ref cu)] := hl
  refine lv_aload_n hx hb dX2_lineCount_0 rfl (lv_at hl 0 rfl) ?_
  refine va_get (D := (dC, dI)) (ci := 1) (v := .int bs) (C := RX2) (T := TX2) (N := 7) hx hb hts iX2_lineCount_X2 hown hK hP 0 rfl rfl 1 (by decide) (hts (.fieldLink RX2 29 "LuckyTicket$Roll" "base" "I") (List.mem_of_getElem? (i := 1) rfl)) (fun _ h9 => h9) rfl dX2_lineCount_1 ?_
  refine lv_iconst (v := 1) hx hb dX2_lineCount_4 (by decide) ?_
  refine lv_icmp_le (tgt := 20) hx hb dX2_lineCount_5 (by decide) (fun c_3 => ?_) (fun c_3 => ?_)
  ·
    have n_c_3 : (bs.toInt : Int) ≤ 1 := c_le rfl (by decide) c_3
    have b_bs : (0 : Int) ≤ bs.toInt ∧ bs.toInt ≤ 1 := r_le1 b_bs (by decide : (1 : Int) ≤ (1 : Int32).toInt ∧ (1 : Int32).toInt ≤ 1) n_c_3 (by decide)
    refine lv_iconst (v := 0) hx hb dX2_lineCount_20 (by decide) ?_
    exact W.iret (v := 0) hx hb hr (fun t ht hW => ⟨0, rfl, (rg_w (by decide : (0 : Int) ≤ (0 : Int32).toInt ∧ (0 : Int32).toInt ≤ 0) (by decide) (by decide)), ht⟩) t_nil dX2_lineCount_21
  ·
    have n_c_3 : (1 : Int) < bs.toInt := c_nle rfl (by decide) c_3
    have b_bs : (2 : Int) ≤ bs.toInt ∧ bs.toInt ≤ 16 := r_lt2 (by decide : (1 : Int) ≤ (1 : Int32).toInt ∧ (1 : Int32).toInt ≤ 1) b_bs n_c_3 (by decide)
    refine lv_aload_n hx hb dX2_lineCount_8 rfl (lv_at hl 0 rfl) ?_
    refine va_get (D := (dC, dI)) (ci := 1) (v := .int tk) (C := RX2) (T := TX2) (N := 7) hx hb hts iX2_lineCount_X2 hown hK hP 0 rfl rfl 2 (by decide) (hts (.fieldLink RX2 42 "LuckyTicket$Roll" "tickets" "I") (List.mem_of_getElem? (i := 2) rfl)) (fun _ h9 => h9) rfl dX2_lineCount_9 ?_
    refine lv_aload_n hx hb dX2_lineCount_12 rfl (lv_at hl 0 rfl) ?_
    refine va_get (D := (dC, dI)) (ci := 1) (v := .int bs) (C := RX2) (T := TX2) (N := 7) hx hb hts iX2_lineCount_X2 hown hK hP 0 rfl rfl 1 (by decide) (hts (.fieldLink RX2 29 "LuckyTicket$Roll" "base" "I") (List.mem_of_getElem? (i := 1) rfl)) (fun _ h9 => h9) rfl dX2_lineCount_13 ?_
    refine lv_idiv hx hb dX2_lineCount_16 (ti_ne b_bs (by decide)) ?_
    refine lv_topi (fun z_4 e_z_4 => ?_)
    obtain ⟨q_z_4, b_z_4⟩ := ti_div (hi := 10000) e_z_4 rfl rfl b_tk b_bs (by decide)
    refine lv_goto (tgt := 21) hx hb dX2_lineCount_17 (by decide) ?_
    exact W.iret (v := z_4) hx hb hr (fun t ht hW => ⟨z_4, rfl, b_z_4, ht⟩) t_nil dX2_lineCount_21
theorem dX2_hasTicket_0 : decode cX2_hasTicket 0 = .ok (.iload_n 1, 1) := by decide +kernel
theorem dX2_hasTicket_1 : decode cX2_hasTicket 1 = .ok (.ifCond .lt 15, 3) := by decide +kernel
theorem dX2_hasTicket_4 : decode cX2_hasTicket 4 = .ok (.iload_n 1, 1) := by decide +kernel
theorem dX2_hasTicket_5 : decode cX2_hasTicket 5 = .ok (.aload_n 0, 1) := by decide +kernel
theorem dX2_hasTicket_6 : decode cX2_hasTicket 6 = .ok (.getfield 42, 3) := by decide +kernel
theorem dX2_hasTicket_9 : decode cX2_hasTicket 9 = .ok (.if_icmp .ge 7, 3) := by decide +kernel
theorem dX2_hasTicket_12 : decode cX2_hasTicket 12 = .ok (.iconst 1, 1) := by decide +kernel
theorem dX2_hasTicket_13 : decode cX2_hasTicket 13 = .ok (.goto 4, 3) := by decide +kernel
theorem dX2_hasTicket_16 : decode cX2_hasTicket 16 = .ok (.iconst 0, 1) := by decide +kernel
theorem dX2_hasTicket_17 : decode cX2_hasTicket 17 = .ok (.ireturn, 1) := by decide +kernel
theorem hd_yX2_hasTicket : yX2_hasTicket.cls = RX2 ∧ yX2_hasTicket.cls ≠ "java/lang/invoke/MethodHandle" ∧ yX2_hasTicket.cls ≠ "java/lang/invoke/VarHandle" ∧ (parseMethodDescriptor yX2_hasTicket.desc).map (fun d => d.parameters.length) = some 1 := by decide +kernel
def uX2_hasTicket : List Cond := List.cons (.code yX2_hasTicket cX2_hasTicket 2 (some .boolean)) (HAppend.hAppend ([.fieldLink RX2 42 "LuckyTicket$Roll" "tickets" "I"] : List Cond) wsX20)
theorem iX2_hasTicket_X2 : ∀ w ∈ wsX20, w ∈ uX2_hasTicket := fun _ h => (List.mem_cons_of_mem _ (List.mem_append_right _ h))
theorem guX2_hasTicket : GU uX2_hasTicket := gu_cons (gu_app (by decide +kernel) gws_X2)
set_option maxHeartbeats 4000000 in
set_option maxRecDepth 100000 in
theorem kX2_hasTicket (l : Launch) (dC : Nat → ClassId) (dI : Nat → Nat → Nat) (cu : Nat) (ln : Int32) (bs : Int32) (tk : Int32) (lw : Int32) (li : Int32) (fa : Nat) (lu : Nat) (a1 : Int32) (b_ln : (0 : Int) ≤ ln.toInt ∧ ln.toInt ≤ 12) (b_bs : (0 : Int) ≤ bs.toInt ∧ bs.toInt ≤ 16) (b_tk : (0 : Int) ≤ tk.toInt ∧ tk.toInt ≤ 20000) (b_lw : (0 : Int) ≤ lw.toInt ∧ lw.toInt ≤ 9) : Met l yX2_hasTicket uX2_hasTicket ({ frames := 0, cells := 0, slots := 0, locals := 0 }) (va_Pc [.ref cu, .int a1] (pw (dC, dI) vwCl [(cu, .inr (1, [.int ln, .int bs, .int tk, .int lw, .int li, .ref fa, .ref lu]))] [])) (vp_Si (fun r => ((0 : Int) ≤ r.toInt ∧ r.toInt ≤ 1) ∧ (r ≠ 0 → ((0 : Int) ≤ a1.toInt ∧ a1.toInt ≤ 19999) ∧ (a1.toInt < tk.toInt)))) 0 0 (fun _ => False) := by
  refine Met.ofW (cc := cX2_hasTicket) (maxL := 2) (ret := (some .boolean)) pn_X2 rfl ?_
  intro p e s m args below meth c s₁ B hml hv
  obtain ⟨rfl, hP, hK, hN⟩ := hv
  have hx := B.exec
  have hb := B.bytes
  have hr := B.returns
  have hts := atoms_spec (ws := uX2_hasTicket) B.pre
  have hown : s.vm.findClass RX2 = some m.cls := hown_of B.named rfl
  have hlocks := B.notSynchronized
  have hl := lv_entry ([.ref cu, .int a1]) (n := 2) (Nat.le_of_ble_eq_true rfl)
  rw [lg_entry_eq]
  generalize (lg_sl ([.ref cu, .int a1]) ++ List.replicate (2 - (lg_sl ([.ref cu, .int a1])).length) Slot.unset).toArray = ls at hl ⊢
  have hl : lv_has ls 2 [(0, .ref cu), (1, .int a1)] := hl
  refine lv_iload_n hx hb dX2_hasTicket_0 rfl (lv_at hl 1 rfl) ?_
  refine lv_if_lt (tgt := 16) hx hb dX2_hasTicket_1 (by decide) (fun c_3 => ?_) (fun c_3 => ?_)
  ·
    have n_c_3 : (a1.toInt : Int) < 0 := c_lt rfl (by decide) c_3
    have b_a1 : (-2147483648 : Int) ≤ a1.toInt ∧ a1.toInt ≤ -1 := r_lt1 (ti_rng a1) (by decide : (0 : Int) ≤ (0 : Int32).toInt ∧ (0 : Int32).toInt ≤ 0) n_c_3 (by decide)
    refine lv_iconst (v := 0) hx hb dX2_hasTicket_16 (by decide) ?_
    exact W.zret (v := 0) hx hb hr rfl (fun t ht hW => ⟨0, rfl, ⟨(rg_w (by decide : (0 : Int) ≤ (0 : Int32).toInt ∧ (0 : Int32).toInt ≤ 0) (by decide) (by decide)), (fun h9 => absurd rfl h9)⟩, ht⟩) t_nil dX2_hasTicket_17
  ·
    have n_c_3 : (0 : Int) ≤ a1.toInt := c_nlt rfl (by decide) c_3
    have b_a1 : (0 : Int) ≤ a1.toInt ∧ a1.toInt ≤ 2147483647 := r_le2 (by decide : (0 : Int) ≤ (0 : Int32).toInt ∧ (0 : Int32).toInt ≤ 0) (ti_rng a1) n_c_3 (by decide)
    refine lv_iload_n hx hb dX2_hasTicket_4 rfl (lv_at hl 1 rfl) ?_
    refine lv_aload_n hx hb dX2_hasTicket_5 rfl (lv_at hl 0 rfl) ?_
    refine va_get (D := (dC, dI)) (ci := 1) (v := .int tk) (C := RX2) (T := TX2) (N := 7) hx hb hts iX2_hasTicket_X2 hown hK hP 0 rfl rfl 2 (by decide) (hts (.fieldLink RX2 42 "LuckyTicket$Roll" "tickets" "I") (List.mem_of_getElem? (i := 1) rfl)) (fun _ h9 => h9) rfl dX2_hasTicket_6 ?_
    refine lv_icmp_ge (tgt := 16) hx hb dX2_hasTicket_9 (by decide) (fun c_4 => ?_) (fun c_4 => ?_)
    ·
      have n_c_4 : (tk.toInt : Int) ≤ a1.toInt := c_ge rfl rfl c_4
      refine lv_iconst (v := 0) hx hb dX2_hasTicket_16 (by decide) ?_
      exact W.zret (v := 0) hx hb hr rfl (fun t ht hW => ⟨0, rfl, ⟨(rg_w (by decide : (0 : Int) ≤ (0 : Int32).toInt ∧ (0 : Int32).toInt ≤ 0) (by decide) (by decide)), (fun h9 => absurd rfl h9)⟩, ht⟩) t_nil dX2_hasTicket_17
    ·
      have n_c_4 : (a1.toInt : Int) < tk.toInt := c_nge rfl rfl c_4
      have b_a1 : (0 : Int) ≤ a1.toInt ∧ a1.toInt ≤ 19999 := r_lt1 b_a1 b_tk n_c_4 (by decide)
      have b_tk : (1 : Int) ≤ tk.toInt ∧ tk.toInt ≤ 20000 := r_lt2 b_a1 b_tk n_c_4 (by decide)
      refine lv_iconst (v := 1) hx hb dX2_hasTicket_12 (by decide) ?_
      refine lv_goto (tgt := 17) hx hb dX2_hasTicket_13 (by decide) ?_
      exact W.zret (v := 1) hx hb hr rfl (fun t ht hW => ⟨1, rfl, ⟨(rg_w (by decide : (1 : Int) ≤ (1 : Int32).toInt ∧ (1 : Int32).toInt ≤ 1) (by decide) (by decide)), (fun _ => ⟨⟨by omega, by omega⟩, (by omega)⟩)⟩, ht⟩) t_nil dX2_hasTicket_17
theorem dX2_hasLaw_0 : decode cX2_hasLaw 0 = .ok (.iload_n 1, 1) := by decide +kernel
theorem dX2_hasLaw_1 : decode cX2_hasLaw 1 = .ok (.ifCond .lt 15, 3) := by decide +kernel
theorem dX2_hasLaw_4 : decode cX2_hasLaw 4 = .ok (.iload_n 1, 1) := by decide +kernel
theorem dX2_hasLaw_5 : decode cX2_hasLaw 5 = .ok (.aload_n 0, 1) := by decide +kernel
theorem dX2_hasLaw_6 : decode cX2_hasLaw 6 = .ok (.getfield 33, 3) := by decide +kernel
theorem dX2_hasLaw_9 : decode cX2_hasLaw 9 = .ok (.if_icmp .ge 7, 3) := by decide +kernel
theorem dX2_hasLaw_12 : decode cX2_hasLaw 12 = .ok (.iconst 1, 1) := by decide +kernel
theorem dX2_hasLaw_13 : decode cX2_hasLaw 13 = .ok (.goto 4, 3) := by decide +kernel
theorem dX2_hasLaw_16 : decode cX2_hasLaw 16 = .ok (.iconst 0, 1) := by decide +kernel
theorem dX2_hasLaw_17 : decode cX2_hasLaw 17 = .ok (.ireturn, 1) := by decide +kernel
theorem hd_yX2_hasLaw : yX2_hasLaw.cls = RX2 ∧ yX2_hasLaw.cls ≠ "java/lang/invoke/MethodHandle" ∧ yX2_hasLaw.cls ≠ "java/lang/invoke/VarHandle" ∧ (parseMethodDescriptor yX2_hasLaw.desc).map (fun d => d.parameters.length) = some 1 := by decide +kernel
def uX2_hasLaw : List Cond := List.cons (.code yX2_hasLaw cX2_hasLaw 2 (some .boolean)) (HAppend.hAppend ([.fieldLink RX2 33 "LuckyTicket$Roll" "laws" "I"] : List Cond) wsX20)
theorem iX2_hasLaw_X2 : ∀ w ∈ wsX20, w ∈ uX2_hasLaw := fun _ h => (List.mem_cons_of_mem _ (List.mem_append_right _ h))
theorem guX2_hasLaw : GU uX2_hasLaw := gu_cons (gu_app (by decide +kernel) gws_X2)
set_option maxHeartbeats 4000000 in
set_option maxRecDepth 100000 in
theorem kX2_hasLaw (l : Launch) (dC : Nat → ClassId) (dI : Nat → Nat → Nat) (cu : Nat) (ln : Int32) (bs : Int32) (tk : Int32) (lw : Int32) (li : Int32) (fa : Nat) (lu : Nat) (a1 : Int32) (b_ln : (0 : Int) ≤ ln.toInt ∧ ln.toInt ≤ 12) (b_bs : (0 : Int) ≤ bs.toInt ∧ bs.toInt ≤ 16) (b_tk : (0 : Int) ≤ tk.toInt ∧ tk.toInt ≤ 20000) (b_lw : (0 : Int) ≤ lw.toInt ∧ lw.toInt ≤ 9) : Met l yX2_hasLaw uX2_hasLaw ({ frames := 0, cells := 0, slots := 0, locals := 0 }) (va_Pc [.ref cu, .int a1] (pw (dC, dI) vwCl [(cu, .inr (1, [.int ln, .int bs, .int tk, .int lw, .int li, .ref fa, .ref lu]))] [])) (vp_Si (fun r => ((0 : Int) ≤ r.toInt ∧ r.toInt ≤ 1) ∧ (r ≠ 0 → ((0 : Int) ≤ a1.toInt ∧ a1.toInt ≤ 8) ∧ (a1.toInt < lw.toInt)))) 0 0 (fun _ => False) := by
  refine Met.ofW (cc := cX2_hasLaw) (maxL := 2) (ret := (some .boolean)) pn_X2 rfl ?_
  intro p e s m args below meth c s₁ B hml hv
  obtain ⟨rfl, hP, hK, hN⟩ := hv
  have hx := B.exec
  have hb := B.bytes
  have hr := B.returns
  have hts := atoms_spec (ws := uX2_hasLaw) B.pre
  have hown : s.vm.findClass RX2 = some m.cls := hown_of B.named rfl
  have hlocks := B.notSynchronized
  have hl := lv_entry ([.ref cu, .int a1]) (n := 2) (Nat.le_of_ble_eq_true rfl)
  rw [lg_entry_eq]
  generalize (lg_sl ([.ref cu, .int a1]) ++ List.replicate (2 - (lg_sl ([.ref cu, .int a1])).length) Slot.unset).toArray = ls at hl ⊢
  have hl : lv_has ls 2 [(0, .ref cu), (1, .int a1)] := hl
  refine lv_iload_n hx hb dX2_hasLaw_0 rfl (lv_at hl 1 rfl) ?_
  refine lv_if_lt (tgt := 16) hx hb dX2_hasLaw_1 (by decide) (fun c_3 => ?_) (fun c_3 => ?_)
  ·
    have n_c_3 : (a1.toInt : Int) < 0 := c_lt rfl (by decide) c_3
    have b_a1 : (-2147483648 : Int) ≤ a1.toInt ∧ a1.toInt ≤ -1 := r_lt1 (ti_rng a1) (by decide : (0 : Int) ≤ (0 : Int32).toInt ∧ (0 : Int32).toInt ≤ 0) n_c_3 (by decide)
    refine lv_iconst (v := 0) hx hb dX2_hasLaw_16 (by decide) ?_
    exact W.zret (v := 0) hx hb hr rfl (fun t ht hW => ⟨0, rfl, ⟨(rg_w (by decide : (0 : Int) ≤ (0 : Int32).toInt ∧ (0 : Int32).toInt ≤ 0) (by decide) (by decide)), (fun h9 => absurd rfl h9)⟩, ht⟩) t_nil dX2_hasLaw_17
  ·
    have n_c_3 : (0 : Int) ≤ a1.toInt := c_nlt rfl (by decide) c_3
    have b_a1 : (0 : Int) ≤ a1.toInt ∧ a1.toInt ≤ 2147483647 := r_le2 (by decide : (0 : Int) ≤ (0 : Int32).toInt ∧ (0 : Int32).toInt ≤ 0) (ti_rng a1) n_c_3 (by decide)
    refine lv_iload_n hx hb dX2_hasLaw_4 rfl (lv_at hl 1 rfl) ?_
    refine lv_aload_n hx hb dX2_hasLaw_5 rfl (lv_at hl 0 rfl) ?_
    refine va_get (D := (dC, dI)) (ci := 1) (v := .int lw) (C := RX2) (T := TX2) (N := 7) hx hb hts iX2_hasLaw_X2 hown hK hP 0 rfl rfl 3 (by decide) (hts (.fieldLink RX2 33 "LuckyTicket$Roll" "laws" "I") (List.mem_of_getElem? (i := 1) rfl)) (fun _ h9 => h9) rfl dX2_hasLaw_6 ?_
    refine lv_icmp_ge (tgt := 16) hx hb dX2_hasLaw_9 (by decide) (fun c_4 => ?_) (fun c_4 => ?_)
    ·
      have n_c_4 : (lw.toInt : Int) ≤ a1.toInt := c_ge rfl rfl c_4
      refine lv_iconst (v := 0) hx hb dX2_hasLaw_16 (by decide) ?_
      exact W.zret (v := 0) hx hb hr rfl (fun t ht hW => ⟨0, rfl, ⟨(rg_w (by decide : (0 : Int) ≤ (0 : Int32).toInt ∧ (0 : Int32).toInt ≤ 0) (by decide) (by decide)), (fun h9 => absurd rfl h9)⟩, ht⟩) t_nil dX2_hasLaw_17
    ·
      have n_c_4 : (a1.toInt : Int) < lw.toInt := c_nge rfl rfl c_4
      have b_a1 : (0 : Int) ≤ a1.toInt ∧ a1.toInt ≤ 8 := r_lt1 b_a1 b_lw n_c_4 (by decide)
      have b_lw : (1 : Int) ≤ lw.toInt ∧ lw.toInt ≤ 9 := r_lt2 b_a1 b_lw n_c_4 (by decide)
      refine lv_iconst (v := 1) hx hb dX2_hasLaw_12 (by decide) ?_
      refine lv_goto (tgt := 17) hx hb dX2_hasLaw_13 (by decide) ?_
      exact W.zret (v := 1) hx hb hr rfl (fun t ht hW => ⟨1, rfl, ⟨(rg_w (by decide : (1 : Int) ≤ (1 : Int32).toInt ∧ (1 : Int32).toInt ≤ 1) (by decide) (by decide)), (fun _ => ⟨⟨by omega, by omega⟩, (by omega)⟩)⟩, ht⟩) t_nil dX2_hasLaw_17
theorem dX2_hasSet_0 : decode cX2_hasSet 0 = .ok (.aload_n 0, 1) := by decide +kernel
theorem dX2_hasSet_1 : decode cX2_hasSet 1 = .ok (.invokevirtual 59, 3) := by decide +kernel
theorem dX2_hasSet_4 : decode cX2_hasSet 4 = .ok (.ifCond .eq 20, 3) := by decide +kernel
theorem dX2_hasSet_7 : decode cX2_hasSet 7 = .ok (.iload_n 1, 1) := by decide +kernel
theorem dX2_hasSet_8 : decode cX2_hasSet 8 = .ok (.ifCond .lt 16, 3) := by decide +kernel
theorem dX2_hasSet_11 : decode cX2_hasSet 11 = .ok (.iload_n 1, 1) := by decide +kernel
theorem dX2_hasSet_12 : decode cX2_hasSet 12 = .ok (.aload_n 0, 1) := by decide +kernel
theorem dX2_hasSet_13 : decode cX2_hasSet 13 = .ok (.getfield 33, 3) := by decide +kernel
theorem dX2_hasSet_16 : decode cX2_hasSet 16 = .ok (.iushr, 1) := by decide +kernel
theorem dX2_hasSet_17 : decode cX2_hasSet 17 = .ok (.ifCond .ne 7, 3) := by decide +kernel
theorem dX2_hasSet_20 : decode cX2_hasSet 20 = .ok (.iconst 1, 1) := by decide +kernel
theorem dX2_hasSet_21 : decode cX2_hasSet 21 = .ok (.goto 4, 3) := by decide +kernel
theorem dX2_hasSet_24 : decode cX2_hasSet 24 = .ok (.iconst 0, 1) := by decide +kernel
theorem dX2_hasSet_25 : decode cX2_hasSet 25 = .ok (.ireturn, 1) := by decide +kernel
theorem hd_yX2_hasSet : yX2_hasSet.cls = RX2 ∧ yX2_hasSet.cls ≠ "java/lang/invoke/MethodHandle" ∧ yX2_hasSet.cls ≠ "java/lang/invoke/VarHandle" ∧ (parseMethodDescriptor yX2_hasSet.desc).map (fun d => d.parameters.length) = some 1 := by decide +kernel
def uX2_hasSet : List Cond := List.cons (.code yX2_hasSet cX2_hasSet 2 (some .boolean)) (HAppend.hAppend ([.methodLink RX2 59 yX2_stands, .instanceMethod yX2_stands, .selects RX2 yX2_stands yX2_stands, .initialized RX2, .fieldLink RX2 33 "LuckyTicket$Roll" "laws" "I"] : List Cond) (HAppend.hAppend uX2_stands wsX20))
theorem iX2_hasSet_X2 : ∀ w ∈ wsX20, w ∈ uX2_hasSet := fun _ h => (List.mem_cons_of_mem _ (List.mem_append_right _ (List.mem_append_right _ h)))
theorem guX2_hasSet : GU uX2_hasSet := gu_cons (gu_app (by decide +kernel) (gu_ap guX2_stands gws_X2))
theorem gX2_hasSet__X2_stands_V59 : GoodIn uX2_hasSet (wsV RX2 59 RX2 yX2_stands uX2_stands) := gin_V (List.mem_of_getElem? (i := 1) rfl) (List.mem_of_getElem? (i := 2) rfl) (List.mem_of_getElem? (i := 3) rfl) (List.mem_of_getElem? (i := 4) rfl) (fun _ h => (List.mem_cons_of_mem _ (List.mem_append_right _ (List.mem_append_left _ h)))) guX2_stands
set_option maxHeartbeats 4000000 in
set_option maxRecDepth 100000 in
theorem kX2_hasSet (l : Launch) (dC : Nat → ClassId) (dI : Nat → Nat → Nat) (cu : Nat) (ln : Int32) (bs : Int32) (tk : Int32) (lw : Int32) (li : Int32) (fa : Nat) (lu : Nat) (a1 : Int32) (b_ln : (0 : Int) ≤ ln.toInt ∧ ln.toInt ≤ 12) (b_bs : (0 : Int) ≤ bs.toInt ∧ bs.toInt ≤ 16) (b_tk : (0 : Int) ≤ tk.toInt ∧ tk.toInt ≤ 20000) (b_lw : (0 : Int) ≤ lw.toInt ∧ lw.toInt ≤ 9) : Met l yX2_hasSet uX2_hasSet ({ frames := 1, cells := 0, slots := 0, locals := 20 }) (va_Pc [.ref cu, .int a1] (pw (dC, dI) vwCl [(cu, .inr (1, [.int ln, .int bs, .int tk, .int lw, .int li, .ref fa, .ref lu]))] [])) (vp_Si (fun r => ((0 : Int) ≤ r.toInt ∧ r.toInt ≤ 1))) 0 0 (fun _ => False) := by
  refine Met.ofW (cc := cX2_hasSet) (maxL := 2) (ret := (some .boolean)) pn_X2 rfl ?_
  intro p e s m args below meth c s₁ B hml hv
  obtain ⟨rfl, hP, hK, hN⟩ := hv
  have hx := B.exec
  have hb := B.bytes
  have hr := B.returns
  have hts := atoms_spec (ws := uX2_hasSet) B.pre
  have hown : s.vm.findClass RX2 = some m.cls := hown_of B.named rfl
  have hlocks := B.notSynchronized
  have hl := lv_entry ([.ref cu, .int a1]) (n := 2) (Nat.le_of_ble_eq_true rfl)
  rw [lg_entry_eq]
  generalize (lg_sl ([.ref cu, .int a1]) ++ List.replicate (2 - (lg_sl ([.ref cu, .int a1])).length) Slot.unset).toArray = ls at hl ⊢
  have hl : lv_has ls 2 [(0, .ref cu), (1, .int a1)] := hl
  refine lv_aload_n hx hb dX2_hasSet_0 rfl (lv_at hl 0 rfl) ?_
  refine vp_callSi (W.runV (As := []) (rest := []) ⟨hx, hb, hml, hown, hts⟩ (kX2_stands l dC dI cu ln bs tk lw li fa lu b_ln b_bs b_tk b_lw) (cwV 0 hts gX2_hasSet__X2_stands_V59 rfl rfl rfl hd_yX2_stands ⟨lel 1 1 rfl, lel 20 20 rfl⟩) ⟨pw_fb, rcv_X2 hK hP (q0 := 0) rfl, (pw_use hP hK hN [0] rfl [] rfl)⟩ rfl rfl hl.1 rfl (lv_room (Nat.le_of_ble_eq_true rfl)) dX2_hasSet_1 ⟨lel 0 0 rfl, lel 0 0 rfl⟩) (fun r_7 h_r_7 => ?_)
  obtain ⟨b_r_7, nz_r_7⟩ := h_r_7
  have b_r_7 : (0 : Int) ≤ r_7.toInt ∧ r_7.toInt ≤ 1 := b_r_7
  refine lv_if_eq (tgt := 24) hx hb dX2_hasSet_4 (by decide) (fun c_8 => ?_) (fun c_8 => ?_)
  ·
    have n_c_8 : (r_7.toInt : Int) = 0 := c_eq rfl (by decide) c_8
    have b_r_7 : (0 : Int) ≤ r_7.toInt ∧ r_7.toInt ≤ 0 := r_eq1 b_r_7 (by decide : (0 : Int) ≤ (0 : Int32).toInt ∧ (0 : Int32).toInt ≤ 0) n_c_8 (by decide)
    refine lv_iconst (v := 0) hx hb dX2_hasSet_24 (by decide) ?_
    exact W.zret (v := 0) hx hb hr rfl (fun t ht hW => ⟨0, rfl, (rg_w (by decide : (0 : Int) ≤ (0 : Int32).toInt ∧ (0 : Int32).toInt ≤ 0) (by decide) (by decide)), ht⟩) t_nil dX2_hasSet_25
  ·
    have n_c_8 : (r_7.toInt : Int) ≠ 0 := c_ne rfl (by decide) c_8
    have b_r_7 : (1 : Int) ≤ r_7.toInt ∧ r_7.toInt ≤ 1 := r_ne1 b_r_7 (by decide : (0 : Int) ≤ (0 : Int32).toInt ∧ (0 : Int32).toInt ≤ 0) n_c_8 (by decide)
    have g_9 := nz_r_7 c_8
    refine lv_iload_n hx hb dX2_hasSet_7 rfl (lv_at hl 1 rfl) ?_
    refine lv_if_lt (tgt := 24) hx hb dX2_hasSet_8 (by decide) (fun c_10 => ?_) (fun c_10 => ?_)
    ·
      have n_c_10 : (a1.toInt : Int) < 0 := c_lt rfl (by decide) c_10
      have b_a1 : (-2147483648 : Int) ≤ a1.toInt ∧ a1.toInt ≤ -1 := r_lt1 (ti_rng a1) (by decide : (0 : Int) ≤ (0 : Int32).toInt ∧ (0 : Int32).toInt ≤ 0) n_c_10 (by decide)
      refine lv_iconst (v := 0) hx hb dX2_hasSet_24 (by decide) ?_
      exact W.zret (v := 0) hx hb hr rfl (fun t ht hW => ⟨0, rfl, (rg_w (by decide : (0 : Int) ≤ (0 : Int32).toInt ∧ (0 : Int32).toInt ≤ 0) (by decide) (by decide)), ht⟩) t_nil dX2_hasSet_25
    ·
      have n_c_10 : (0 : Int) ≤ a1.toInt := c_nlt rfl (by decide) c_10
      have b_a1 : (0 : Int) ≤ a1.toInt ∧ a1.toInt ≤ 2147483647 := r_le2 (by decide : (0 : Int) ≤ (0 : Int32).toInt ∧ (0 : Int32).toInt ≤ 0) (ti_rng a1) n_c_10 (by decide)
      refine lv_iload_n hx hb dX2_hasSet_11 rfl (lv_at hl 1 rfl) ?_
      refine lv_aload_n hx hb dX2_hasSet_12 rfl (lv_at hl 0 rfl) ?_
      refine va_get (D := (dC, dI)) (ci := 1) (v := .int lw) (C := RX2) (T := TX2) (N := 7) hx hb hts iX2_hasSet_X2 hown hK hP 0 rfl rfl 3 (by decide) (hts (.fieldLink RX2 33 "LuckyTicket$Roll" "laws" "I") (List.mem_of_getElem? (i := 5) rfl)) (fun _ h9 => h9) rfl dX2_hasSet_13 ?_
      obtain ⟨z_11, e_z_11⟩ : ∃ y : Int32, y = ((a1 : Int32).toUInt32 >>> ((lw : Int32).toUInt32 &&& Int32.toUInt32 31)).toInt32 := ⟨_, rfl⟩
      refine lv_iushr (v := z_11) hx hb dX2_hasSet_16 e_z_11.symm ?_
      refine lv_if_ne (tgt := 24) hx hb dX2_hasSet_17 (by decide) (fun c_12 => ?_) (fun c_12 => ?_)
      ·
        have n_c_12 : (z_11.toInt : Int) ≠ 0 := c_ne rfl (by decide) c_12
        refine lv_iconst (v := 0) hx hb dX2_hasSet_24 (by decide) ?_
        exact W.zret (v := 0) hx hb hr rfl (fun t ht hW => ⟨0, rfl, (rg_w (by decide : (0 : Int) ≤ (0 : Int32).toInt ∧ (0 : Int32).toInt ≤ 0) (by decide) (by decide)), ht⟩) t_nil dX2_hasSet_25
      ·
        have n_c_12 : (z_11.toInt : Int) = 0 := c_eq rfl (by decide) c_12
        have b_z_11 : (0 : Int) ≤ z_11.toInt ∧ z_11.toInt ≤ 0 := r_eq1 (ti_rng z_11) (by decide : (0 : Int) ≤ (0 : Int32).toInt ∧ (0 : Int32).toInt ≤ 0) n_c_12 (by decide)
        refine lv_iconst (v := 1) hx hb dX2_hasSet_20 (by decide) ?_
        refine lv_goto (tgt := 25) hx hb dX2_hasSet_21 (by decide) ?_
        exact W.zret (v := 1) hx hb hr rfl (fun t ht hW => ⟨1, rfl, (rg_w (by decide : (1 : Int) ≤ (1 : Int32).toInt ∧ (1 : Int32).toInt ≤ 1) (by decide) (by decide)), ht⟩) t_nil dX2_hasSet_25
theorem dX2_hasPlace_0 : decode cX2_hasPlace 0 = .ok (.iload_n 1, 1) := by decide +kernel
theorem dX2_hasPlace_1 : decode cX2_hasPlace 1 = .ok (.ifCond .lt 15, 3) := by decide +kernel
theorem dX2_hasPlace_4 : decode cX2_hasPlace 4 = .ok (.iload_n 1, 1) := by decide +kernel
theorem dX2_hasPlace_5 : decode cX2_hasPlace 5 = .ok (.aload_n 0, 1) := by decide +kernel
theorem dX2_hasPlace_6 : decode cX2_hasPlace 6 = .ok (.getfield 25, 3) := by decide +kernel
theorem dX2_hasPlace_9 : decode cX2_hasPlace 9 = .ok (.if_icmp .ge 7, 3) := by decide +kernel
theorem dX2_hasPlace_12 : decode cX2_hasPlace 12 = .ok (.iconst 1, 1) := by decide +kernel
theorem dX2_hasPlace_13 : decode cX2_hasPlace 13 = .ok (.goto 4, 3) := by decide +kernel
theorem dX2_hasPlace_16 : decode cX2_hasPlace 16 = .ok (.iconst 0, 1) := by decide +kernel
theorem dX2_hasPlace_17 : decode cX2_hasPlace 17 = .ok (.ireturn, 1) := by decide +kernel
theorem hd_yX2_hasPlace : yX2_hasPlace.cls = RX2 ∧ yX2_hasPlace.cls ≠ "java/lang/invoke/MethodHandle" ∧ yX2_hasPlace.cls ≠ "java/lang/invoke/VarHandle" ∧ (parseMethodDescriptor yX2_hasPlace.desc).map (fun d => d.parameters.length) = some 1 := by decide +kernel
def uX2_hasPlace : List Cond := List.cons (.code yX2_hasPlace cX2_hasPlace 2 (some .boolean)) (HAppend.hAppend ([.fieldLink RX2 25 "LuckyTicket$Roll" "length" "I"] : List Cond) wsX20)
theorem iX2_hasPlace_X2 : ∀ w ∈ wsX20, w ∈ uX2_hasPlace := fun _ h => (List.mem_cons_of_mem _ (List.mem_append_right _ h))
theorem guX2_hasPlace : GU uX2_hasPlace := gu_cons (gu_app (by decide +kernel) gws_X2)
set_option maxHeartbeats 4000000 in
set_option maxRecDepth 100000 in
theorem kX2_hasPlace (l : Launch) (dC : Nat → ClassId) (dI : Nat → Nat → Nat) (cu : Nat) (ln : Int32) (bs : Int32) (tk : Int32) (lw : Int32) (li : Int32) (fa : Nat) (lu : Nat) (a1 : Int32) (b_ln : (0 : Int) ≤ ln.toInt ∧ ln.toInt ≤ 12) (b_bs : (0 : Int) ≤ bs.toInt ∧ bs.toInt ≤ 16) (b_tk : (0 : Int) ≤ tk.toInt ∧ tk.toInt ≤ 20000) (b_lw : (0 : Int) ≤ lw.toInt ∧ lw.toInt ≤ 9) : Met l yX2_hasPlace uX2_hasPlace ({ frames := 0, cells := 0, slots := 0, locals := 0 }) (va_Pc [.ref cu, .int a1] (pw (dC, dI) vwCl [(cu, .inr (1, [.int ln, .int bs, .int tk, .int lw, .int li, .ref fa, .ref lu]))] [])) (vp_Si (fun r => ((0 : Int) ≤ r.toInt ∧ r.toInt ≤ 1) ∧ (r ≠ 0 → ((0 : Int) ≤ a1.toInt ∧ a1.toInt ≤ 11) ∧ (a1.toInt < ln.toInt)))) 0 0 (fun _ => False) := by
  refine Met.ofW (cc := cX2_hasPlace) (maxL := 2) (ret := (some .boolean)) pn_X2 rfl ?_
  intro p e s m args below meth c s₁ B hml hv
  obtain ⟨rfl, hP, hK, hN⟩ := hv
  have hx := B.exec
  have hb := B.bytes
  have hr := B.returns
  have hts := atoms_spec (ws := uX2_hasPlace) B.pre
  have hown : s.vm.findClass RX2 = some m.cls := hown_of B.named rfl
  have hlocks := B.notSynchronized
  have hl := lv_entry ([.ref cu, .int a1]) (n := 2) (Nat.le_of_ble_eq_true rfl)
  rw [lg_entry_eq]
  generalize (lg_sl ([.ref cu, .int a1]) ++ List.replicate (2 - (lg_sl ([.ref cu, .int a1])).length) Slot.unset).toArray = ls at hl ⊢
  have hl : lv_has ls 2 [(0, .ref cu), (1, .int a1)] := hl
  refine lv_iload_n hx hb dX2_hasPlace_0 rfl (lv_at hl 1 rfl) ?_
  refine lv_if_lt (tgt := 16) hx hb dX2_hasPlace_1 (by decide) (fun c_3 => ?_) (fun c_3 => ?_)
  ·
    have n_c_3 : (a1.toInt : Int) < 0 := c_lt rfl (by decide) c_3
    have b_a1 : (-2147483648 : Int) ≤ a1.toInt ∧ a1.toInt ≤ -1 := r_lt1 (ti_rng a1) (by decide : (0 : Int) ≤ (0 : Int32).toInt ∧ (0 : Int32).toInt ≤ 0) n_c_3 (by decide)
    refine lv_iconst (v := 0) hx hb dX2_hasPlace_16 (by decide) ?_
    exact W.zret (v := 0) hx hb hr rfl (fun t ht hW => ⟨0, rfl, ⟨(rg_w (by decide : (0 : Int) ≤ (0 : Int32).toInt ∧ (0 : Int32).toInt ≤ 0) (by decide) (by decide)), (fun h9 => absurd rfl h9)⟩, ht⟩) t_nil dX2_hasPlace_17
  ·
    have n_c_3 : (0 : Int) ≤ a1.toInt := c_nlt rfl (by decide) c_3
    have b_a1 : (0 : Int) ≤ a1.toInt ∧ a1.toInt ≤ 2147483647 := r_le2 (by decide : (0 : Int) ≤ (0 : Int32).toInt ∧ (0 : Int32).toInt ≤ 0) (ti_rng a1) n_c_3 (by decide)
    refine lv_iload_n hx hb dX2_hasPlace_4 rfl (lv_at hl 1 rfl) ?_
    refine lv_aload_n hx hb dX2_hasPlace_5 rfl (lv_at hl 0 rfl) ?_
    refine va_get (D := (dC, dI)) (ci := 1) (v := .int ln) (C := RX2) (T := TX2) (N := 7) hx hb hts iX2_hasPlace_X2 hown hK hP 0 rfl rfl 0 (by decide) (hts (.fieldLink RX2 25 "LuckyTicket$Roll" "length" "I") (List.mem_of_getElem? (i := 1) rfl)) (fun _ h9 => h9) rfl dX2_hasPlace_6 ?_
    refine lv_icmp_ge (tgt := 16) hx hb dX2_hasPlace_9 (by decide) (fun c_4 => ?_) (fun c_4 => ?_)
    ·
      have n_c_4 : (ln.toInt : Int) ≤ a1.toInt := c_ge rfl rfl c_4
      refine lv_iconst (v := 0) hx hb dX2_hasPlace_16 (by decide) ?_
      exact W.zret (v := 0) hx hb hr rfl (fun t ht hW => ⟨0, rfl, ⟨(rg_w (by decide : (0 : Int) ≤ (0 : Int32).toInt ∧ (0 : Int32).toInt ≤ 0) (by decide) (by decide)), (fun h9 => absurd rfl h9)⟩, ht⟩) t_nil dX2_hasPlace_17
    ·
      have n_c_4 : (a1.toInt : Int) < ln.toInt := c_nge rfl rfl c_4
      have b_a1 : (0 : Int) ≤ a1.toInt ∧ a1.toInt ≤ 11 := r_lt1 b_a1 b_ln n_c_4 (by decide)
      have b_ln : (1 : Int) ≤ ln.toInt ∧ ln.toInt ≤ 12 := r_lt2 b_a1 b_ln n_c_4 (by decide)
      refine lv_iconst (v := 1) hx hb dX2_hasPlace_12 (by decide) ?_
      refine lv_goto (tgt := 17) hx hb dX2_hasPlace_13 (by decide) ?_
      exact W.zret (v := 1) hx hb hr rfl (fun t ht hW => ⟨1, rfl, ⟨(rg_w (by decide : (1 : Int) ≤ (1 : Int32).toInt ∧ (1 : Int32).toInt ≤ 1) (by decide) (by decide)), (fun _ => ⟨⟨by omega, by omega⟩, (by omega)⟩)⟩, ht⟩) t_nil dX2_hasPlace_17
theorem dX2_hasFigure_0 : decode cX2_hasFigure 0 = .ok (.lload_n 1, 1) := by decide +kernel
theorem dX2_hasFigure_1 : decode cX2_hasFigure 1 = .ok (.lconst 0, 1) := by decide +kernel
theorem dX2_hasFigure_2 : decode cX2_hasFigure 2 = .ok (.lcmp, 1) := by decide +kernel
theorem dX2_hasFigure_3 : decode cX2_hasFigure 3 = .ok (.ifCond .lt 17, 3) := by decide +kernel
theorem dX2_hasFigure_6 : decode cX2_hasFigure 6 = .ok (.lload_n 1, 1) := by decide +kernel
theorem dX2_hasFigure_7 : decode cX2_hasFigure 7 = .ok (.aload_n 0, 1) := by decide +kernel
theorem dX2_hasFigure_8 : decode cX2_hasFigure 8 = .ok (.getfield 29, 3) := by decide +kernel
theorem dX2_hasFigure_11 : decode cX2_hasFigure 11 = .ok (.i2l, 1) := by decide +kernel
theorem dX2_hasFigure_12 : decode cX2_hasFigure 12 = .ok (.lcmp, 1) := by decide +kernel
theorem dX2_hasFigure_13 : decode cX2_hasFigure 13 = .ok (.ifCond .ge 7, 3) := by decide +kernel
theorem dX2_hasFigure_16 : decode cX2_hasFigure 16 = .ok (.iconst 1, 1) := by decide +kernel
theorem dX2_hasFigure_17 : decode cX2_hasFigure 17 = .ok (.goto 4, 3) := by decide +kernel
theorem dX2_hasFigure_20 : decode cX2_hasFigure 20 = .ok (.iconst 0, 1) := by decide +kernel
theorem dX2_hasFigure_21 : decode cX2_hasFigure 21 = .ok (.ireturn, 1) := by decide +kernel
theorem hd_yX2_hasFigure : yX2_hasFigure.cls = RX2 ∧ yX2_hasFigure.cls ≠ "java/lang/invoke/MethodHandle" ∧ yX2_hasFigure.cls ≠ "java/lang/invoke/VarHandle" ∧ (parseMethodDescriptor yX2_hasFigure.desc).map (fun d => d.parameters.length) = some 1 := by decide +kernel
def uX2_hasFigure : List Cond := List.cons (.code yX2_hasFigure cX2_hasFigure 3 (some .boolean)) (HAppend.hAppend ([.fieldLink RX2 29 "LuckyTicket$Roll" "base" "I"] : List Cond) wsX20)
theorem iX2_hasFigure_X2 : ∀ w ∈ wsX20, w ∈ uX2_hasFigure := fun _ h => (List.mem_cons_of_mem _ (List.mem_append_right _ h))
theorem guX2_hasFigure : GU uX2_hasFigure := gu_cons (gu_app (by decide +kernel) gws_X2)
set_option maxHeartbeats 4000000 in
set_option maxRecDepth 100000 in
theorem kX2_hasFigure (l : Launch) (dC : Nat → ClassId) (dI : Nat → Nat → Nat) (cu : Nat) (ln : Int32) (bs : Int32) (tk : Int32) (lw : Int32) (li : Int32) (fa : Nat) (lu : Nat) (a1 : Int64) (b_ln : (0 : Int) ≤ ln.toInt ∧ ln.toInt ≤ 12) (b_bs : (0 : Int) ≤ bs.toInt ∧ bs.toInt ≤ 16) (b_tk : (0 : Int) ≤ tk.toInt ∧ tk.toInt ≤ 20000) (b_lw : (0 : Int) ≤ lw.toInt ∧ lw.toInt ≤ 9) : Met l yX2_hasFigure uX2_hasFigure ({ frames := 0, cells := 0, slots := 0, locals := 0 }) (va_Pc [.ref cu, .long a1] (pw (dC, dI) vwCl [(cu, .inr (1, [.int ln, .int bs, .int tk, .int lw, .int li, .ref fa, .ref lu]))] [])) (vp_Si (fun r => ((0 : Int) ≤ r.toInt ∧ r.toInt ≤ 1))) 0 0 (fun _ => False) := by
  refine Met.ofW (cc := cX2_hasFigure) (maxL := 3) (ret := (some .boolean)) pn_X2 rfl ?_
  intro p e s m args below meth c s₁ B hml hv
  obtain ⟨rfl, hP, hK, hN⟩ := hv
  have hx := B.exec
  have hb := B.bytes
  have hr := B.returns
  have hts := atoms_spec (ws := uX2_hasFigure) B.pre
  have hown : s.vm.findClass RX2 = some m.cls := hown_of B.named rfl
  have hlocks := B.notSynchronized
  have hl := lv_entry ([.ref cu, .long a1]) (n := 3) (Nat.le_of_ble_eq_true rfl)
  rw [lg_entry_eq]
  generalize (lg_sl ([.ref cu, .long a1]) ++ List.replicate (3 - (lg_sl ([.ref cu, .long a1])).length) Slot.unset).toArray = ls at hl ⊢
  have hl : lv_has ls 3 [(0, .ref cu), (1, .long a1)] := hl
  refine lv_lload_n hx hb dX2_hasFigure_0 rfl (lv_at hl 1 rfl) ?_
  refine lv_lconst (v := 0) hx hb dX2_hasFigure_1 (by decide) ?_
  refine W.lcmp hx hb dX2_hasFigure_2 ?_
  refine lv_if_lt (tgt := 20) hx hb dX2_hasFigure_3 (by decide) (fun c_4 => ?_) (fun c_4 => ?_)
  ·
    have n_c_4 : (a1.toInt : Int) < 0 := g_lt rfl (by decide) c_4
    have b_a1 : (-9223372036854775808 : Int) ≤ a1.toInt ∧ a1.toInt ≤ -1 := r_lt1 (tl_rng a1) (by decide : (0 : Int) ≤ (0 : Int64).toInt ∧ (0 : Int64).toInt ≤ 0) n_c_4 (by decide)
    refine lv_iconst (v := 0) hx hb dX2_hasFigure_20 (by decide) ?_
    exact W.zret (v := 0) hx hb hr rfl (fun t ht hW => ⟨0, rfl, (rg_w (by decide : (0 : Int) ≤ (0 : Int32).toInt ∧ (0 : Int32).toInt ≤ 0) (by decide) (by decide)), ht⟩) t_nil dX2_hasFigure_21
  ·
    have n_c_4 : (0 : Int) ≤ a1.toInt := g_nlt rfl (by decide) c_4
    have b_a1 : (0 : Int) ≤ a1.toInt ∧ a1.toInt ≤ 9223372036854775807 := r_le2 (by decide : (0 : Int) ≤ (0 : Int64).toInt ∧ (0 : Int64).toInt ≤ 0) (tl_rng a1) n_c_4 (by decide)
    refine lv_lload_n hx hb dX2_hasFigure_6 rfl (lv_at hl 1 rfl) ?_
    refine lv_aload_n hx hb dX2_hasFigure_7 rfl (lv_at hl 0 rfl) ?_
    refine va_get (D := (dC, dI)) (ci := 1) (v := .int bs) (C := RX2) (T := TX2) (N := 7) hx hb hts iX2_hasFigure_X2 hown hK hP 0 rfl rfl 1 (by decide) (hts (.fieldLink RX2 29 "LuckyTicket$Roll" "base" "I") (List.mem_of_getElem? (i := 1) rfl)) (fun _ h9 => h9) rfl dX2_hasFigure_8 ?_
    obtain ⟨z_5, e_z_5⟩ : ∃ y : Int64, y = bs.toInt64 := ⟨_, rfl⟩
    refine lv_i2l (v := z_5) hx hb dX2_hasFigure_11 e_z_5.symm ?_
    obtain ⟨q_z_5, b_z_5⟩ := ti_i2l e_z_5 b_bs
    refine W.lcmp hx hb dX2_hasFigure_12 ?_
    refine lv_if_ge (tgt := 20) hx hb dX2_hasFigure_13 (by decide) (fun c_6 => ?_) (fun c_6 => ?_)
    ·
      have n_c_6 : (z_5.toInt : Int) ≤ a1.toInt := g_ge rfl rfl c_6
      refine lv_iconst (v := 0) hx hb dX2_hasFigure_20 (by decide) ?_
      exact W.zret (v := 0) hx hb hr rfl (fun t ht hW => ⟨0, rfl, (rg_w (by decide : (0 : Int) ≤ (0 : Int32).toInt ∧ (0 : Int32).toInt ≤ 0) (by decide) (by decide)), ht⟩) t_nil dX2_hasFigure_21
    ·
      have n_c_6 : (a1.toInt : Int) < z_5.toInt := g_nge rfl rfl c_6
      have b_a1 : (0 : Int) ≤ a1.toInt ∧ a1.toInt ≤ 15 := r_lt1 b_a1 b_z_5 n_c_6 (by decide)
      have b_z_5 : (1 : Int) ≤ z_5.toInt ∧ z_5.toInt ≤ 16 := r_lt2 b_a1 b_z_5 n_c_6 (by decide)
      have b_bs : (1 : Int) ≤ bs.toInt ∧ bs.toInt ≤ 16 := by
        have q0 := b_z_5; have q1 := q_z_5; have q2 := b_bs; omega
      refine lv_iconst (v := 1) hx hb dX2_hasFigure_16 (by decide) ?_
      refine lv_goto (tgt := 21) hx hb dX2_hasFigure_17 (by decide) ?_
      exact W.zret (v := 1) hx hb hr rfl (fun t ht hW => ⟨1, rfl, (rg_w (by decide : (1 : Int) ≤ (1 : Int32).toInt ∧ (1 : Int32).toInt ≤ 1) (by decide) (by decide)), ht⟩) t_nil dX2_hasFigure_21
theorem dX2_faceOf_0 : decode cX2_faceOf 0 = .ok (.aload_n 0, 1) := by decide +kernel
theorem dX2_faceOf_1 : decode cX2_faceOf 1 = .ok (.iload_n 1, 1) := by decide +kernel
theorem dX2_faceOf_2 : decode cX2_faceOf 2 = .ok (.invokevirtual 63, 3) := by decide +kernel
theorem dX2_faceOf_5 : decode cX2_faceOf 5 = .ok (.ifCond .eq 12, 3) := by decide +kernel
theorem dX2_faceOf_8 : decode cX2_faceOf 8 = .ok (.aload_n 0, 1) := by decide +kernel
theorem dX2_faceOf_9 : decode cX2_faceOf 9 = .ok (.getfield 9, 3) := by decide +kernel
theorem dX2_faceOf_12 : decode cX2_faceOf 12 = .ok (.iload_n 1, 1) := by decide +kernel
theorem dX2_faceOf_13 : decode cX2_faceOf 13 = .ok (.laload, 1) := by decide +kernel
theorem dX2_faceOf_14 : decode cX2_faceOf 14 = .ok (.goto 4, 3) := by decide +kernel
theorem dX2_faceOf_17 : decode cX2_faceOf 17 = .ok (.lconst 0, 1) := by decide +kernel
theorem dX2_faceOf_18 : decode cX2_faceOf 18 = .ok (.lreturn, 1) := by decide +kernel
theorem hd_yX2_faceOf : yX2_faceOf.cls = RX2 ∧ yX2_faceOf.cls ≠ "java/lang/invoke/MethodHandle" ∧ yX2_faceOf.cls ≠ "java/lang/invoke/VarHandle" ∧ (parseMethodDescriptor yX2_faceOf.desc).map (fun d => d.parameters.length) = some 1 := by decide +kernel
def uX2_faceOf : List Cond := List.cons (.code yX2_faceOf cX2_faceOf 2 (some .long)) (HAppend.hAppend ([.methodLink RX2 63 yX2_hasTicket, .instanceMethod yX2_hasTicket, .selects RX2 yX2_hasTicket yX2_hasTicket, .initialized RX2, .fieldLink RX2 9 "LuckyTicket$Roll" "faces" "[J"] : List Cond) (HAppend.hAppend uX2_hasTicket wsX20))
theorem iX2_faceOf_X2 : ∀ w ∈ wsX20, w ∈ uX2_faceOf := fun _ h => (List.mem_cons_of_mem _ (List.mem_append_right _ (List.mem_append_right _ h)))
theorem guX2_faceOf : GU uX2_faceOf := gu_cons (gu_app (by decide +kernel) (gu_ap guX2_hasTicket gws_X2))
theorem gX2_faceOf__X2_hasTicket_V63 : GoodIn uX2_faceOf (wsV RX2 63 RX2 yX2_hasTicket uX2_hasTicket) := gin_V (List.mem_of_getElem? (i := 1) rfl) (List.mem_of_getElem? (i := 2) rfl) (List.mem_of_getElem? (i := 3) rfl) (List.mem_of_getElem? (i := 4) rfl) (fun _ h => (List.mem_cons_of_mem _ (List.mem_append_right _ (List.mem_append_left _ h)))) guX2_hasTicket
set_option maxHeartbeats 4000000 in
set_option maxRecDepth 100000 in
theorem kX2_faceOf (l : Launch) (dC : Nat → ClassId) (dI : Nat → Nat → Nat) (cu : Nat) (ln : Int32) (bs : Int32) (tk : Int32) (lw : Int32) (li : Int32) (fa : Nat) (lu : Nat) (cF : ClassId) (nf : Nat) (ff : Nat → Int64) (a1 : Int32) (b_ln : (0 : Int) ≤ ln.toInt ∧ ln.toInt ≤ 12) (b_bs : (0 : Int) ≤ bs.toInt ∧ bs.toInt ≤ 16) (b_tk : (0 : Int) ≤ tk.toInt ∧ tk.toInt ≤ 20000) (b_lw : (0 : Int) ≤ lw.toInt ∧ lw.toInt ≤ 9) (hf1 : tk.toInt ≤ (nf : Int)) : Met l yX2_faceOf uX2_faceOf ({ frames := 1, cells := 0, slots := 0, locals := 21 }) (va_Pc [.ref cu, .int a1] (pw (dC, dI) vwCl [(cu, .inr (1, [.int ln, .int bs, .int tk, .int lw, .int li, .ref fa, .ref lu])), (fa, .inl (cF, nf, .inr (.inl ff)))] [(cF, .long)])) (vp_Sl (fun r => True)) 0 0 (fun _ => False) := by
  refine Met.ofW (cc := cX2_faceOf) (maxL := 2) (ret := (some .long)) pn_X2 rfl ?_
  intro p e s m args below meth c s₁ B hml hv
  obtain ⟨rfl, hP, hK, hN⟩ := hv
  have hx := B.exec
  have hb := B.bytes
  have hr := B.returns
  have hts := atoms_spec (ws := uX2_faceOf) B.pre
  have hown : s.vm.findClass RX2 = some m.cls := hown_of B.named rfl
  have hlocks := B.notSynchronized
  have hl := lv_entry ([.ref cu, .int a1]) (n := 2) (Nat.le_of_ble_eq_true rfl)
  rw [lg_entry_eq]
  generalize (lg_sl ([.ref cu, .int a1]) ++ List.replicate (2 - (lg_sl ([.ref cu, .int a1])).length) Slot.unset).toArray = ls at hl ⊢
  have hl : lv_has ls 2 [(0, .ref cu), (1, .int a1)] := hl
  refine lv_aload_n hx hb dX2_faceOf_0 rfl (lv_at hl 0 rfl) ?_
  refine lv_iload_n hx hb dX2_faceOf_1 rfl (lv_at hl 1 rfl) ?_
  refine vp_callSi (W.runV (As := [.int a1]) (rest := []) ⟨hx, hb, hml, hown, hts⟩ (kX2_hasTicket l dC dI cu ln bs tk lw li fa lu a1 b_ln b_bs b_tk b_lw) (cwV 1 hts gX2_faceOf__X2_hasTicket_V63 rfl rfl rfl hd_yX2_hasTicket ⟨lel 1 1 rfl, lel 21 21 rfl⟩) ⟨pw_fb, rcv_X2 hK hP (q0 := 0) rfl, (pw_use hP hK hN [0] rfl [] rfl)⟩ rfl rfl hl.1 rfl (lv_room (Nat.le_of_ble_eq_true rfl)) dX2_faceOf_2 ⟨lel 0 0 rfl, lel 0 0 rfl⟩) (fun r_5 h_r_5 => ?_)
  obtain ⟨b_r_5, nz_r_5⟩ := h_r_5
  have b_r_5 : (0 : Int) ≤ r_5.toInt ∧ r_5.toInt ≤ 1 := b_r_5
  refine lv_if_eq (tgt := 17) hx hb dX2_faceOf_5 (by decide) (fun c_6 => ?_) (fun c_6 => ?_)
  ·
    have n_c_6 : (r_5.toInt : Int) = 0 := c_eq rfl (by decide) c_6
    have b_r_5 : (0 : Int) ≤ r_5.toInt ∧ r_5.toInt ≤ 0 := r_eq1 b_r_5 (by decide : (0 : Int) ≤ (0 : Int32).toInt ∧ (0 : Int32).toInt ≤ 0) n_c_6 (by decide)
    refine lv_lconst (v := 0) hx hb dX2_faceOf_17 (by decide) ?_
    exact W.lret (v := 0) hx hb hr (fun t ht hW => ⟨0, rfl, trivial, ht⟩) t_nil dX2_faceOf_18
  ·
    have n_c_6 : (r_5.toInt : Int) ≠ 0 := c_ne rfl (by decide) c_6
    have b_r_5 : (1 : Int) ≤ r_5.toInt ∧ r_5.toInt ≤ 1 := r_ne1 b_r_5 (by decide : (0 : Int) ≤ (0 : Int32).toInt ∧ (0 : Int32).toInt ≤ 0) n_c_6 (by decide)
    obtain ⟨b_a1, g_7⟩ := nz_r_5 c_6
    refine lv_aload_n hx hb dX2_faceOf_8 rfl (lv_at hl 0 rfl) ?_
    refine va_get (D := (dC, dI)) (ci := 1) (v := .ref fa) (C := RX2) (T := TX2) (N := 7) hx hb hts iX2_faceOf_X2 hown hK hP 0 rfl rfl 5 (by decide) (hts (.fieldLink RX2 9 "LuckyTicket$Roll" "faces" "[J") (List.mem_of_getElem? (i := 5) rfl)) (fun _ h9 => h9) rfl dX2_faceOf_9 ?_
    refine lv_iload_n hx hb dX2_faceOf_12 rfl (lv_at hl 1 rfl) ?_
    refine va_lald hx hb hK hP 1 0 rfl rfl (vp_in_iff.mpr ⟨by omega, by omega⟩) dX2_faceOf_13 ?_
    refine lv_topl (fun z_8 e_z_8 => ?_)
    refine lv_goto (tgt := 18) hx hb dX2_faceOf_14 (by decide) ?_
    exact W.lret (v := z_8) hx hb hr (fun t ht hW => ⟨z_8, rfl, trivial, ht⟩) t_nil dX2_faceOf_18
theorem dX2_luckOf_0 : decode cX2_luckOf 0 = .ok (.aload_n 0, 1) := by decide +kernel
theorem dX2_luckOf_1 : decode cX2_luckOf 1 = .ok (.iload_n 1, 1) := by decide +kernel
theorem dX2_luckOf_2 : decode cX2_luckOf 2 = .ok (.invokevirtual 63, 3) := by decide +kernel
theorem dX2_luckOf_5 : decode cX2_luckOf 5 = .ok (.ifCond .eq 12, 3) := by decide +kernel
theorem dX2_luckOf_8 : decode cX2_luckOf 8 = .ok (.aload_n 0, 1) := by decide +kernel
theorem dX2_luckOf_9 : decode cX2_luckOf 9 = .ok (.getfield 15, 3) := by decide +kernel
theorem dX2_luckOf_12 : decode cX2_luckOf 12 = .ok (.iload_n 1, 1) := by decide +kernel
theorem dX2_luckOf_13 : decode cX2_luckOf 13 = .ok (.iaload, 1) := by decide +kernel
theorem dX2_luckOf_14 : decode cX2_luckOf 14 = .ok (.goto 4, 3) := by decide +kernel
theorem dX2_luckOf_17 : decode cX2_luckOf 17 = .ok (.iconst 0, 1) := by decide +kernel
theorem dX2_luckOf_18 : decode cX2_luckOf 18 = .ok (.ireturn, 1) := by decide +kernel
theorem hd_yX2_luckOf : yX2_luckOf.cls = RX2 ∧ yX2_luckOf.cls ≠ "java/lang/invoke/MethodHandle" ∧ yX2_luckOf.cls ≠ "java/lang/invoke/VarHandle" ∧ (parseMethodDescriptor yX2_luckOf.desc).map (fun d => d.parameters.length) = some 1 := by decide +kernel
def uX2_luckOf : List Cond := List.cons (.code yX2_luckOf cX2_luckOf 2 (some .int)) (HAppend.hAppend ([.methodLink RX2 63 yX2_hasTicket, .instanceMethod yX2_hasTicket, .selects RX2 yX2_hasTicket yX2_hasTicket, .initialized RX2, .fieldLink RX2 15 "LuckyTicket$Roll" "luck" "[I"] : List Cond) (HAppend.hAppend uX2_hasTicket wsX20))
theorem iX2_luckOf_X2 : ∀ w ∈ wsX20, w ∈ uX2_luckOf := fun _ h => (List.mem_cons_of_mem _ (List.mem_append_right _ (List.mem_append_right _ h)))
theorem guX2_luckOf : GU uX2_luckOf := gu_cons (gu_app (by decide +kernel) (gu_ap guX2_hasTicket gws_X2))
theorem gX2_luckOf__X2_hasTicket_V63 : GoodIn uX2_luckOf (wsV RX2 63 RX2 yX2_hasTicket uX2_hasTicket) := gin_V (List.mem_of_getElem? (i := 1) rfl) (List.mem_of_getElem? (i := 2) rfl) (List.mem_of_getElem? (i := 3) rfl) (List.mem_of_getElem? (i := 4) rfl) (fun _ h => (List.mem_cons_of_mem _ (List.mem_append_right _ (List.mem_append_left _ h)))) guX2_hasTicket
set_option maxHeartbeats 4000000 in
set_option maxRecDepth 100000 in
theorem kX2_luckOf (l : Launch) (dC : Nat → ClassId) (dI : Nat → Nat → Nat) (cu : Nat) (ln : Int32) (bs : Int32) (tk : Int32) (lw : Int32) (li : Int32) (fa : Nat) (lu : Nat) (cL : ClassId) (nl : Nat) (fl : Nat → Int32) (a1 : Int32) (b_ln : (0 : Int) ≤ ln.toInt ∧ ln.toInt ≤ 12) (b_bs : (0 : Int) ≤ bs.toInt ∧ bs.toInt ≤ 16) (b_tk : (0 : Int) ≤ tk.toInt ∧ tk.toInt ≤ 20000) (b_lw : (0 : Int) ≤ lw.toInt ∧ lw.toInt ≤ 9) (hl1 : tk.toInt ≤ (nl : Int)) : Met l yX2_luckOf uX2_luckOf ({ frames := 1, cells := 0, slots := 0, locals := 21 }) (va_Pc [.ref cu, .int a1] (pw (dC, dI) vwCl [(cu, .inr (1, [.int ln, .int bs, .int tk, .int lw, .int li, .ref fa, .ref lu])), (lu, .inl (cL, nl, .inl fl))] [(cL, .int)])) (vp_Si (fun r => True)) 0 0 (fun _ => False) := by
  refine Met.ofW (cc := cX2_luckOf) (maxL := 2) (ret := (some .int)) pn_X2 rfl ?_
  intro p e s m args below meth c s₁ B hml hv
  obtain ⟨rfl, hP, hK, hN⟩ := hv
  have hx := B.exec
  have hb := B.bytes
  have hr := B.returns
  have hts := atoms_spec (ws := uX2_luckOf) B.pre
  have hown : s.vm.findClass RX2 = some m.cls := hown_of B.named rfl
  have hlocks := B.notSynchronized
  have hl := lv_entry ([.ref cu, .int a1]) (n := 2) (Nat.le_of_ble_eq_true rfl)
  rw [lg_entry_eq]
  generalize (lg_sl ([.ref cu, .int a1]) ++ List.replicate (2 - (lg_sl ([.ref cu, .int a1])).length) Slot.unset).toArray = ls at hl ⊢
  have hl : lv_has ls 2 [(0, .ref cu), (1, .int a1)] := hl
  refine lv_aload_n hx hb dX2_luckOf_0 rfl (lv_at hl 0 rfl) ?_
  refine lv_iload_n hx hb dX2_luckOf_1 rfl (lv_at hl 1 rfl) ?_
  refine vp_callSi (W.runV (As := [.int a1]) (rest := []) ⟨hx, hb, hml, hown, hts⟩ (kX2_hasTicket l dC dI cu ln bs tk lw li fa lu a1 b_ln b_bs b_tk b_lw) (cwV 1 hts gX2_luckOf__X2_hasTicket_V63 rfl rfl rfl hd_yX2_hasTicket ⟨lel 1 1 rfl, lel 21 21 rfl⟩) ⟨pw_fb, rcv_X2 hK hP (q0 := 0) rfl, (pw_use hP hK hN [0] rfl [] rfl)⟩ rfl rfl hl.1 rfl (lv_room (Nat.le_of_ble_eq_true rfl)) dX2_luckOf_2 ⟨lel 0 0 rfl, lel 0 0 rfl⟩) (fun r_5 h_r_5 => ?_)
  obtain ⟨b_r_5, nz_r_5⟩ := h_r_5
  have b_r_5 : (0 : Int) ≤ r_5.toInt ∧ r_5.toInt ≤ 1 := b_r_5
  refine lv_if_eq (tgt := 17) hx hb dX2_luckOf_5 (by decide) (fun c_6 => ?_) (fun c_6 => ?_)
  ·
    have n_c_6 : (r_5.toInt : Int) = 0 := c_eq rfl (by decide) c_6
    have b_r_5 : (0 : Int) ≤ r_5.toInt ∧ r_5.toInt ≤ 0 := r_eq1 b_r_5 (by decide : (0 : Int) ≤ (0 : Int32).toInt ∧ (0 : Int32).toInt ≤ 0) n_c_6 (by decide)
    refine lv_iconst (v := 0) hx hb dX2_luckOf_17 (by decide) ?_
    exact W.iret (v := 0) hx hb hr (fun t ht hW => ⟨0, rfl, trivial, ht⟩) t_nil dX2_luckOf_18
  ·
    have n_c_6 : (r_5.toInt : Int) ≠ 0 := c_ne rfl (by decide) c_6
    have b_r_5 : (1 : Int) ≤ r_5.toInt ∧ r_5.toInt ≤ 1 := r_ne1 b_r_5 (by decide : (0 : Int) ≤ (0 : Int32).toInt ∧ (0 : Int32).toInt ≤ 0) n_c_6 (by decide)
    obtain ⟨b_a1, g_7⟩ := nz_r_5 c_6
    refine lv_aload_n hx hb dX2_luckOf_8 rfl (lv_at hl 0 rfl) ?_
    refine va_get (D := (dC, dI)) (ci := 1) (v := .ref lu) (C := RX2) (T := TX2) (N := 7) hx hb hts iX2_luckOf_X2 hown hK hP 0 rfl rfl 6 (by decide) (hts (.fieldLink RX2 15 "LuckyTicket$Roll" "luck" "[I") (List.mem_of_getElem? (i := 5) rfl)) (fun _ h9 => h9) rfl dX2_luckOf_9 ?_
    refine lv_iload_n hx hb dX2_luckOf_12 rfl (lv_at hl 1 rfl) ?_
    refine va_iald hx hb hK hP 1 0 rfl rfl (vp_in_iff.mpr ⟨by omega, by omega⟩) dX2_luckOf_13 ?_
    refine lv_topi (fun z_8 e_z_8 => ?_)
    refine lv_goto (tgt := 18) hx hb dX2_luckOf_14 (by decide) ?_
    exact W.iret (v := z_8) hx hb hr (fun t ht hW => ⟨z_8, rfl, trivial, ht⟩) t_nil dX2_luckOf_18
theorem dX2_luckBit_0 : decode cX2_luckBit 0 = .ok (.aload_n 0, 1) := by decide +kernel
theorem dX2_luckBit_1 : decode cX2_luckBit 1 = .ok (.iload_n 2, 1) := by decide +kernel
theorem dX2_luckBit_2 : decode cX2_luckBit 2 = .ok (.invokevirtual 63, 3) := by decide +kernel
theorem dX2_luckBit_5 : decode cX2_luckBit 5 = .ok (.ifCond .eq 16, 3) := by decide +kernel
theorem dX2_luckBit_8 : decode cX2_luckBit 8 = .ok (.aload_n 0, 1) := by decide +kernel
theorem dX2_luckBit_9 : decode cX2_luckBit 9 = .ok (.getfield 15, 3) := by decide +kernel
theorem dX2_luckBit_12 : decode cX2_luckBit 12 = .ok (.iload_n 2, 1) := by decide +kernel
theorem dX2_luckBit_13 : decode cX2_luckBit 13 = .ok (.iaload, 1) := by decide +kernel
theorem dX2_luckBit_14 : decode cX2_luckBit 14 = .ok (.iload_n 1, 1) := by decide +kernel
theorem dX2_luckBit_15 : decode cX2_luckBit 15 = .ok (.iushr, 1) := by decide +kernel
theorem dX2_luckBit_16 : decode cX2_luckBit 16 = .ok (.iconst 1, 1) := by decide +kernel
theorem dX2_luckBit_17 : decode cX2_luckBit 17 = .ok (.iand, 1) := by decide +kernel
theorem dX2_luckBit_18 : decode cX2_luckBit 18 = .ok (.goto 4, 3) := by decide +kernel
theorem dX2_luckBit_21 : decode cX2_luckBit 21 = .ok (.iconst 0, 1) := by decide +kernel
theorem dX2_luckBit_22 : decode cX2_luckBit 22 = .ok (.ireturn, 1) := by decide +kernel
theorem hd_yX2_luckBit : yX2_luckBit.cls = RX2 ∧ yX2_luckBit.cls ≠ "java/lang/invoke/MethodHandle" ∧ yX2_luckBit.cls ≠ "java/lang/invoke/VarHandle" ∧ (parseMethodDescriptor yX2_luckBit.desc).map (fun d => d.parameters.length) = some 2 := by decide +kernel
def uX2_luckBit : List Cond := List.cons (.code yX2_luckBit cX2_luckBit 3 (some .int)) (HAppend.hAppend ([.methodLink RX2 63 yX2_hasTicket, .instanceMethod yX2_hasTicket, .selects RX2 yX2_hasTicket yX2_hasTicket, .initialized RX2, .fieldLink RX2 15 "LuckyTicket$Roll" "luck" "[I"] : List Cond) (HAppend.hAppend uX2_hasTicket wsX20))
theorem iX2_luckBit_X2 : ∀ w ∈ wsX20, w ∈ uX2_luckBit := fun _ h => (List.mem_cons_of_mem _ (List.mem_append_right _ (List.mem_append_right _ h)))
theorem guX2_luckBit : GU uX2_luckBit := gu_cons (gu_app (by decide +kernel) (gu_ap guX2_hasTicket gws_X2))
theorem gX2_luckBit__X2_hasTicket_V63 : GoodIn uX2_luckBit (wsV RX2 63 RX2 yX2_hasTicket uX2_hasTicket) := gin_V (List.mem_of_getElem? (i := 1) rfl) (List.mem_of_getElem? (i := 2) rfl) (List.mem_of_getElem? (i := 3) rfl) (List.mem_of_getElem? (i := 4) rfl) (fun _ h => (List.mem_cons_of_mem _ (List.mem_append_right _ (List.mem_append_left _ h)))) guX2_hasTicket
set_option maxHeartbeats 4000000 in
set_option maxRecDepth 100000 in
theorem kX2_luckBit (l : Launch) (dC : Nat → ClassId) (dI : Nat → Nat → Nat) (cu : Nat) (ln : Int32) (bs : Int32) (tk : Int32) (lw : Int32) (li : Int32) (fa : Nat) (lu : Nat) (cL : ClassId) (nl : Nat) (fl : Nat → Int32) (a1 : Int32) (a2 : Int32) (b_ln : (0 : Int) ≤ ln.toInt ∧ ln.toInt ≤ 12) (b_bs : (0 : Int) ≤ bs.toInt ∧ bs.toInt ≤ 16) (b_tk : (0 : Int) ≤ tk.toInt ∧ tk.toInt ≤ 20000) (b_lw : (0 : Int) ≤ lw.toInt ∧ lw.toInt ≤ 9) (hl1 : tk.toInt ≤ (nl : Int)) : Met l yX2_luckBit uX2_luckBit ({ frames := 1, cells := 0, slots := 0, locals := 21 }) (va_Pc [.ref cu, .int a1, .int a2] (pw (dC, dI) vwCl [(cu, .inr (1, [.int ln, .int bs, .int tk, .int lw, .int li, .ref fa, .ref lu])), (lu, .inl (cL, nl, .inl fl))] [(cL, .int)])) (vp_Si (fun r => ((0 : Int) ≤ r.toInt ∧ r.toInt ≤ 1))) 0 0 (fun _ => False) := by
  refine Met.ofW (cc := cX2_luckBit) (maxL := 3) (ret := (some .int)) pn_X2 rfl ?_
  intro p e s m args below meth c s₁ B hml hv
  obtain ⟨rfl, hP, hK, hN⟩ := hv
  have hx := B.exec
  have hb := B.bytes
  have hr := B.returns
  have hts := atoms_spec (ws := uX2_luckBit) B.pre
  have hown : s.vm.findClass RX2 = some m.cls := hown_of B.named rfl
  have hlocks := B.notSynchronized
  have hl := lv_entry ([.ref cu, .int a1, .int a2]) (n := 3) (Nat.le_of_ble_eq_true rfl)
  rw [lg_entry_eq]
  generalize (lg_sl ([.ref cu, .int a1, .int a2]) ++ List.replicate (3 - (lg_sl ([.ref cu, .int a1, .int a2])).length) Slot.unset).toArray = ls at hl ⊢
  have hl : lv_has ls 3 [(0, .ref cu), (1, .int a1), (2, .int a2)] := hl
  refine lv_aload_n hx hb dX2_luckBit_0 rfl (lv_at hl 0 rfl) ?_
  refine lv_iload_n hx hb dX2_luckBit_1 rfl (lv_at hl 2 rfl) ?_
  refine vp_callSi (W.runV (As := [.int a2]) (rest := []) ⟨hx, hb, hml, hown, hts⟩ (kX2_hasTicket l dC dI cu ln bs tk lw li fa lu a2 b_ln b_bs b_tk b_lw) (cwV 1 hts gX2_luckBit__X2_hasTicket_V63 rfl rfl rfl hd_yX2_hasTicket ⟨lel 1 1 rfl, lel 21 21 rfl⟩) ⟨pw_fb, rcv_X2 hK hP (q0 := 0) rfl, (pw_use hP hK hN [0] rfl [] rfl)⟩ rfl rfl hl.1 rfl (lv_room (Nat.le_of_ble_eq_true rfl)) dX2_luckBit_2 ⟨lel 0 0 rfl, lel 0 0 rfl⟩) (fun r_7 h_r_7 => ?_)
  obtain ⟨b_r_7, nz_r_7⟩ := h_r_7
  have b_r_7 : (0 : Int) ≤ r_7.toInt ∧ r_7.toInt ≤ 1 := b_r_7
  refine lv_if_eq (tgt := 21) hx hb dX2_luckBit_5 (by decide) (fun c_8 => ?_) (fun c_8 => ?_)
  ·
    have n_c_8 : (r_7.toInt : Int) = 0 := c_eq rfl (by decide) c_8
    have b_r_7 : (0 : Int) ≤ r_7.toInt ∧ r_7.toInt ≤ 0 := r_eq1 b_r_7 (by decide : (0 : Int) ≤ (0 : Int32).toInt ∧ (0 : Int32).toInt ≤ 0) n_c_8 (by decide)
    refine lv_iconst (v := 0) hx hb dX2_luckBit_21 (by decide) ?_
    exact W.iret (v := 0) hx hb hr (fun t ht hW => ⟨0, rfl, (rg_w (by decide : (0 : Int) ≤ (0 : Int32).toInt ∧ (0 : Int32).toInt ≤ 0) (by decide) (by decide)), ht⟩) t_nil dX2_luckBit_22
  ·
    have n_c_8 : (r_7.toInt : Int) ≠ 0 := c_ne rfl (by decide) c_8
    have b_r_7 : (1 : Int) ≤ r_7.toInt ∧ r_7.toInt ≤ 1 := r_ne1 b_r_7 (by decide : (0 : Int) ≤ (0 : Int32).toInt ∧ (0 : Int32).toInt ≤ 0) n_c_8 (by decide)
    obtain ⟨b_a2, g_9⟩ := nz_r_7 c_8
    refine lv_aload_n hx hb dX2_luckBit_8 rfl (lv_at hl 0 rfl) ?_
    refine va_get (D := (dC, dI)) (ci := 1) (v := .ref lu) (C := RX2) (T := TX2) (N := 7) hx hb hts iX2_luckBit_X2 hown hK hP 0 rfl rfl 6 (by decide) (hts (.fieldLink RX2 15 "LuckyTicket$Roll" "luck" "[I") (List.mem_of_getElem? (i := 5) rfl)) (fun _ h9 => h9) rfl dX2_luckBit_9 ?_
    refine lv_iload_n hx hb dX2_luckBit_12 rfl (lv_at hl 2 rfl) ?_
    refine va_iald hx hb hK hP 1 0 rfl rfl (vp_in_iff.mpr ⟨by omega, by omega⟩) dX2_luckBit_13 ?_
    refine lv_topi (fun z_10 e_z_10 => ?_)
    refine lv_iload_n hx hb dX2_luckBit_14 rfl (lv_at hl 1 rfl) ?_
    obtain ⟨z_11, e_z_11⟩ : ∃ y : Int32, y = ((z_10 : Int32).toUInt32 >>> ((a1 : Int32).toUInt32 &&& Int32.toUInt32 31)).toInt32 := ⟨_, rfl⟩
    refine lv_iushr (v := z_11) hx hb dX2_luckBit_15 e_z_11.symm ?_
    refine lv_iconst (v := 1) hx hb dX2_luckBit_16 (by decide) ?_
    refine lv_iand hx hb dX2_luckBit_17 ?_
    refine lv_topi (fun z_12 e_z_12 => ?_)
    have b_z_12 : (0 : Int) ≤ z_12.toInt ∧ z_12.toInt ≤ 1 := ti_and (k := 1) e_z_12 (by decide) (by decide) (by decide)
    refine lv_goto (tgt := 22) hx hb dX2_luckBit_18 (by decide) ?_
    exact W.iret (v := z_12) hx hb hr (fun t ht hW => ⟨z_12, rfl, b_z_12, ht⟩) t_nil dX2_luckBit_22
theorem dX2_isLucky_0 : decode cX2_isLucky 0 = .ok (.iload_n 2, 1) := by decide +kernel
theorem dX2_isLucky_1 : decode cX2_isLucky 1 = .ok (.ifCond .lt 28, 3) := by decide +kernel
theorem dX2_isLucky_4 : decode cX2_isLucky 4 = .ok (.iload_n 2, 1) := by decide +kernel
theorem dX2_isLucky_5 : decode cX2_isLucky 5 = .ok (.aload_n 0, 1) := by decide +kernel
theorem dX2_isLucky_6 : decode cX2_isLucky 6 = .ok (.getfield 42, 3) := by decide +kernel
theorem dX2_isLucky_9 : decode cX2_isLucky 9 = .ok (.if_icmp .ge 20, 3) := by decide +kernel
theorem dX2_isLucky_12 : decode cX2_isLucky 12 = .ok (.aload_n 0, 1) := by decide +kernel
theorem dX2_isLucky_13 : decode cX2_isLucky 13 = .ok (.getfield 15, 3) := by decide +kernel
theorem dX2_isLucky_16 : decode cX2_isLucky 16 = .ok (.iload_n 2, 1) := by decide +kernel
theorem dX2_isLucky_17 : decode cX2_isLucky 17 = .ok (.iaload, 1) := by decide +kernel
theorem dX2_isLucky_18 : decode cX2_isLucky 18 = .ok (.iload_n 1, 1) := by decide +kernel
theorem dX2_isLucky_19 : decode cX2_isLucky 19 = .ok (.iushr, 1) := by decide +kernel
theorem dX2_isLucky_20 : decode cX2_isLucky 20 = .ok (.iconst 1, 1) := by decide +kernel
theorem dX2_isLucky_21 : decode cX2_isLucky 21 = .ok (.iand, 1) := by decide +kernel
theorem dX2_isLucky_22 : decode cX2_isLucky 22 = .ok (.ifCond .eq 7, 3) := by decide +kernel
theorem dX2_isLucky_25 : decode cX2_isLucky 25 = .ok (.iconst 1, 1) := by decide +kernel
theorem dX2_isLucky_26 : decode cX2_isLucky 26 = .ok (.goto 4, 3) := by decide +kernel
theorem dX2_isLucky_29 : decode cX2_isLucky 29 = .ok (.iconst 0, 1) := by decide +kernel
theorem dX2_isLucky_30 : decode cX2_isLucky 30 = .ok (.ireturn, 1) := by decide +kernel
theorem hd_yX2_isLucky : yX2_isLucky.cls = RX2 ∧ yX2_isLucky.cls ≠ "java/lang/invoke/MethodHandle" ∧ yX2_isLucky.cls ≠ "java/lang/invoke/VarHandle" ∧ (parseMethodDescriptor yX2_isLucky.desc).map (fun d => d.parameters.length) = some 2 := by decide +kernel
def uX2_isLucky : List Cond := List.cons (.code yX2_isLucky cX2_isLucky 3 (some .boolean)) (HAppend.hAppend ([.fieldLink RX2 42 "LuckyTicket$Roll" "tickets" "I", .fieldLink RX2 15 "LuckyTicket$Roll" "luck" "[I"] : List Cond) wsX20)
theorem iX2_isLucky_X2 : ∀ w ∈ wsX20, w ∈ uX2_isLucky := fun _ h => (List.mem_cons_of_mem _ (List.mem_append_right _ h))
theorem guX2_isLucky : GU uX2_isLucky := gu_cons (gu_app (by decide +kernel) gws_X2)
set_option maxHeartbeats 4000000 in
set_option maxRecDepth 100000 in
theorem kX2_isLucky (l : Launch) (dC : Nat → ClassId) (dI : Nat → Nat → Nat) (cu : Nat) (ln : Int32) (bs : Int32) (tk : Int32) (lw : Int32) (li : Int32) (fa : Nat) (lu : Nat) (cL : ClassId) (nl : Nat) (fl : Nat → Int32) (a1 : Int32) (a2 : Int32) (b_ln : (0 : Int) ≤ ln.toInt ∧ ln.toInt ≤ 12) (b_bs : (0 : Int) ≤ bs.toInt ∧ bs.toInt ≤ 16) (b_tk : (0 : Int) ≤ tk.toInt ∧ tk.toInt ≤ 20000) (b_lw : (0 : Int) ≤ lw.toInt ∧ lw.toInt ≤ 9) (hl1 : tk.toInt ≤ (nl : Int)) : Met l yX2_isLucky uX2_isLucky ({ frames := 0, cells := 0, slots := 0, locals := 0 }) (va_Pc [.ref cu, .int a1, .int a2] (pw (dC, dI) vwCl [(cu, .inr (1, [.int ln, .int bs, .int tk, .int lw, .int li, .ref fa, .ref lu])), (lu, .inl (cL, nl, .inl fl))] [(cL, .int)])) (vp_Si (fun r => ((0 : Int) ≤ r.toInt ∧ r.toInt ≤ 1))) 0 0 (fun _ => False) := by
  refine Met.ofW (cc := cX2_isLucky) (maxL := 3) (ret := (some .boolean)) pn_X2 rfl ?_
  intro p e s m args below meth c s₁ B hml hv
  obtain ⟨rfl, hP, hK, hN⟩ := hv
  have hx := B.exec
  have hb := B.bytes
  have hr := B.returns
  have hts := atoms_spec (ws := uX2_isLucky) B.pre
  have hown : s.vm.findClass RX2 = some m.cls := hown_of B.named rfl
  have hlocks := B.notSynchronized
  have hl := lv_entry ([.ref cu, .int a1, .int a2]) (n := 3) (Nat.le_of_ble_eq_true rfl)
  rw [lg_entry_eq]
  generalize (lg_sl ([.ref cu, .int a1, .int a2]) ++ List.replicate (3 - (lg_sl ([.ref cu, .int a1, .int a2])).length) Slot.unset).toArray = ls at hl ⊢
  have hl : lv_has ls 3 [(0, .ref cu), (1, .int a1), (2, .int a2)] := hl
  refine lv_iload_n hx hb dX2_isLucky_0 rfl (lv_at hl 2 rfl) ?_
  refine lv_if_lt (tgt := 29) hx hb dX2_isLucky_1 (by decide) (fun c_7 => ?_) (fun c_7 => ?_)
  ·
    have n_c_7 : (a2.toInt : Int) < 0 := c_lt rfl (by decide) c_7
    have b_a2 : (-2147483648 : Int) ≤ a2.toInt ∧ a2.toInt ≤ -1 := r_lt1 (ti_rng a2) (by decide : (0 : Int) ≤ (0 : Int32).toInt ∧ (0 : Int32).toInt ≤ 0) n_c_7 (by decide)
    refine lv_iconst (v := 0) hx hb dX2_isLucky_29 (by decide) ?_
    exact W.zret (v := 0) hx hb hr rfl (fun t ht hW => ⟨0, rfl, (rg_w (by decide : (0 : Int) ≤ (0 : Int32).toInt ∧ (0 : Int32).toInt ≤ 0) (by decide) (by decide)), ht⟩) t_nil dX2_isLucky_30
  ·
    have n_c_7 : (0 : Int) ≤ a2.toInt := c_nlt rfl (by decide) c_7
    have b_a2 : (0 : Int) ≤ a2.toInt ∧ a2.toInt ≤ 2147483647 := r_le2 (by decide : (0 : Int) ≤ (0 : Int32).toInt ∧ (0 : Int32).toInt ≤ 0) (ti_rng a2) n_c_7 (by decide)
    refine lv_iload_n hx hb dX2_isLucky_4 rfl (lv_at hl 2 rfl) ?_
    refine lv_aload_n hx hb dX2_isLucky_5 rfl (lv_at hl 0 rfl) ?_
    refine va_get (D := (dC, dI)) (ci := 1) (v := .int tk) (C := RX2) (T := TX2) (N := 7) hx hb hts iX2_isLucky_X2 hown hK hP 0 rfl rfl 2 (by decide) (hts (.fieldLink RX2 42 "LuckyTicket$Roll" "tickets" "I") (List.mem_of_getElem? (i := 1) rfl)) (fun _ h9 => h9) rfl dX2_isLucky_6 ?_
    refine lv_icmp_ge (tgt := 29) hx hb dX2_isLucky_9 (by decide) (fun c_8 => ?_) (fun c_8 => ?_)
    ·
      have n_c_8 : (tk.toInt : Int) ≤ a2.toInt := c_ge rfl rfl c_8
      refine lv_iconst (v := 0) hx hb dX2_isLucky_29 (by decide) ?_
      exact W.zret (v := 0) hx hb hr rfl (fun t ht hW => ⟨0, rfl, (rg_w (by decide : (0 : Int) ≤ (0 : Int32).toInt ∧ (0 : Int32).toInt ≤ 0) (by decide) (by decide)), ht⟩) t_nil dX2_isLucky_30
    ·
      have n_c_8 : (a2.toInt : Int) < tk.toInt := c_nge rfl rfl c_8
      have b_a2 : (0 : Int) ≤ a2.toInt ∧ a2.toInt ≤ 19999 := r_lt1 b_a2 b_tk n_c_8 (by decide)
      have b_tk : (1 : Int) ≤ tk.toInt ∧ tk.toInt ≤ 20000 := r_lt2 b_a2 b_tk n_c_8 (by decide)
      refine lv_aload_n hx hb dX2_isLucky_12 rfl (lv_at hl 0 rfl) ?_
      refine va_get (D := (dC, dI)) (ci := 1) (v := .ref lu) (C := RX2) (T := TX2) (N := 7) hx hb hts iX2_isLucky_X2 hown hK hP 0 rfl rfl 6 (by decide) (hts (.fieldLink RX2 15 "LuckyTicket$Roll" "luck" "[I") (List.mem_of_getElem? (i := 2) rfl)) (fun _ h9 => h9) rfl dX2_isLucky_13 ?_
      refine lv_iload_n hx hb dX2_isLucky_16 rfl (lv_at hl 2 rfl) ?_
      refine va_iald hx hb hK hP 1 0 rfl rfl (vp_in_iff.mpr ⟨by omega, by omega⟩) dX2_isLucky_17 ?_
      refine lv_topi (fun z_9 e_z_9 => ?_)
      refine lv_iload_n hx hb dX2_isLucky_18 rfl (lv_at hl 1 rfl) ?_
      obtain ⟨z_10, e_z_10⟩ : ∃ y : Int32, y = ((z_9 : Int32).toUInt32 >>> ((a1 : Int32).toUInt32 &&& Int32.toUInt32 31)).toInt32 := ⟨_, rfl⟩
      refine lv_iushr (v := z_10) hx hb dX2_isLucky_19 e_z_10.symm ?_
      refine lv_iconst (v := 1) hx hb dX2_isLucky_20 (by decide) ?_
      refine lv_iand hx hb dX2_isLucky_21 ?_
      refine lv_topi (fun z_11 e_z_11 => ?_)
      have b_z_11 : (0 : Int) ≤ z_11.toInt ∧ z_11.toInt ≤ 1 := ti_and (k := 1) e_z_11 (by decide) (by decide) (by decide)
      refine lv_if_eq (tgt := 29) hx hb dX2_isLucky_22 (by decide) (fun c_12 => ?_) (fun c_12 => ?_)
      ·
        have n_c_12 : (z_11.toInt : Int) = 0 := c_eq rfl (by decide) c_12
        have b_z_11 : (0 : Int) ≤ z_11.toInt ∧ z_11.toInt ≤ 0 := r_eq1 b_z_11 (by decide : (0 : Int) ≤ (0 : Int32).toInt ∧ (0 : Int32).toInt ≤ 0) n_c_12 (by decide)
        refine lv_iconst (v := 0) hx hb dX2_isLucky_29 (by decide) ?_
        exact W.zret (v := 0) hx hb hr rfl (fun t ht hW => ⟨0, rfl, (rg_w (by decide : (0 : Int) ≤ (0 : Int32).toInt ∧ (0 : Int32).toInt ≤ 0) (by decide) (by decide)), ht⟩) t_nil dX2_isLucky_30
      ·
        have n_c_12 : (z_11.toInt : Int) ≠ 0 := c_ne rfl (by decide) c_12
        have b_z_11 : (1 : Int) ≤ z_11.toInt ∧ z_11.toInt ≤ 1 := r_ne1 b_z_11 (by decide : (0 : Int) ≤ (0 : Int32).toInt ∧ (0 : Int32).toInt ≤ 0) n_c_12 (by decide)
        refine lv_iconst (v := 1) hx hb dX2_isLucky_25 (by decide) ?_
        refine lv_goto (tgt := 30) hx hb dX2_isLucky_26 (by decide) ?_
        exact W.zret (v := 1) hx hb hr rfl (fun t ht hW => ⟨1, rfl, (rg_w (by decide : (1 : Int) ≤ (1 : Int32).toInt ∧ (1 : Int32).toInt ≤ 1) (by decide) (by decide)), ht⟩) t_nil dX2_isLucky_30
theorem dX2_isLuckyNumber_0 : decode cX2_isLuckyNumber 0 = .ok (.lload_n 2, 1) := by decide +kernel
theorem dX2_isLuckyNumber_1 : decode cX2_isLuckyNumber 1 = .ok (.lconst 0, 1) := by decide +kernel
theorem dX2_isLuckyNumber_2 : decode cX2_isLuckyNumber 2 = .ok (.lcmp, 1) := by decide +kernel
theorem dX2_isLuckyNumber_3 : decode cX2_isLuckyNumber 3 = .ok (.ifCond .lt 27, 3) := by decide +kernel
theorem dX2_isLuckyNumber_6 : decode cX2_isLuckyNumber 6 = .ok (.lload_n 2, 1) := by decide +kernel
theorem dX2_isLuckyNumber_7 : decode cX2_isLuckyNumber 7 = .ok (.aload_n 0, 1) := by decide +kernel
theorem dX2_isLuckyNumber_8 : decode cX2_isLuckyNumber 8 = .ok (.getfield 42, 3) := by decide +kernel
theorem dX2_isLuckyNumber_11 : decode cX2_isLuckyNumber 11 = .ok (.i2l, 1) := by decide +kernel
theorem dX2_isLuckyNumber_12 : decode cX2_isLuckyNumber 12 = .ok (.lcmp, 1) := by decide +kernel
theorem dX2_isLuckyNumber_13 : decode cX2_isLuckyNumber 13 = .ok (.ifCond .ge 17, 3) := by decide +kernel
theorem dX2_isLuckyNumber_16 : decode cX2_isLuckyNumber 16 = .ok (.aload_n 0, 1) := by decide +kernel
theorem dX2_isLuckyNumber_17 : decode cX2_isLuckyNumber 17 = .ok (.iload_n 1, 1) := by decide +kernel
theorem dX2_isLuckyNumber_18 : decode cX2_isLuckyNumber 18 = .ok (.lload_n 2, 1) := by decide +kernel
theorem dX2_isLuckyNumber_19 : decode cX2_isLuckyNumber 19 = .ok (.l2i, 1) := by decide +kernel
theorem dX2_isLuckyNumber_20 : decode cX2_isLuckyNumber 20 = .ok (.invokevirtual 67, 3) := by decide +kernel
theorem dX2_isLuckyNumber_23 : decode cX2_isLuckyNumber 23 = .ok (.ifCond .eq 7, 3) := by decide +kernel
theorem dX2_isLuckyNumber_26 : decode cX2_isLuckyNumber 26 = .ok (.iconst 1, 1) := by decide +kernel
theorem dX2_isLuckyNumber_27 : decode cX2_isLuckyNumber 27 = .ok (.goto 4, 3) := by decide +kernel
theorem dX2_isLuckyNumber_30 : decode cX2_isLuckyNumber 30 = .ok (.iconst 0, 1) := by decide +kernel
theorem dX2_isLuckyNumber_31 : decode cX2_isLuckyNumber 31 = .ok (.ireturn, 1) := by decide +kernel
theorem hd_yX2_isLuckyNumber : yX2_isLuckyNumber.cls = RX2 ∧ yX2_isLuckyNumber.cls ≠ "java/lang/invoke/MethodHandle" ∧ yX2_isLuckyNumber.cls ≠ "java/lang/invoke/VarHandle" ∧ (parseMethodDescriptor yX2_isLuckyNumber.desc).map (fun d => d.parameters.length) = some 2 := by decide +kernel
def uX2_isLuckyNumber : List Cond := List.cons (.code yX2_isLuckyNumber cX2_isLuckyNumber 4 (some .boolean)) (HAppend.hAppend ([.fieldLink RX2 42 "LuckyTicket$Roll" "tickets" "I", .methodLink RX2 67 yX2_isLucky, .instanceMethod yX2_isLucky, .selects RX2 yX2_isLucky yX2_isLucky, .initialized RX2] : List Cond) (HAppend.hAppend uX2_isLucky wsX20))
theorem iX2_isLuckyNumber_X2 : ∀ w ∈ wsX20, w ∈ uX2_isLuckyNumber := fun _ h => (List.mem_cons_of_mem _ (List.mem_append_right _ (List.mem_append_right _ h)))
theorem guX2_isLuckyNumber : GU uX2_isLuckyNumber := gu_cons (gu_app (by decide +kernel) (gu_ap guX2_isLucky gws_X2))
theorem gX2_isLuckyNumber__X2_isLucky_V67 : GoodIn uX2_isLuckyNumber (wsV RX2 67 RX2 yX2_isLucky uX2_isLucky) := gin_V (List.mem_of_getElem? (i := 2) rfl) (List.mem_of_getElem? (i := 3) rfl) (List.mem_of_getElem? (i := 4) rfl) (List.mem_of_getElem? (i := 5) rfl) (fun _ h => (List.mem_cons_of_mem _ (List.mem_append_right _ (List.mem_append_left _ h)))) guX2_isLucky
set_option maxHeartbeats 4000000 in
set_option maxRecDepth 100000 in
theorem kX2_isLuckyNumber (l : Launch) (dC : Nat → ClassId) (dI : Nat → Nat → Nat) (cu : Nat) (ln : Int32) (bs : Int32) (tk : Int32) (lw : Int32) (li : Int32) (fa : Nat) (lu : Nat) (cL : ClassId) (nl : Nat) (fl : Nat → Int32) (a1 : Int32) (a2 : Int64) (b_ln : (0 : Int) ≤ ln.toInt ∧ ln.toInt ≤ 12) (b_bs : (0 : Int) ≤ bs.toInt ∧ bs.toInt ≤ 16) (b_tk : (0 : Int) ≤ tk.toInt ∧ tk.toInt ≤ 20000) (b_lw : (0 : Int) ≤ lw.toInt ∧ lw.toInt ≤ 9) (hl1 : tk.toInt ≤ (nl : Int)) : Met l yX2_isLuckyNumber uX2_isLuckyNumber ({ frames := 1, cells := 0, slots := 0, locals := 22 }) (va_Pc [.ref cu, .int a1, .long a2] (pw (dC, dI) vwCl [(cu, .inr (1, [.int ln, .int bs, .int tk, .int lw, .int li, .ref fa, .ref lu])), (lu, .inl (cL, nl, .inl fl))] [(cL, .int)])) (vp_Si (fun r => ((0 : Int) ≤ r.toInt ∧ r.toInt ≤ 1))) 0 0 (fun _ => False) := by
  refine Met.ofW (cc := cX2_isLuckyNumber) (maxL := 4) (ret := (some .boolean)) pn_X2 rfl ?_
  intro p e s m args below meth c s₁ B hml hv
  obtain ⟨rfl, hP, hK, hN⟩ := hv
  have hx := B.exec
  have hb := B.bytes
  have hr := B.returns
  have hts := atoms_spec (ws := uX2_isLuckyNumber) B.pre
  have hown : s.vm.findClass RX2 = some m.cls := hown_of B.named rfl
  have hlocks := B.notSynchronized
  have hl := lv_entry ([.ref cu, .int a1, .long a2]) (n := 4) (Nat.le_of_ble_eq_true rfl)
  rw [lg_entry_eq]
  generalize (lg_sl ([.ref cu, .int a1, .long a2]) ++ List.replicate (4 - (lg_sl ([.ref cu, .int a1, .long a2])).length) Slot.unset).toArray = ls at hl ⊢
  have hl : lv_has ls 4 [(0, .ref cu), (1, .int a1), (2, .long a2)] := hl
  refine lv_lload_n hx hb dX2_isLuckyNumber_0 rfl (lv_at hl 2 rfl) ?_
  refine lv_lconst (v := 0) hx hb dX2_isLuckyNumber_1 (by decide) ?_
  refine W.lcmp hx hb dX2_isLuckyNumber_2 ?_
  refine lv_if_lt (tgt := 30) hx hb dX2_isLuckyNumber_3 (by decide) (fun c_7 => ?_) (fun c_7 => ?_)
  ·
    have n_c_7 : (a2.toInt : Int) < 0 := g_lt rfl (by decide) c_7
    have b_a2 : (-9223372036854775808 : Int) ≤ a2.toInt ∧ a2.toInt ≤ -1 := r_lt1 (tl_rng a2) (by decide : (0 : Int) ≤ (0 : Int64).toInt ∧ (0 : Int64).toInt ≤ 0) n_c_7 (by decide)
    refine lv_iconst (v := 0) hx hb dX2_isLuckyNumber_30 (by decide) ?_
    exact W.zret (v := 0) hx hb hr rfl (fun t ht hW => ⟨0, rfl, (rg_w (by decide : (0 : Int) ≤ (0 : Int32).toInt ∧ (0 : Int32).toInt ≤ 0) (by decide) (by decide)), ht⟩) t_nil dX2_isLuckyNumber_31
  ·
    have n_c_7 : (0 : Int) ≤ a2.toInt := g_nlt rfl (by decide) c_7
    have b_a2 : (0 : Int) ≤ a2.toInt ∧ a2.toInt ≤ 9223372036854775807 := r_le2 (by decide : (0 : Int) ≤ (0 : Int64).toInt ∧ (0 : Int64).toInt ≤ 0) (tl_rng a2) n_c_7 (by decide)
    refine lv_lload_n hx hb dX2_isLuckyNumber_6 rfl (lv_at hl 2 rfl) ?_
    refine lv_aload_n hx hb dX2_isLuckyNumber_7 rfl (lv_at hl 0 rfl) ?_
    refine va_get (D := (dC, dI)) (ci := 1) (v := .int tk) (C := RX2) (T := TX2) (N := 7) hx hb hts iX2_isLuckyNumber_X2 hown hK hP 0 rfl rfl 2 (by decide) (hts (.fieldLink RX2 42 "LuckyTicket$Roll" "tickets" "I") (List.mem_of_getElem? (i := 1) rfl)) (fun _ h9 => h9) rfl dX2_isLuckyNumber_8 ?_
    obtain ⟨z_8, e_z_8⟩ : ∃ y : Int64, y = tk.toInt64 := ⟨_, rfl⟩
    refine lv_i2l (v := z_8) hx hb dX2_isLuckyNumber_11 e_z_8.symm ?_
    obtain ⟨q_z_8, b_z_8⟩ := ti_i2l e_z_8 b_tk
    refine W.lcmp hx hb dX2_isLuckyNumber_12 ?_
    refine lv_if_ge (tgt := 30) hx hb dX2_isLuckyNumber_13 (by decide) (fun c_9 => ?_) (fun c_9 => ?_)
    ·
      have n_c_9 : (z_8.toInt : Int) ≤ a2.toInt := g_ge rfl rfl c_9
      refine lv_iconst (v := 0) hx hb dX2_isLuckyNumber_30 (by decide) ?_
      exact W.zret (v := 0) hx hb hr rfl (fun t ht hW => ⟨0, rfl, (rg_w (by decide : (0 : Int) ≤ (0 : Int32).toInt ∧ (0 : Int32).toInt ≤ 0) (by decide) (by decide)), ht⟩) t_nil dX2_isLuckyNumber_31
    ·
      have n_c_9 : (a2.toInt : Int) < z_8.toInt := g_nge rfl rfl c_9
      have b_a2 : (0 : Int) ≤ a2.toInt ∧ a2.toInt ≤ 19999 := r_lt1 b_a2 b_z_8 n_c_9 (by decide)
      have b_z_8 : (1 : Int) ≤ z_8.toInt ∧ z_8.toInt ≤ 20000 := r_lt2 b_a2 b_z_8 n_c_9 (by decide)
      have b_tk : (1 : Int) ≤ tk.toInt ∧ tk.toInt ≤ 20000 := by
        have q0 := b_z_8; have q1 := q_z_8; have q2 := b_tk; omega
      refine lv_aload_n hx hb dX2_isLuckyNumber_16 rfl (lv_at hl 0 rfl) ?_
      refine lv_iload_n hx hb dX2_isLuckyNumber_17 rfl (lv_at hl 1 rfl) ?_
      refine lv_lload_n hx hb dX2_isLuckyNumber_18 rfl (lv_at hl 2 rfl) ?_
      obtain ⟨z_10, e_z_10⟩ : ∃ y : Int32, y = a2.toInt32 := ⟨_, rfl⟩
      refine lv_l2i (v := z_10) hx hb dX2_isLuckyNumber_19 e_z_10.symm ?_
      obtain ⟨q_z_10, b_z_10⟩ := ti_l2i e_z_10 b_a2 (by decide)
      refine vp_callSi (W.runV (As := [.int a1, .int z_10]) (rest := []) ⟨hx, hb, hml, hown, hts⟩ (kX2_isLucky l dC dI cu ln bs tk lw li fa lu cL nl fl a1 z_10 b_ln b_bs (rg_w b_tk (by decide) (by decide)) b_lw (by omega)) (cwV 2 hts gX2_isLuckyNumber__X2_isLucky_V67 rfl rfl rfl hd_yX2_isLucky ⟨lel 1 1 rfl, lel 22 22 rfl⟩) ⟨pw_fb, rcv_X2 hK hP (q0 := 0) rfl, (pw_use hP hK hN [0, 1] rfl [0] rfl)⟩ rfl rfl hl.1 rfl (lv_room (Nat.le_of_ble_eq_true rfl)) dX2_isLuckyNumber_20 ⟨lel 0 0 rfl, lel 0 0 rfl⟩) (fun r_11 h_r_11 => ?_)
      have b_r_11 := h_r_11
      have b_r_11 : (0 : Int) ≤ r_11.toInt ∧ r_11.toInt ≤ 1 := b_r_11
      refine lv_if_eq (tgt := 30) hx hb dX2_isLuckyNumber_23 (by decide) (fun c_12 => ?_) (fun c_12 => ?_)
      ·
        have n_c_12 : (r_11.toInt : Int) = 0 := c_eq rfl (by decide) c_12
        have b_r_11 : (0 : Int) ≤ r_11.toInt ∧ r_11.toInt ≤ 0 := r_eq1 b_r_11 (by decide : (0 : Int) ≤ (0 : Int32).toInt ∧ (0 : Int32).toInt ≤ 0) n_c_12 (by decide)
        refine lv_iconst (v := 0) hx hb dX2_isLuckyNumber_30 (by decide) ?_
        exact W.zret (v := 0) hx hb hr rfl (fun t ht hW => ⟨0, rfl, (rg_w (by decide : (0 : Int) ≤ (0 : Int32).toInt ∧ (0 : Int32).toInt ≤ 0) (by decide) (by decide)), ht⟩) t_nil dX2_isLuckyNumber_31
      ·
        have n_c_12 : (r_11.toInt : Int) ≠ 0 := c_ne rfl (by decide) c_12
        have b_r_11 : (1 : Int) ≤ r_11.toInt ∧ r_11.toInt ≤ 1 := r_ne1 b_r_11 (by decide : (0 : Int) ≤ (0 : Int32).toInt ∧ (0 : Int32).toInt ≤ 0) n_c_12 (by decide)
        refine lv_iconst (v := 1) hx hb dX2_isLuckyNumber_26 (by decide) ?_
        refine lv_goto (tgt := 31) hx hb dX2_isLuckyNumber_27 (by decide) ?_
        exact W.zret (v := 1) hx hb hr rfl (fun t ht hW => ⟨1, rfl, (rg_w (by decide : (1 : Int) ≤ (1 : Int32).toInt ∧ (1 : Int32).toInt ≤ 1) (by decide) (by decide)), ht⟩) t_nil dX2_isLuckyNumber_31
theorem dX2_tally_0 : decode cX2_tally 0 = .ok (.iconst 0, 1) := by decide +kernel
theorem dX2_tally_1 : decode cX2_tally 1 = .ok (.istore 4, 2) := by decide +kernel
theorem dX2_tally_3 : decode cX2_tally 3 = .ok (.iload_n 3, 1) := by decide +kernel
theorem dX2_tally_4 : decode cX2_tally 4 = .ok (.aload_n 0, 1) := by decide +kernel
theorem dX2_tally_5 : decode cX2_tally 5 = .ok (.getfield 42, 3) := by decide +kernel
theorem dX2_tally_8 : decode cX2_tally 8 = .ok (.invokestatic 78, 3) := by decide +kernel
theorem dX2_tally_11 : decode cX2_tally 11 = .ok (.istore 5, 2) := by decide +kernel
theorem dX2_tally_13 : decode cX2_tally 13 = .ok (.iload_n 2, 1) := by decide +kernel
theorem dX2_tally_14 : decode cX2_tally 14 = .ok (.iconst 0, 1) := by decide +kernel
theorem dX2_tally_15 : decode cX2_tally 15 = .ok (.invokestatic 83, 3) := by decide +kernel
theorem dX2_tally_18 : decode cX2_tally 18 = .ok (.istore 6, 2) := by decide +kernel
theorem dX2_tally_20 : decode cX2_tally 20 = .ok (.iload 6, 2) := by decide +kernel
theorem dX2_tally_22 : decode cX2_tally 22 = .ok (.iload 5, 2) := by decide +kernel
theorem dX2_tally_24 : decode cX2_tally 24 = .ok (.if_icmp .ge 25, 3) := by decide +kernel
theorem dX2_tally_27 : decode cX2_tally 27 = .ok (.iload 4, 2) := by decide +kernel
theorem dX2_tally_29 : decode cX2_tally 29 = .ok (.aload_n 0, 1) := by decide +kernel
theorem dX2_tally_30 : decode cX2_tally 30 = .ok (.getfield 15, 3) := by decide +kernel
theorem dX2_tally_33 : decode cX2_tally 33 = .ok (.iload 6, 2) := by decide +kernel
theorem dX2_tally_35 : decode cX2_tally 35 = .ok (.iaload, 1) := by decide +kernel
theorem dX2_tally_36 : decode cX2_tally 36 = .ok (.iload_n 1, 1) := by decide +kernel
theorem dX2_tally_37 : decode cX2_tally 37 = .ok (.iushr, 1) := by decide +kernel
theorem dX2_tally_38 : decode cX2_tally 38 = .ok (.iconst 1, 1) := by decide +kernel
theorem dX2_tally_39 : decode cX2_tally 39 = .ok (.iand, 1) := by decide +kernel
theorem dX2_tally_40 : decode cX2_tally 40 = .ok (.iadd, 1) := by decide +kernel
theorem dX2_tally_41 : decode cX2_tally 41 = .ok (.istore 4, 2) := by decide +kernel
theorem dX2_tally_43 : decode cX2_tally 43 = .ok (.iinc 6 1, 3) := by decide +kernel
theorem dX2_tally_46 : decode cX2_tally 46 = .ok (.goto (-26), 3) := by decide +kernel
theorem dX2_tally_49 : decode cX2_tally 49 = .ok (.iload 4, 2) := by decide +kernel
theorem dX2_tally_51 : decode cX2_tally 51 = .ok (.ireturn, 1) := by decide +kernel
theorem hd_yX2_tally : yX2_tally.cls = RX2 ∧ yX2_tally.cls ≠ "java/lang/invoke/MethodHandle" ∧ yX2_tally.cls ≠ "java/lang/invoke/VarHandle" ∧ (parseMethodDescriptor yX2_tally.desc).map (fun d => d.parameters.length) = some 3 := by decide +kernel
def uX2_tally : List Cond := List.cons (.code yX2_tally cX2_tally 7 (some .int)) (HAppend.hAppend ([.fieldLink RX2 42 "LuckyTicket$Roll" "tickets" "I", .methodLink RX2 78 yJ9_min_7cf53, .static yJ9_min_7cf53, .initialized RJ9, .code yJ9_min_7cf53 cJ9_min_7cf53 2 (some .int), .methodLink RX2 83 yJ9_max_7cf53, .static yJ9_max_7cf53, .code yJ9_max_7cf53 cJ9_max_7cf53 2 (some .int), .fieldLink RX2 15 "LuckyTicket$Roll" "luck" "[I"] : List Cond) wsX20)
theorem iX2_tally_X2 : ∀ w ∈ wsX20, w ∈ uX2_tally := fun _ h => (List.mem_cons_of_mem _ (List.mem_append_right _ h))
theorem guX2_tally : GU uX2_tally := gu_cons (gu_app (by decide +kernel) gws_X2)
set_option maxHeartbeats 4000000 in
set_option maxRecDepth 100000 in
theorem kX2_tally (l : Launch) (dC : Nat → ClassId) (dI : Nat → Nat → Nat) (cu : Nat) (ln : Int32) (bs : Int32) (tk : Int32) (lw : Int32) (li : Int32) (fa : Nat) (lu : Nat) (cL : ClassId) (nl : Nat) (fl : Nat → Int32) (a1 : Int32) (a2 : Int32) (a3 : Int32) (b_ln : (0 : Int) ≤ ln.toInt ∧ ln.toInt ≤ 12) (b_bs : (0 : Int) ≤ bs.toInt ∧ bs.toInt ≤ 16) (b_tk : (0 : Int) ≤ tk.toInt ∧ tk.toInt ≤ 20000) (b_lw : (0 : Int) ≤ lw.toInt ∧ lw.toInt ≤ 9) (hl1 : tk.toInt ≤ (nl : Int)) : Met l yX2_tally uX2_tally ({ frames := 1, cells := 0, slots := 0, locals := 13 }) (va_Pc [.ref cu, .int a1, .int a2, .int a3] (pw (dC, dI) vwCl [(cu, .inr (1, [.int ln, .int bs, .int tk, .int lw, .int li, .ref fa, .ref lu])), (lu, .inl (cL, nl, .inl fl))] [(cL, .int)])) (vp_Si (fun r => True)) 0 0 (fun _ => False) := by
  refine Met.ofW (cc := cX2_tally) (maxL := 7) (ret := (some .int)) pn_X2 rfl ?_
  intro p e s m args below meth c s₁ B hml hv
  obtain ⟨rfl, hP, hK, hN⟩ := hv
  have hx := B.exec
  have hb := B.bytes
  have hr := B.returns
  have hts := atoms_spec (ws := uX2_tally) B.pre
  have hown : s.vm.findClass RX2 = some m.cls := hown_of B.named rfl
  have hlocks := B.notSynchronized
  have hl := lv_entry ([.ref cu, .int a1, .int a2, .int a3]) (n := 7) (Nat.le_of_ble_eq_true rfl)
  rw [lg_entry_eq]
  generalize (lg_sl ([.ref cu, .int a1, .int a2, .int a3]) ++ List.replicate (7 - (lg_sl ([.ref cu, .int a1, .int a2, .int a3])).length) Slot.unset).toArray = ls at hl ⊢
  have hl : lv_has ls 7 [(0, .ref cu), (1, .int a1), (2, .int a2), (3, .int a3)] := hl
  refine lv_iconst (v := 0) hx hb dX2_tally_0 (by decide) ?_
  refine lv_istore (lv' := [(4, .int 0), (0, .ref cu), (1, .int a1), (2, .int a2), (3, .int a3)]) hx hb dX2_tally_1 hl (by decide) rfl (fun ls hl => ?_)
  refine lv_iload_n hx hb dX2_tally_3 rfl (lv_at hl 4 rfl) ?_
  refine lv_aload_n hx hb dX2_tally_4 rfl (lv_at hl 1 rfl) ?_
  refine va_get (D := (dC, dI)) (ci := 1) (v := .int tk) (C := RX2) (T := TX2) (N := 7) hx hb hts iX2_tally_X2 hown hK hP 0 rfl rfl 2 (by decide) (hts (.fieldLink RX2 42 "LuckyTicket$Roll" "tickets" "I") (List.mem_of_getElem? (i := 1) rfl)) (fun _ h9 => h9) rfl dX2_tally_5 ?_
  refine va_mmin hx hb (hml.trans hl.1.symm) hown (hts (.methodLink RX2 78 yJ9_min_7cf53) (List.mem_of_getElem? (i := 2) rfl)) (hts (.static yJ9_min_7cf53) (List.mem_of_getElem? (i := 3) rfl)) (hts (.initialized RJ9) (List.mem_of_getElem? (i := 4) rfl)) (hts (.code yJ9_min_7cf53 cJ9_min_7cf53 2 (some .int)) (List.mem_of_getElem? (i := 5) rfl)) (lel 1 1 rfl) (Nat.le_of_ble_eq_true rfl) (lel 0 0 rfl) (lel 0 0 rfl) dX2_tally_8 ?_
  refine lv_topi (fun z_107 e_z_107 => ?_)
  have q_z_107 := ti_min e_z_107 rfl rfl
  have b_z_107 : (-2147483648 : Int) ≤ z_107.toInt ∧ z_107.toInt ≤ 20000 := by
    have q0 := (ti_rng a3); have q1 := b_tk
    omega
  refine lv_istore (lv' := [(5, .int z_107), (4, .int 0), (0, .ref cu), (1, .int a1), (2, .int a2), (3, .int a3)]) hx hb dX2_tally_11 hl (by decide) rfl (fun ls hl => ?_)
  refine lv_iload_n hx hb dX2_tally_13 rfl (lv_at hl 4 rfl) ?_
  refine lv_iconst (v := 0) hx hb dX2_tally_14 (by decide) ?_
  refine va_mmax hx hb (hml.trans hl.1.symm) hown (hts (.methodLink RX2 83 yJ9_max_7cf53) (List.mem_of_getElem? (i := 6) rfl)) (hts (.static yJ9_max_7cf53) (List.mem_of_getElem? (i := 7) rfl)) (hts (.initialized RJ9) (List.mem_of_getElem? (i := 4) rfl)) (hts (.code yJ9_max_7cf53 cJ9_max_7cf53 2 (some .int)) (List.mem_of_getElem? (i := 8) rfl)) (lel 1 1 rfl) (Nat.le_of_ble_eq_true rfl) (lel 0 0 rfl) (lel 0 0 rfl) dX2_tally_15 ?_
  refine lv_topi (fun z_108 e_z_108 => ?_)
  have q_z_108 := ti_max e_z_108 rfl (by decide : (0 : Int32).toInt = 0)
  have b_z_108 : (0 : Int) ≤ z_108.toInt ∧ z_108.toInt ≤ 2147483647 := by
    have q0 := (ti_rng a2); have q1 := (by decide : (0 : Int) ≤ (0 : Int32).toInt ∧ (0 : Int32).toInt ≤ 0)
    have q2 := (by decide : (0 : Int32).toInt = 0)
    omega
  refine lv_istore (lv' := [(6, .int z_108), (5, .int z_107), (4, .int 0), (0, .ref cu), (1, .int a1), (2, .int a2), (3, .int a3)]) hx hb dX2_tally_18 hl (by decide) rfl (fun ls hl => ?_)
  refine loopP (σ := Int32 × Int32) (fun v => (2147483647 - v.1.toInt).toNat) (fun v ls => ((0 : Int) ≤ v.1.toInt ∧ v.1.toInt ≤ 2147483647) ∧ lv_has ls 7 [(6, .int v.1), (5, .int z_107), (4, .int v.2), (0, .ref cu), (1, .int a1), (2, .int a2), (3, .int a3)]) (fun v ls hI ih_20_206 => ?_) (z_108, (0 : Int32)) ⟨(show (0 : Int) ≤ z_108.toInt ∧ z_108.toInt ≤ 2147483647 from b_z_108), lv_sub hl [0, 1, 2, 3, 4, 5, 6] rfl⟩
  obtain ⟨y_115, y_116⟩ := v
  obtain ⟨b_y_115, hl⟩ := hI
  have b_y_115 : (0 : Int) ≤ y_115.toInt ∧ y_115.toInt ≤ 2147483647 := b_y_115
  have hl : lv_has ls 7 [(6, .int y_115), (5, .int z_107), (4, .int y_116), (0, .ref cu), (1, .int a1), (2, .int a2), (3, .int a3)] := hl
  refine lv_iload hx hb dX2_tally_20 (lv_at hl 0 rfl) ?_
  refine lv_iload hx hb dX2_tally_22 (lv_at hl 1 rfl) ?_
  refine lv_icmp_ge (tgt := 49) hx hb dX2_tally_24 (by decide) (fun c_207 => ?_) (fun c_207 => ?_)
  ·
    have n_c_207 : (z_107.toInt : Int) ≤ y_115.toInt := c_ge rfl rfl c_207
    refine lv_iload hx hb dX2_tally_49 (lv_at hl 2 rfl) ?_
    exact W.iret (v := y_116) hx hb hr (fun t ht hW => ⟨y_116, rfl, trivial, ht⟩) t_nil dX2_tally_51
  ·
    have n_c_207 : (y_115.toInt : Int) < z_107.toInt := c_nge rfl rfl c_207
    have b_y_115 : (0 : Int) ≤ y_115.toInt ∧ y_115.toInt ≤ 19999 := r_lt1 b_y_115 b_z_107 n_c_207 (by decide)
    have b_z_107 : (1 : Int) ≤ z_107.toInt ∧ z_107.toInt ≤ 20000 := r_lt2 b_y_115 b_z_107 n_c_207 (by decide)
    refine lv_iload hx hb dX2_tally_27 (lv_at hl 2 rfl) ?_
    refine lv_aload_n hx hb dX2_tally_29 rfl (lv_at hl 3 rfl) ?_
    refine va_get (D := (dC, dI)) (ci := 1) (v := .ref lu) (C := RX2) (T := TX2) (N := 7) hx hb hts iX2_tally_X2 hown hK hP 0 rfl rfl 6 (by decide) (hts (.fieldLink RX2 15 "LuckyTicket$Roll" "luck" "[I") (List.mem_of_getElem? (i := 9) rfl)) (fun _ h9 => h9) rfl dX2_tally_30 ?_
    refine lv_iload hx hb dX2_tally_33 (lv_at hl 0 rfl) ?_
    refine va_iald hx hb hK hP 1 0 rfl rfl (vp_in_iff.mpr ⟨by omega, by omega⟩) dX2_tally_35 ?_
    refine lv_topi (fun z_208 e_z_208 => ?_)
    refine lv_iload_n hx hb dX2_tally_36 rfl (lv_at hl 4 rfl) ?_
    obtain ⟨z_209, e_z_209⟩ : ∃ y : Int32, y = ((z_208 : Int32).toUInt32 >>> ((a1 : Int32).toUInt32 &&& Int32.toUInt32 31)).toInt32 := ⟨_, rfl⟩
    refine lv_iushr (v := z_209) hx hb dX2_tally_37 e_z_209.symm ?_
    refine lv_iconst (v := 1) hx hb dX2_tally_38 (by decide) ?_
    refine lv_iand hx hb dX2_tally_39 ?_
    refine lv_topi (fun z_210 e_z_210 => ?_)
    have b_z_210 : (0 : Int) ≤ z_210.toInt ∧ z_210.toInt ≤ 1 := ti_and (k := 1) e_z_210 (by decide) (by decide) (by decide)
    refine lv_iadd hx hb dX2_tally_40 ?_
    refine lv_topi (fun z_211 e_z_211 => ?_)
    refine lv_istore (lv' := [(4, .int z_211), (6, .int y_115), (5, .int z_107), (0, .ref cu), (1, .int a1), (2, .int a2), (3, .int a3)]) hx hb dX2_tally_41 hl (by decide) rfl (fun ls hl => ?_)
    obtain ⟨z_212, e_z_212⟩ : ∃ y : Int32, y = y_115 + 1 := ⟨_, rfl⟩
    refine lv_iinc (v := z_212) (lv' := [(6, .int z_212), (4, .int z_211), (5, .int z_107), (0, .ref cu), (1, .int a1), (2, .int a2), (3, .int a3)]) hx hb dX2_tally_43 hl (k := 1) rfl (by rw [e_z_212]; rfl) (by decide) rfl (fun ls hl => ?_)
    obtain ⟨q_z_212, b_z_212⟩ := ti_add (lo := 1) (hi := 20000) e_z_212 rfl (by decide : (1 : Int32).toInt = 1) b_y_115 (by decide : (1 : Int) ≤ (1 : Int32).toInt ∧ (1 : Int32).toInt ≤ 1) (by decide)
    refine lv_goto (tgt := 20) hx hb dX2_tally_46 (by decide) ?_
    exact ih_20_206 (z_212, z_211) _ ⟨(show (0 : Int) ≤ z_212.toInt ∧ z_212.toInt ≤ 2147483647 from (rg_w b_z_212 (by decide) (by decide))), lv_sub hl [0, 2, 1, 3, 4, 5, 6] rfl⟩ (show (2147483647 - z_212.toInt).toNat < (2147483647 - y_115.toInt).toNat by omega)
theorem dX2_total_0 : decode cX2_total 0 = .ok (.aload_n 0, 1) := by decide +kernel
theorem dX2_total_1 : decode cX2_total 1 = .ok (.iload_n 1, 1) := by decide +kernel
theorem dX2_total_2 : decode cX2_total 2 = .ok (.iconst 0, 1) := by decide +kernel
theorem dX2_total_3 : decode cX2_total 3 = .ok (.aload_n 0, 1) := by decide +kernel
theorem dX2_total_4 : decode cX2_total 4 = .ok (.getfield 42, 3) := by decide +kernel
theorem dX2_total_7 : decode cX2_total 7 = .ok (.invokevirtual 71, 3) := by decide +kernel
theorem dX2_total_10 : decode cX2_total 10 = .ok (.ireturn, 1) := by decide +kernel
theorem hd_yX2_total : yX2_total.cls = RX2 ∧ yX2_total.cls ≠ "java/lang/invoke/MethodHandle" ∧ yX2_total.cls ≠ "java/lang/invoke/VarHandle" ∧ (parseMethodDescriptor yX2_total.desc).map (fun d => d.parameters.length) = some 1 := by decide +kernel
def uX2_total : List Cond := List.cons (.code yX2_total cX2_total 2 (some .int)) (HAppend.hAppend ([.fieldLink RX2 42 "LuckyTicket$Roll" "tickets" "I", .methodLink RX2 71 yX2_tally, .instanceMethod yX2_tally, .selects RX2 yX2_tally yX2_tally, .initialized RX2] : List Cond) (HAppend.hAppend uX2_tally wsX20))
theorem iX2_total_X2 : ∀ w ∈ wsX20, w ∈ uX2_total := fun _ h => (List.mem_cons_of_mem _ (List.mem_append_right _ (List.mem_append_right _ h)))
theorem guX2_total : GU uX2_total := gu_cons (gu_app (by decide +kernel) (gu_ap guX2_tally gws_X2))
theorem gX2_total__X2_tally_V71 : GoodIn uX2_total (wsV RX2 71 RX2 yX2_tally uX2_tally) := gin_V (List.mem_of_getElem? (i := 2) rfl) (List.mem_of_getElem? (i := 3) rfl) (List.mem_of_getElem? (i := 4) rfl) (List.mem_of_getElem? (i := 5) rfl) (fun _ h => (List.mem_cons_of_mem _ (List.mem_append_right _ (List.mem_append_left _ h)))) guX2_tally
set_option maxHeartbeats 4000000 in
set_option maxRecDepth 100000 in
theorem kX2_total (l : Launch) (dC : Nat → ClassId) (dI : Nat → Nat → Nat) (cu : Nat) (ln : Int32) (bs : Int32) (tk : Int32) (lw : Int32) (li : Int32) (fa : Nat) (lu : Nat) (cL : ClassId) (nl : Nat) (fl : Nat → Int32) (a1 : Int32) (b_ln : (0 : Int) ≤ ln.toInt ∧ ln.toInt ≤ 12) (b_bs : (0 : Int) ≤ bs.toInt ∧ bs.toInt ≤ 16) (b_tk : (0 : Int) ≤ tk.toInt ∧ tk.toInt ≤ 20000) (b_lw : (0 : Int) ≤ lw.toInt ∧ lw.toInt ≤ 9) (hl1 : tk.toInt ≤ (nl : Int)) : Met l yX2_total uX2_total ({ frames := 2, cells := 0, slots := 0, locals := 39 }) (va_Pc [.ref cu, .int a1] (pw (dC, dI) vwCl [(cu, .inr (1, [.int ln, .int bs, .int tk, .int lw, .int li, .ref fa, .ref lu])), (lu, .inl (cL, nl, .inl fl))] [(cL, .int)])) (vp_Si (fun r => True)) 0 0 (fun _ => False) := by
  refine Met.ofW (cc := cX2_total) (maxL := 2) (ret := (some .int)) pn_X2 rfl ?_
  intro p e s m args below meth c s₁ B hml hv
  obtain ⟨rfl, hP, hK, hN⟩ := hv
  have hx := B.exec
  have hb := B.bytes
  have hr := B.returns
  have hts := atoms_spec (ws := uX2_total) B.pre
  have hown : s.vm.findClass RX2 = some m.cls := hown_of B.named rfl
  have hlocks := B.notSynchronized
  have hl := lv_entry ([.ref cu, .int a1]) (n := 2) (Nat.le_of_ble_eq_true rfl)
  rw [lg_entry_eq]
  generalize (lg_sl ([.ref cu, .int a1]) ++ List.replicate (2 - (lg_sl ([.ref cu, .int a1])).length) Slot.unset).toArray = ls at hl ⊢
  have hl : lv_has ls 2 [(0, .ref cu), (1, .int a1)] := hl
  refine lv_aload_n hx hb dX2_total_0 rfl (lv_at hl 0 rfl) ?_
  refine lv_iload_n hx hb dX2_total_1 rfl (lv_at hl 1 rfl) ?_
  refine lv_iconst (v := 0) hx hb dX2_total_2 (by decide) ?_
  refine lv_aload_n hx hb dX2_total_3 rfl (lv_at hl 0 rfl) ?_
  refine va_get (D := (dC, dI)) (ci := 1) (v := .int tk) (C := RX2) (T := TX2) (N := 7) hx hb hts iX2_total_X2 hown hK hP 0 rfl rfl 2 (by decide) (hts (.fieldLink RX2 42 "LuckyTicket$Roll" "tickets" "I") (List.mem_of_getElem? (i := 1) rfl)) (fun _ h9 => h9) rfl dX2_total_4 ?_
  refine vp_callSi (W.runV (As := [.int a1, .int 0, .int tk]) (rest := []) ⟨hx, hb, hml, hown, hts⟩ (kX2_tally l dC dI cu ln bs tk lw li fa lu cL nl fl a1 0 tk b_ln b_bs b_tk b_lw (by omega)) (cwV 3 hts gX2_total__X2_tally_V71 rfl rfl rfl hd_yX2_tally ⟨lel 2 2 rfl, lel 39 39 rfl⟩) ⟨pw_fb, rcv_X2 hK hP (q0 := 0) rfl, (pw_use hP hK hN [0, 1] rfl [0] rfl)⟩ rfl rfl hl.1 rfl (lv_room (Nat.le_of_ble_eq_true rfl)) dX2_total_7 ⟨lel 0 0 rfl, lel 0 0 rfl⟩) (fun r_2 h_r_2 => ?_)
  exact W.iret (v := r_2) hx hb hr (fun t ht hW => ⟨r_2, rfl, trivial, ht⟩) t_nil dX2_total_10
theorem dX2_totalByAny_0 : decode cX2_totalByAny 0 = .ok (.iconst 0, 1) := by decide +kernel
theorem dX2_totalByAny_1 : decode cX2_totalByAny 1 = .ok (.istore_n 1, 1) := by decide +kernel
theorem dX2_totalByAny_2 : decode cX2_totalByAny 2 = .ok (.iconst 0, 1) := by decide +kernel
theorem dX2_totalByAny_3 : decode cX2_totalByAny 3 = .ok (.istore_n 2, 1) := by decide +kernel
theorem dX2_totalByAny_4 : decode cX2_totalByAny 4 = .ok (.iload_n 2, 1) := by decide +kernel
theorem dX2_totalByAny_5 : decode cX2_totalByAny 5 = .ok (.aload_n 0, 1) := by decide +kernel
theorem dX2_totalByAny_6 : decode cX2_totalByAny 6 = .ok (.getfield 42, 3) := by decide +kernel
theorem dX2_totalByAny_9 : decode cX2_totalByAny 9 = .ok (.if_icmp .ge 20, 3) := by decide +kernel
theorem dX2_totalByAny_12 : decode cX2_totalByAny 12 = .ok (.aload_n 0, 1) := by decide +kernel
theorem dX2_totalByAny_13 : decode cX2_totalByAny 13 = .ok (.iload_n 2, 1) := by decide +kernel
theorem dX2_totalByAny_14 : decode cX2_totalByAny 14 = .ok (.invokevirtual 75, 3) := by decide +kernel
theorem dX2_totalByAny_17 : decode cX2_totalByAny 17 = .ok (.ifCond .eq 6, 3) := by decide +kernel
theorem dX2_totalByAny_20 : decode cX2_totalByAny 20 = .ok (.iinc 1 1, 3) := by decide +kernel
theorem dX2_totalByAny_23 : decode cX2_totalByAny 23 = .ok (.iinc 2 1, 3) := by decide +kernel
theorem dX2_totalByAny_26 : decode cX2_totalByAny 26 = .ok (.goto (-22), 3) := by decide +kernel
theorem dX2_totalByAny_29 : decode cX2_totalByAny 29 = .ok (.iload_n 1, 1) := by decide +kernel
theorem dX2_totalByAny_30 : decode cX2_totalByAny 30 = .ok (.ireturn, 1) := by decide +kernel
theorem hd_yX2_totalByAny : yX2_totalByAny.cls = RX2 ∧ yX2_totalByAny.cls ≠ "java/lang/invoke/MethodHandle" ∧ yX2_totalByAny.cls ≠ "java/lang/invoke/VarHandle" ∧ (parseMethodDescriptor yX2_totalByAny.desc).map (fun d => d.parameters.length) = some 0 := by decide +kernel
def uX2_totalByAny : List Cond := List.cons (.code yX2_totalByAny cX2_totalByAny 3 (some .int)) (HAppend.hAppend ([.fieldLink RX2 42 "LuckyTicket$Roll" "tickets" "I", .methodLink RX2 75 yX2_luckOf, .instanceMethod yX2_luckOf, .selects RX2 yX2_luckOf yX2_luckOf, .initialized RX2] : List Cond) (HAppend.hAppend uX2_luckOf wsX20))
theorem iX2_totalByAny_X2 : ∀ w ∈ wsX20, w ∈ uX2_totalByAny := fun _ h => (List.mem_cons_of_mem _ (List.mem_append_right _ (List.mem_append_right _ h)))
theorem guX2_totalByAny : GU uX2_totalByAny := gu_cons (gu_app (by decide +kernel) (gu_ap guX2_luckOf gws_X2))
theorem gX2_totalByAny__X2_luckOf_V75 : GoodIn uX2_totalByAny (wsV RX2 75 RX2 yX2_luckOf uX2_luckOf) := gin_V (List.mem_of_getElem? (i := 2) rfl) (List.mem_of_getElem? (i := 3) rfl) (List.mem_of_getElem? (i := 4) rfl) (List.mem_of_getElem? (i := 5) rfl) (fun _ h => (List.mem_cons_of_mem _ (List.mem_append_right _ (List.mem_append_left _ h)))) guX2_luckOf
set_option maxHeartbeats 4000000 in
set_option maxRecDepth 100000 in
theorem kX2_totalByAny (l : Launch) (dC : Nat → ClassId) (dI : Nat → Nat → Nat) (cu : Nat) (ln : Int32) (bs : Int32) (tk : Int32) (lw : Int32) (li : Int32) (fa : Nat) (lu : Nat) (cL : ClassId) (nl : Nat) (fl : Nat → Int32) (b_ln : (0 : Int) ≤ ln.toInt ∧ ln.toInt ≤ 12) (b_bs : (0 : Int) ≤ bs.toInt ∧ bs.toInt ≤ 16) (b_tk : (0 : Int) ≤ tk.toInt ∧ tk.toInt ≤ 20000) (b_lw : (0 : Int) ≤ lw.toInt ∧ lw.toInt ≤ 9) (hl1 : tk.toInt ≤ (nl : Int)) : Met l yX2_totalByAny uX2_totalByAny ({ frames := 2, cells := 0, slots := 0, locals := 42 }) (va_Pc [.ref cu] (pw (dC, dI) vwCl [(cu, .inr (1, [.int ln, .int bs, .int tk, .int lw, .int li, .ref fa, .ref lu])), (lu, .inl (cL, nl, .inl fl))] [(cL, .int)])) (vp_Si (fun r => True)) 0 0 (fun _ => False) := by
  refine Met.ofW (cc := cX2_totalByAny) (maxL := 3) (ret := (some .int)) pn_X2 rfl ?_
  intro p e s m args below meth c s₁ B hml hv
  obtain ⟨rfl, hP, hK, hN⟩ := hv
  have hx := B.exec
  have hb := B.bytes
  have hr := B.returns
  have hts := atoms_spec (ws := uX2_totalByAny) B.pre
  have hown : s.vm.findClass RX2 = some m.cls := hown_of B.named rfl
  have hlocks := B.notSynchronized
  have hl := lv_entry ([.ref cu]) (n := 3) (Nat.le_of_ble_eq_true rfl)
  rw [lg_entry_eq]
  generalize (lg_sl ([.ref cu]) ++ List.replicate (3 - (lg_sl ([.ref cu])).length) Slot.unset).toArray = ls at hl ⊢
  have hl : lv_has ls 3 [(0, .ref cu)] := hl
  refine lv_iconst (v := 0) hx hb dX2_totalByAny_0 (by decide) ?_
  refine lv_istore_n (lv' := [(1, .int 0), (0, .ref cu)]) hx hb dX2_totalByAny_1 rfl hl (by decide) rfl (fun ls hl => ?_)
  refine lv_iconst (v := 0) hx hb dX2_totalByAny_2 (by decide) ?_
  refine lv_istore_n (lv' := [(2, .int 0), (1, .int 0), (0, .ref cu)]) hx hb dX2_totalByAny_3 rfl hl (by decide) rfl (fun ls hl => ?_)
  refine loopP (σ := Int32 × Int32) (fun v => (20000 - v.1.toInt).toNat) (fun v ls => ((0 : Int) ≤ v.1.toInt ∧ v.1.toInt ≤ 20000) ∧ lv_has ls 3 [(2, .int v.1), (1, .int v.2), (0, .ref cu)]) (fun v ls hI ih_4_235 => ?_) ((0 : Int32), (0 : Int32)) ⟨(show (0 : Int) ≤ (0 : Int32).toInt ∧ (0 : Int32).toInt ≤ 20000 from (rg_w (by decide : (0 : Int) ≤ (0 : Int32).toInt ∧ (0 : Int32).toInt ≤ 0) (by decide) (by decide))), lv_sub hl [0, 1, 2] rfl⟩
  obtain ⟨y_129, y_130⟩ := v
  obtain ⟨b_y_129, hl⟩ := hI
  have b_y_129 : (0 : Int) ≤ y_129.toInt ∧ y_129.toInt ≤ 20000 := b_y_129
  have hl : lv_has ls 3 [(2, .int y_129), (1, .int y_130), (0, .ref cu)] := hl
  refine lv_iload_n hx hb dX2_totalByAny_4 rfl (lv_at hl 0 rfl) ?_
  refine lv_aload_n hx hb dX2_totalByAny_5 rfl (lv_at hl 2 rfl) ?_
  refine va_get (D := (dC, dI)) (ci := 1) (v := .int tk) (C := RX2) (T := TX2) (N := 7) hx hb hts iX2_totalByAny_X2 hown hK hP 0 rfl rfl 2 (by decide) (hts (.fieldLink RX2 42 "LuckyTicket$Roll" "tickets" "I") (List.mem_of_getElem? (i := 1) rfl)) (fun _ h9 => h9) rfl dX2_totalByAny_6 ?_
  refine lv_icmp_ge (tgt := 29) hx hb dX2_totalByAny_9 (by decide) (fun c_236 => ?_) (fun c_236 => ?_)
  ·
    have n_c_236 : (tk.toInt : Int) ≤ y_129.toInt := c_ge rfl rfl c_236
    refine lv_iload_n hx hb dX2_totalByAny_29 rfl (lv_at hl 1 rfl) ?_
    exact W.iret (v := y_130) hx hb hr (fun t ht hW => ⟨y_130, rfl, trivial, ht⟩) t_nil dX2_totalByAny_30
  ·
    have n_c_236 : (y_129.toInt : Int) < tk.toInt := c_nge rfl rfl c_236
    have b_y_129 : (0 : Int) ≤ y_129.toInt ∧ y_129.toInt ≤ 19999 := r_lt1 b_y_129 b_tk n_c_236 (by decide)
    have b_tk : (1 : Int) ≤ tk.toInt ∧ tk.toInt ≤ 20000 := r_lt2 b_y_129 b_tk n_c_236 (by decide)
    refine lv_aload_n hx hb dX2_totalByAny_12 rfl (lv_at hl 2 rfl) ?_
    refine lv_iload_n hx hb dX2_totalByAny_13 rfl (lv_at hl 0 rfl) ?_
    refine vp_callSi (W.runV (As := [.int y_129]) (rest := []) ⟨hx, hb, hml, hown, hts⟩ (kX2_luckOf l dC dI cu ln bs tk lw li fa lu cL nl fl y_129 b_ln b_bs (rg_w b_tk (by decide) (by decide)) b_lw (by omega)) (cwV 1 hts gX2_totalByAny__X2_luckOf_V75 rfl rfl rfl hd_yX2_luckOf ⟨lel 2 2 rfl, lel 42 42 rfl⟩) ⟨pw_fb, rcv_X2 hK hP (q0 := 0) rfl, (pw_use hP hK hN [0, 1] rfl [0] rfl)⟩ rfl rfl hl.1 rfl (lv_room (Nat.le_of_ble_eq_true rfl)) dX2_totalByAny_14 ⟨lel 0 0 rfl, lel 0 0 rfl⟩) (fun r_237 h_r_237 => ?_)
    refine cutP (σ := Int32) (pc2 := 23) (st2 := fun v => []) (cells2 := 0) (slots2 := 0) (fun v ls => lv_has ls 3 [(2, .int y_129), (1, .int v), (0, .ref cu)]) (fun v ls hI => ?_) (fun hj_23_240 => ?_)
    ·
      obtain ⟨y_240, rfl⟩ : ∃ z, z = v := ⟨_, rfl⟩
      have hl := hI
      have hl : lv_has ls 3 [(2, .int y_129), (1, .int y_240), (0, .ref cu)] := hl
      obtain ⟨z_241, e_z_241⟩ : ∃ y : Int32, y = y_129 + 1 := ⟨_, rfl⟩
      refine lv_iinc (v := z_241) (lv' := [(2, .int z_241), (1, .int y_240), (0, .ref cu)]) hx hb dX2_totalByAny_23 hl (k := 0) rfl (by rw [e_z_241]; rfl) (by decide) rfl (fun ls hl => ?_)
      obtain ⟨q_z_241, b_z_241⟩ := ti_add (lo := 1) (hi := 20000) e_z_241 rfl (by decide : (1 : Int32).toInt = 1) b_y_129 (by decide : (1 : Int) ≤ (1 : Int32).toInt ∧ (1 : Int32).toInt ≤ 1) (by decide)
      refine lv_goto (tgt := 4) hx hb dX2_totalByAny_26 (by decide) ?_
      exact ih_4_235 (z_241, y_240) _ ⟨(show (0 : Int) ≤ z_241.toInt ∧ z_241.toInt ≤ 20000 from (rg_w b_z_241 (by decide) (by decide))), lv_sub hl [0, 1, 2] rfl⟩ (show (20000 - z_241.toInt).toNat < (20000 - y_129.toInt).toNat by omega)
    ·
      refine lv_if_eq (tgt := 23) hx hb dX2_totalByAny_17 (by decide) (fun c_238 => ?_) (fun c_238 => ?_)
      ·
        have n_c_238 : (r_237.toInt : Int) = 0 := c_eq rfl (by decide) c_238
        have b_r_237 : (0 : Int) ≤ r_237.toInt ∧ r_237.toInt ≤ 0 := r_eq1 (ti_rng r_237) (by decide : (0 : Int) ≤ (0 : Int32).toInt ∧ (0 : Int32).toInt ≤ 0) n_c_238 (by decide)
        exact hj_23_240 y_130 _ (lv_sub hl [0, 1, 2] rfl)
      ·
        have n_c_238 : (r_237.toInt : Int) ≠ 0 := c_ne rfl (by decide) c_238
        obtain ⟨z_242, e_z_242⟩ : ∃ y : Int32, y = y_130 + 1 := ⟨_, rfl⟩
        refine lv_iinc (v := z_242) (lv' := [(1, .int z_242), (2, .int y_129), (0, .ref cu)]) hx hb dX2_totalByAny_20 hl (k := 1) rfl (by rw [e_z_242]; rfl) (by decide) rfl (fun ls hl => ?_)
        exact hj_23_240 z_242 _ (lv_sub hl [1, 0, 2] rfl)
theorem dX2_seekUp_0 : decode cX2_seekUp 0 = .ok (.iload_n 2, 1) := by decide +kernel
theorem dX2_seekUp_1 : decode cX2_seekUp 1 = .ok (.istore_n 3, 1) := by decide +kernel
theorem dX2_seekUp_2 : decode cX2_seekUp 2 = .ok (.iload_n 3, 1) := by decide +kernel
theorem dX2_seekUp_3 : decode cX2_seekUp 3 = .ok (.aload_n 0, 1) := by decide +kernel
theorem dX2_seekUp_4 : decode cX2_seekUp 4 = .ok (.getfield 42, 3) := by decide +kernel
theorem dX2_seekUp_7 : decode cX2_seekUp 7 = .ok (.if_icmp .ge 20, 3) := by decide +kernel
theorem dX2_seekUp_10 : decode cX2_seekUp 10 = .ok (.aload_n 0, 1) := by decide +kernel
theorem dX2_seekUp_11 : decode cX2_seekUp 11 = .ok (.iload_n 1, 1) := by decide +kernel
theorem dX2_seekUp_12 : decode cX2_seekUp 12 = .ok (.iload_n 3, 1) := by decide +kernel
theorem dX2_seekUp_13 : decode cX2_seekUp 13 = .ok (.invokevirtual 67, 3) := by decide +kernel
theorem dX2_seekUp_16 : decode cX2_seekUp 16 = .ok (.ifCond .eq 5, 3) := by decide +kernel
theorem dX2_seekUp_19 : decode cX2_seekUp 19 = .ok (.iload_n 3, 1) := by decide +kernel
theorem dX2_seekUp_20 : decode cX2_seekUp 20 = .ok (.ireturn, 1) := by decide +kernel
theorem dX2_seekUp_21 : decode cX2_seekUp 21 = .ok (.iinc 3 1, 3) := by decide +kernel
theorem dX2_seekUp_24 : decode cX2_seekUp 24 = .ok (.goto (-22), 3) := by decide +kernel
theorem dX2_seekUp_27 : decode cX2_seekUp 27 = .ok (.iconst (-1), 1) := by decide +kernel
theorem dX2_seekUp_28 : decode cX2_seekUp 28 = .ok (.ireturn, 1) := by decide +kernel
theorem hd_yX2_seekUp : yX2_seekUp.cls = RX2 ∧ yX2_seekUp.cls ≠ "java/lang/invoke/MethodHandle" ∧ yX2_seekUp.cls ≠ "java/lang/invoke/VarHandle" ∧ (parseMethodDescriptor yX2_seekUp.desc).map (fun d => d.parameters.length) = some 2 := by decide +kernel
def uX2_seekUp : List Cond := List.cons (.code yX2_seekUp cX2_seekUp 4 (some .int)) (HAppend.hAppend ([.fieldLink RX2 42 "LuckyTicket$Roll" "tickets" "I", .methodLink RX2 67 yX2_isLucky, .instanceMethod yX2_isLucky, .selects RX2 yX2_isLucky yX2_isLucky, .initialized RX2] : List Cond) (HAppend.hAppend uX2_isLucky wsX20))
theorem iX2_seekUp_X2 : ∀ w ∈ wsX20, w ∈ uX2_seekUp := fun _ h => (List.mem_cons_of_mem _ (List.mem_append_right _ (List.mem_append_right _ h)))
theorem guX2_seekUp : GU uX2_seekUp := gu_cons (gu_app (by decide +kernel) (gu_ap guX2_isLucky gws_X2))
theorem gX2_seekUp__X2_isLucky_V67 : GoodIn uX2_seekUp (wsV RX2 67 RX2 yX2_isLucky uX2_isLucky) := gin_V (List.mem_of_getElem? (i := 2) rfl) (List.mem_of_getElem? (i := 3) rfl) (List.mem_of_getElem? (i := 4) rfl) (List.mem_of_getElem? (i := 5) rfl) (fun _ h => (List.mem_cons_of_mem _ (List.mem_append_right _ (List.mem_append_left _ h)))) guX2_isLucky
set_option maxHeartbeats 4000000 in
set_option maxRecDepth 100000 in
theorem kX2_seekUp (l : Launch) (dC : Nat → ClassId) (dI : Nat → Nat → Nat) (cu : Nat) (ln : Int32) (bs : Int32) (tk : Int32) (lw : Int32) (li : Int32) (fa : Nat) (lu : Nat) (cL : ClassId) (nl : Nat) (fl : Nat → Int32) (a1 : Int32) (a2 : Int32) (b_ln : (0 : Int) ≤ ln.toInt ∧ ln.toInt ≤ 12) (b_bs : (0 : Int) ≤ bs.toInt ∧ bs.toInt ≤ 16) (b_tk : (0 : Int) ≤ tk.toInt ∧ tk.toInt ≤ 20000) (b_lw : (0 : Int) ≤ lw.toInt ∧ lw.toInt ≤ 9) (hl1 : tk.toInt ≤ (nl : Int)) : Met l yX2_seekUp uX2_seekUp ({ frames := 1, cells := 0, slots := 0, locals := 22 }) (va_Pc [.ref cu, .int a1, .int a2] (pw (dC, dI) vwCl [(cu, .inr (1, [.int ln, .int bs, .int tk, .int lw, .int li, .ref fa, .ref lu])), (lu, .inl (cL, nl, .inl fl))] [(cL, .int)])) (vp_Si (fun r => ((-2147483648 : Int) ≤ r.toInt ∧ r.toInt ≤ 19999))) 0 0 (fun _ => False) := by
  refine Met.ofW (cc := cX2_seekUp) (maxL := 4) (ret := (some .int)) pn_X2 rfl ?_
  intro p e s m args below meth c s₁ B hml hv
  obtain ⟨rfl, hP, hK, hN⟩ := hv
  have hx := B.exec
  have hb := B.bytes
  have hr := B.returns
  have hts := atoms_spec (ws := uX2_seekUp) B.pre
  have hown : s.vm.findClass RX2 = some m.cls := hown_of B.named rfl
  have hlocks := B.notSynchronized
  have hl := lv_entry ([.ref cu, .int a1, .int a2]) (n := 4) (Nat.le_of_ble_eq_true rfl)
  rw [lg_entry_eq]
  generalize (lg_sl ([.ref cu, .int a1, .int a2]) ++ List.replicate (4 - (lg_sl ([.ref cu, .int a1, .int a2])).length) Slot.unset).toArray = ls at hl ⊢
  have hl : lv_has ls 4 [(0, .ref cu), (1, .int a1), (2, .int a2)] := hl
  refine lv_iload_n hx hb dX2_seekUp_0 rfl (lv_at hl 2 rfl) ?_
  refine lv_istore_n (lv' := [(3, .int a2), (0, .ref cu), (1, .int a1), (2, .int a2)]) hx hb dX2_seekUp_1 rfl hl (by decide) rfl (fun ls hl => ?_)
  refine loopP (σ := Int32) (fun v => (tk.toInt - v.toInt).toNat) (fun v ls => lv_has ls 4 [(3, .int v), (0, .ref cu), (1, .int a1), (2, .int a2)]) (fun v ls hI ih_2_22 => ?_) a2 (lv_sub hl [0, 1, 2, 3] rfl)
  obtain ⟨y_18, rfl⟩ : ∃ z, z = v := ⟨_, rfl⟩
  have hl := hI
  have hl : lv_has ls 4 [(3, .int y_18), (0, .ref cu), (1, .int a1), (2, .int a2)] := hl
  refine lv_iload_n hx hb dX2_seekUp_2 rfl (lv_at hl 0 rfl) ?_
  refine lv_aload_n hx hb dX2_seekUp_3 rfl (lv_at hl 1 rfl) ?_
  refine va_get (D := (dC, dI)) (ci := 1) (v := .int tk) (C := RX2) (T := TX2) (N := 7) hx hb hts iX2_seekUp_X2 hown hK hP 0 rfl rfl 2 (by decide) (hts (.fieldLink RX2 42 "LuckyTicket$Roll" "tickets" "I") (List.mem_of_getElem? (i := 1) rfl)) (fun _ h9 => h9) rfl dX2_seekUp_4 ?_
  refine lv_icmp_ge (tgt := 27) hx hb dX2_seekUp_7 (by decide) (fun c_23 => ?_) (fun c_23 => ?_)
  ·
    have n_c_23 : (tk.toInt : Int) ≤ y_18.toInt := c_ge rfl rfl c_23
    have b_y_18 : (0 : Int) ≤ y_18.toInt ∧ y_18.toInt ≤ 2147483647 := r_le2 b_tk (ti_rng y_18) n_c_23 (by decide)
    refine lv_iconst (v := (-1)) hx hb dX2_seekUp_27 (by decide) ?_
    exact W.iret (v := (-1)) hx hb hr (fun t ht hW => ⟨(-1), rfl, (rg_w (by decide : (-1 : Int) ≤ ((-1) : Int32).toInt ∧ ((-1) : Int32).toInt ≤ -1) (by decide) (by decide)), ht⟩) t_nil dX2_seekUp_28
  ·
    have n_c_23 : (y_18.toInt : Int) < tk.toInt := c_nge rfl rfl c_23
    have b_y_18 : (-2147483648 : Int) ≤ y_18.toInt ∧ y_18.toInt ≤ 19999 := r_lt1 (ti_rng y_18) b_tk n_c_23 (by decide)
    refine lv_aload_n hx hb dX2_seekUp_10 rfl (lv_at hl 1 rfl) ?_
    refine lv_iload_n hx hb dX2_seekUp_11 rfl (lv_at hl 2 rfl) ?_
    refine lv_iload_n hx hb dX2_seekUp_12 rfl (lv_at hl 0 rfl) ?_
    refine vp_callSi (W.runV (As := [.int a1, .int y_18]) (rest := []) ⟨hx, hb, hml, hown, hts⟩ (kX2_isLucky l dC dI cu ln bs tk lw li fa lu cL nl fl a1 y_18 b_ln b_bs b_tk b_lw (by omega)) (cwV 2 hts gX2_seekUp__X2_isLucky_V67 rfl rfl rfl hd_yX2_isLucky ⟨lel 1 1 rfl, lel 22 22 rfl⟩) ⟨pw_fb, rcv_X2 hK hP (q0 := 0) rfl, (pw_use hP hK hN [0, 1] rfl [0] rfl)⟩ rfl rfl hl.1 rfl (lv_room (Nat.le_of_ble_eq_true rfl)) dX2_seekUp_13 ⟨lel 0 0 rfl, lel 0 0 rfl⟩) (fun r_24 h_r_24 => ?_)
    have b_r_24 := h_r_24
    have b_r_24 : (0 : Int) ≤ r_24.toInt ∧ r_24.toInt ≤ 1 := b_r_24
    refine lv_if_eq (tgt := 21) hx hb dX2_seekUp_16 (by decide) (fun c_25 => ?_) (fun c_25 => ?_)
    ·
      have n_c_25 : (r_24.toInt : Int) = 0 := c_eq rfl (by decide) c_25
      have b_r_24 : (0 : Int) ≤ r_24.toInt ∧ r_24.toInt ≤ 0 := r_eq1 b_r_24 (by decide : (0 : Int) ≤ (0 : Int32).toInt ∧ (0 : Int32).toInt ≤ 0) n_c_25 (by decide)
      obtain ⟨z_26, e_z_26⟩ : ∃ y : Int32, y = y_18 + 1 := ⟨_, rfl⟩
      refine lv_iinc (v := z_26) (lv' := [(3, .int z_26), (0, .ref cu), (1, .int a1), (2, .int a2)]) hx hb dX2_seekUp_21 hl (k := 0) rfl (by rw [e_z_26]; rfl) (by decide) rfl (fun ls hl => ?_)
      obtain ⟨q_z_26, b_z_26⟩ := ti_add (lo := -2147483647) (hi := 20000) e_z_26 rfl (by decide : (1 : Int32).toInt = 1) b_y_18 (by decide : (1 : Int) ≤ (1 : Int32).toInt ∧ (1 : Int32).toInt ≤ 1) (by decide)
      refine lv_goto (tgt := 2) hx hb dX2_seekUp_24 (by decide) ?_
      exact ih_2_22 z_26 _ (lv_sub hl [0, 1, 2, 3] rfl) (show (tk.toInt - z_26.toInt).toNat < (tk.toInt - y_18.toInt).toNat by omega)
    ·
      have n_c_25 : (r_24.toInt : Int) ≠ 0 := c_ne rfl (by decide) c_25
      have b_r_24 : (1 : Int) ≤ r_24.toInt ∧ r_24.toInt ≤ 1 := r_ne1 b_r_24 (by decide : (0 : Int) ≤ (0 : Int32).toInt ∧ (0 : Int32).toInt ≤ 0) n_c_25 (by decide)
      refine lv_iload_n hx hb dX2_seekUp_19 rfl (lv_at hl 0 rfl) ?_
      exact W.iret (v := y_18) hx hb hr (fun t ht hW => ⟨y_18, rfl, b_y_18, ht⟩) t_nil dX2_seekUp_20
theorem dX2_seekDown_0 : decode cX2_seekDown 0 = .ok (.iload_n 2, 1) := by decide +kernel
theorem dX2_seekDown_1 : decode cX2_seekDown 1 = .ok (.istore_n 3, 1) := by decide +kernel
theorem dX2_seekDown_2 : decode cX2_seekDown 2 = .ok (.iload_n 3, 1) := by decide +kernel
theorem dX2_seekDown_3 : decode cX2_seekDown 3 = .ok (.ifCond .lt 20, 3) := by decide +kernel
theorem dX2_seekDown_6 : decode cX2_seekDown 6 = .ok (.aload_n 0, 1) := by decide +kernel
theorem dX2_seekDown_7 : decode cX2_seekDown 7 = .ok (.iload_n 1, 1) := by decide +kernel
theorem dX2_seekDown_8 : decode cX2_seekDown 8 = .ok (.iload_n 3, 1) := by decide +kernel
theorem dX2_seekDown_9 : decode cX2_seekDown 9 = .ok (.invokevirtual 67, 3) := by decide +kernel
theorem dX2_seekDown_12 : decode cX2_seekDown 12 = .ok (.ifCond .eq 5, 3) := by decide +kernel
theorem dX2_seekDown_15 : decode cX2_seekDown 15 = .ok (.iload_n 3, 1) := by decide +kernel
theorem dX2_seekDown_16 : decode cX2_seekDown 16 = .ok (.ireturn, 1) := by decide +kernel
theorem dX2_seekDown_17 : decode cX2_seekDown 17 = .ok (.iinc 3 (-1), 3) := by decide +kernel
theorem dX2_seekDown_20 : decode cX2_seekDown 20 = .ok (.goto (-18), 3) := by decide +kernel
theorem dX2_seekDown_23 : decode cX2_seekDown 23 = .ok (.iconst (-1), 1) := by decide +kernel
theorem dX2_seekDown_24 : decode cX2_seekDown 24 = .ok (.ireturn, 1) := by decide +kernel
theorem hd_yX2_seekDown : yX2_seekDown.cls = RX2 ∧ yX2_seekDown.cls ≠ "java/lang/invoke/MethodHandle" ∧ yX2_seekDown.cls ≠ "java/lang/invoke/VarHandle" ∧ (parseMethodDescriptor yX2_seekDown.desc).map (fun d => d.parameters.length) = some 2 := by decide +kernel
def uX2_seekDown : List Cond := List.cons (.code yX2_seekDown cX2_seekDown 4 (some .int)) (HAppend.hAppend ([.methodLink RX2 67 yX2_isLucky, .instanceMethod yX2_isLucky, .selects RX2 yX2_isLucky yX2_isLucky, .initialized RX2] : List Cond) uX2_isLucky)
theorem guX2_seekDown : GU uX2_seekDown := gu_cons (gu_app (by decide +kernel) guX2_isLucky)
theorem gX2_seekDown__X2_isLucky_V67 : GoodIn uX2_seekDown (wsV RX2 67 RX2 yX2_isLucky uX2_isLucky) := gin_V (List.mem_of_getElem? (i := 1) rfl) (List.mem_of_getElem? (i := 2) rfl) (List.mem_of_getElem? (i := 3) rfl) (List.mem_of_getElem? (i := 4) rfl) (fun _ h => (List.mem_cons_of_mem _ (List.mem_append_right _ h))) guX2_isLucky
set_option maxHeartbeats 4000000 in
set_option maxRecDepth 100000 in
theorem kX2_seekDown (l : Launch) (dC : Nat → ClassId) (dI : Nat → Nat → Nat) (cu : Nat) (ln : Int32) (bs : Int32) (tk : Int32) (lw : Int32) (li : Int32) (fa : Nat) (lu : Nat) (cL : ClassId) (nl : Nat) (fl : Nat → Int32) (a1 : Int32) (a2 : Int32) (b_ln : (0 : Int) ≤ ln.toInt ∧ ln.toInt ≤ 12) (b_bs : (0 : Int) ≤ bs.toInt ∧ bs.toInt ≤ 16) (b_tk : (0 : Int) ≤ tk.toInt ∧ tk.toInt ≤ 20000) (b_lw : (0 : Int) ≤ lw.toInt ∧ lw.toInt ≤ 9) (hl1 : tk.toInt ≤ (nl : Int)) : Met l yX2_seekDown uX2_seekDown ({ frames := 1, cells := 0, slots := 0, locals := 22 }) (va_Pc [.ref cu, .int a1, .int a2] (pw (dC, dI) vwCl [(cu, .inr (1, [.int ln, .int bs, .int tk, .int lw, .int li, .ref fa, .ref lu])), (lu, .inl (cL, nl, .inl fl))] [(cL, .int)])) (vp_Si (fun r => ((-1 : Int) ≤ r.toInt ∧ r.toInt ≤ 2147483647))) 0 0 (fun _ => False) := by
  refine Met.ofW (cc := cX2_seekDown) (maxL := 4) (ret := (some .int)) pn_X2 rfl ?_
  intro p e s m args below meth c s₁ B hml hv
  obtain ⟨rfl, hP, hK, hN⟩ := hv
  have hx := B.exec
  have hb := B.bytes
  have hr := B.returns
  have hts := atoms_spec (ws := uX2_seekDown) B.pre
  have hown : s.vm.findClass RX2 = some m.cls := hown_of B.named rfl
  have hlocks := B.notSynchronized
  have hl := lv_entry ([.ref cu, .int a1, .int a2]) (n := 4) (Nat.le_of_ble_eq_true rfl)
  rw [lg_entry_eq]
  generalize (lg_sl ([.ref cu, .int a1, .int a2]) ++ List.replicate (4 - (lg_sl ([.ref cu, .int a1, .int a2])).length) Slot.unset).toArray = ls at hl ⊢
  have hl : lv_has ls 4 [(0, .ref cu), (1, .int a1), (2, .int a2)] := hl
  refine lv_iload_n hx hb dX2_seekDown_0 rfl (lv_at hl 2 rfl) ?_
  refine lv_istore_n (lv' := [(3, .int a2), (0, .ref cu), (1, .int a1), (2, .int a2)]) hx hb dX2_seekDown_1 rfl hl (by decide) rfl (fun ls hl => ?_)
  refine loopP (σ := Int32) (fun v => (v.toInt + 1).toNat) (fun v ls => lv_has ls 4 [(3, .int v), (0, .ref cu), (1, .int a1), (2, .int a2)]) (fun v ls hI ih_2_22 => ?_) a2 (lv_sub hl [0, 1, 2, 3] rfl)
  obtain ⟨y_18, rfl⟩ : ∃ z, z = v := ⟨_, rfl⟩
  have hl := hI
  have hl : lv_has ls 4 [(3, .int y_18), (0, .ref cu), (1, .int a1), (2, .int a2)] := hl
  refine lv_iload_n hx hb dX2_seekDown_2 rfl (lv_at hl 0 rfl) ?_
  refine lv_if_lt (tgt := 23) hx hb dX2_seekDown_3 (by decide) (fun c_23 => ?_) (fun c_23 => ?_)
  ·
    have n_c_23 : (y_18.toInt : Int) < 0 := c_lt rfl (by decide) c_23
    have b_y_18 : (-2147483648 : Int) ≤ y_18.toInt ∧ y_18.toInt ≤ -1 := r_lt1 (ti_rng y_18) (by decide : (0 : Int) ≤ (0 : Int32).toInt ∧ (0 : Int32).toInt ≤ 0) n_c_23 (by decide)
    refine lv_iconst (v := (-1)) hx hb dX2_seekDown_23 (by decide) ?_
    exact W.iret (v := (-1)) hx hb hr (fun t ht hW => ⟨(-1), rfl, (rg_w (by decide : (-1 : Int) ≤ ((-1) : Int32).toInt ∧ ((-1) : Int32).toInt ≤ -1) (by decide) (by decide)), ht⟩) t_nil dX2_seekDown_24
  ·
    have n_c_23 : (0 : Int) ≤ y_18.toInt := c_nlt rfl (by decide) c_23
    have b_y_18 : (0 : Int) ≤ y_18.toInt ∧ y_18.toInt ≤ 2147483647 := r_le2 (by decide : (0 : Int) ≤ (0 : Int32).toInt ∧ (0 : Int32).toInt ≤ 0) (ti_rng y_18) n_c_23 (by decide)
    refine lv_aload_n hx hb dX2_seekDown_6 rfl (lv_at hl 1 rfl) ?_
    refine lv_iload_n hx hb dX2_seekDown_7 rfl (lv_at hl 2 rfl) ?_
    refine lv_iload_n hx hb dX2_seekDown_8 rfl (lv_at hl 0 rfl) ?_
    refine vp_callSi (W.runV (As := [.int a1, .int y_18]) (rest := []) ⟨hx, hb, hml, hown, hts⟩ (kX2_isLucky l dC dI cu ln bs tk lw li fa lu cL nl fl a1 y_18 b_ln b_bs b_tk b_lw (by omega)) (cwV 2 hts gX2_seekDown__X2_isLucky_V67 rfl rfl rfl hd_yX2_isLucky ⟨lel 1 1 rfl, lel 22 22 rfl⟩) ⟨pw_fb, rcv_X2 hK hP (q0 := 0) rfl, (pw_use hP hK hN [0, 1] rfl [0] rfl)⟩ rfl rfl hl.1 rfl (lv_room (Nat.le_of_ble_eq_true rfl)) dX2_seekDown_9 ⟨lel 0 0 rfl, lel 0 0 rfl⟩) (fun r_24 h_r_24 => ?_)
    have b_r_24 := h_r_24
    have b_r_24 : (0 : Int) ≤ r_24.toInt ∧ r_24.toInt ≤ 1 := b_r_24
    refine lv_if_eq (tgt := 17) hx hb dX2_seekDown_12 (by decide) (fun c_25 => ?_) (fun c_25 => ?_)
    ·
      have n_c_25 : (r_24.toInt : Int) = 0 := c_eq rfl (by decide) c_25
      have b_r_24 : (0 : Int) ≤ r_24.toInt ∧ r_24.toInt ≤ 0 := r_eq1 b_r_24 (by decide : (0 : Int) ≤ (0 : Int32).toInt ∧ (0 : Int32).toInt ≤ 0) n_c_25 (by decide)
      obtain ⟨z_26, e_z_26⟩ : ∃ y : Int32, y = y_18 + (-1) := ⟨_, rfl⟩
      refine lv_iinc (v := z_26) (lv' := [(3, .int z_26), (0, .ref cu), (1, .int a1), (2, .int a2)]) hx hb dX2_seekDown_17 hl (k := 0) rfl (by rw [e_z_26]; rfl) (by decide) rfl (fun ls hl => ?_)
      obtain ⟨q_z_26, b_z_26⟩ := ti_add (lo := -1) (hi := 2147483646) e_z_26 rfl (by decide : ((-1) : Int32).toInt = -1) b_y_18 (by decide : (-1 : Int) ≤ ((-1) : Int32).toInt ∧ ((-1) : Int32).toInt ≤ -1) (by decide)
      refine lv_goto (tgt := 2) hx hb dX2_seekDown_20 (by decide) ?_
      exact ih_2_22 z_26 _ (lv_sub hl [0, 1, 2, 3] rfl) (show (z_26.toInt + 1).toNat < (y_18.toInt + 1).toNat by omega)
    ·
      have n_c_25 : (r_24.toInt : Int) ≠ 0 := c_ne rfl (by decide) c_25
      have b_r_24 : (1 : Int) ≤ r_24.toInt ∧ r_24.toInt ≤ 1 := r_ne1 b_r_24 (by decide : (0 : Int) ≤ (0 : Int32).toInt ∧ (0 : Int32).toInt ≤ 0) n_c_25 (by decide)
      refine lv_iload_n hx hb dX2_seekDown_15 rfl (lv_at hl 0 rfl) ?_
      exact W.iret (v := y_18) hx hb hr (fun t ht hW => ⟨y_18, rfl, (rg_w b_y_18 (by decide) (by decide)), ht⟩) t_nil dX2_seekDown_16
theorem dX2_pick_0 : decode cX2_pick 0 = .ok (.iload_n 2, 1) := by decide +kernel
theorem dX2_pick_1 : decode cX2_pick 1 = .ok (.istore_n 3, 1) := by decide +kernel
theorem dX2_pick_2 : decode cX2_pick 2 = .ok (.iconst 0, 1) := by decide +kernel
theorem dX2_pick_3 : decode cX2_pick 3 = .ok (.istore 4, 2) := by decide +kernel
theorem dX2_pick_5 : decode cX2_pick 5 = .ok (.iload 4, 2) := by decide +kernel
theorem dX2_pick_7 : decode cX2_pick 7 = .ok (.aload_n 0, 1) := by decide +kernel
theorem dX2_pick_8 : decode cX2_pick 8 = .ok (.getfield 42, 3) := by decide +kernel
theorem dX2_pick_11 : decode cX2_pick 11 = .ok (.if_icmp .ge 33, 3) := by decide +kernel
theorem dX2_pick_14 : decode cX2_pick 14 = .ok (.iload_n 3, 1) := by decide +kernel
theorem dX2_pick_15 : decode cX2_pick 15 = .ok (.ifCond .lt 29, 3) := by decide +kernel
theorem dX2_pick_18 : decode cX2_pick 18 = .ok (.aload_n 0, 1) := by decide +kernel
theorem dX2_pick_19 : decode cX2_pick 19 = .ok (.iload_n 1, 1) := by decide +kernel
theorem dX2_pick_20 : decode cX2_pick 20 = .ok (.iload 4, 2) := by decide +kernel
theorem dX2_pick_22 : decode cX2_pick 22 = .ok (.invokevirtual 67, 3) := by decide +kernel
theorem dX2_pick_25 : decode cX2_pick 25 = .ok (.ifCond .eq 13, 3) := by decide +kernel
theorem dX2_pick_28 : decode cX2_pick 28 = .ok (.iload_n 3, 1) := by decide +kernel
theorem dX2_pick_29 : decode cX2_pick 29 = .ok (.ifCond .ne 6, 3) := by decide +kernel
theorem dX2_pick_32 : decode cX2_pick 32 = .ok (.iload 4, 2) := by decide +kernel
theorem dX2_pick_34 : decode cX2_pick 34 = .ok (.ireturn, 1) := by decide +kernel
theorem dX2_pick_35 : decode cX2_pick 35 = .ok (.iinc 3 (-1), 3) := by decide +kernel
theorem dX2_pick_38 : decode cX2_pick 38 = .ok (.iinc 4 1, 3) := by decide +kernel
theorem dX2_pick_41 : decode cX2_pick 41 = .ok (.goto (-36), 3) := by decide +kernel
theorem dX2_pick_44 : decode cX2_pick 44 = .ok (.iconst (-1), 1) := by decide +kernel
theorem dX2_pick_45 : decode cX2_pick 45 = .ok (.ireturn, 1) := by decide +kernel
theorem hd_yX2_pick : yX2_pick.cls = RX2 ∧ yX2_pick.cls ≠ "java/lang/invoke/MethodHandle" ∧ yX2_pick.cls ≠ "java/lang/invoke/VarHandle" ∧ (parseMethodDescriptor yX2_pick.desc).map (fun d => d.parameters.length) = some 2 := by decide +kernel
def uX2_pick : List Cond := List.cons (.code yX2_pick cX2_pick 5 (some .int)) (HAppend.hAppend ([.fieldLink RX2 42 "LuckyTicket$Roll" "tickets" "I", .methodLink RX2 67 yX2_isLucky, .instanceMethod yX2_isLucky, .selects RX2 yX2_isLucky yX2_isLucky, .initialized RX2] : List Cond) (HAppend.hAppend uX2_isLucky wsX20))
theorem iX2_pick_X2 : ∀ w ∈ wsX20, w ∈ uX2_pick := fun _ h => (List.mem_cons_of_mem _ (List.mem_append_right _ (List.mem_append_right _ h)))
theorem guX2_pick : GU uX2_pick := gu_cons (gu_app (by decide +kernel) (gu_ap guX2_isLucky gws_X2))
theorem gX2_pick__X2_isLucky_V67 : GoodIn uX2_pick (wsV RX2 67 RX2 yX2_isLucky uX2_isLucky) := gin_V (List.mem_of_getElem? (i := 2) rfl) (List.mem_of_getElem? (i := 3) rfl) (List.mem_of_getElem? (i := 4) rfl) (List.mem_of_getElem? (i := 5) rfl) (fun _ h => (List.mem_cons_of_mem _ (List.mem_append_right _ (List.mem_append_left _ h)))) guX2_isLucky
set_option maxHeartbeats 4000000 in
set_option maxRecDepth 100000 in
theorem kX2_pick (l : Launch) (dC : Nat → ClassId) (dI : Nat → Nat → Nat) (cu : Nat) (ln : Int32) (bs : Int32) (tk : Int32) (lw : Int32) (li : Int32) (fa : Nat) (lu : Nat) (cL : ClassId) (nl : Nat) (fl : Nat → Int32) (a1 : Int32) (a2 : Int32) (b_ln : (0 : Int) ≤ ln.toInt ∧ ln.toInt ≤ 12) (b_bs : (0 : Int) ≤ bs.toInt ∧ bs.toInt ≤ 16) (b_tk : (0 : Int) ≤ tk.toInt ∧ tk.toInt ≤ 20000) (b_lw : (0 : Int) ≤ lw.toInt ∧ lw.toInt ≤ 9) (hl1 : tk.toInt ≤ (nl : Int)) : Met l yX2_pick uX2_pick ({ frames := 1, cells := 0, slots := 0, locals := 22 }) (va_Pc [.ref cu, .int a1, .int a2] (pw (dC, dI) vwCl [(cu, .inr (1, [.int ln, .int bs, .int tk, .int lw, .int li, .ref fa, .ref lu])), (lu, .inl (cL, nl, .inl fl))] [(cL, .int)])) (vp_Si (fun r => ((-1 : Int) ≤ r.toInt ∧ r.toInt ≤ 19999))) 0 0 (fun _ => False) := by
  refine Met.ofW (cc := cX2_pick) (maxL := 5) (ret := (some .int)) pn_X2 rfl ?_
  intro p e s m args below meth c s₁ B hml hv
  obtain ⟨rfl, hP, hK, hN⟩ := hv
  have hx := B.exec
  have hb := B.bytes
  have hr := B.returns
  have hts := atoms_spec (ws := uX2_pick) B.pre
  have hown : s.vm.findClass RX2 = some m.cls := hown_of B.named rfl
  have hlocks := B.notSynchronized
  have hl := lv_entry ([.ref cu, .int a1, .int a2]) (n := 5) (Nat.le_of_ble_eq_true rfl)
  rw [lg_entry_eq]
  generalize (lg_sl ([.ref cu, .int a1, .int a2]) ++ List.replicate (5 - (lg_sl ([.ref cu, .int a1, .int a2])).length) Slot.unset).toArray = ls at hl ⊢
  have hl : lv_has ls 5 [(0, .ref cu), (1, .int a1), (2, .int a2)] := hl
  refine lv_iload_n hx hb dX2_pick_0 rfl (lv_at hl 2 rfl) ?_
  refine lv_istore_n (lv' := [(3, .int a2), (0, .ref cu), (1, .int a1), (2, .int a2)]) hx hb dX2_pick_1 rfl hl (by decide) rfl (fun ls hl => ?_)
  refine lv_iconst (v := 0) hx hb dX2_pick_2 (by decide) ?_
  refine lv_istore (lv' := [(4, .int 0), (3, .int a2), (0, .ref cu), (1, .int a1), (2, .int a2)]) hx hb dX2_pick_3 hl (by decide) rfl (fun ls hl => ?_)
  refine loopP (σ := Int32 × Int32) (fun v => (20000 - v.1.toInt).toNat) (fun v ls => ((0 : Int) ≤ v.1.toInt ∧ v.1.toInt ≤ 20000) ∧ lv_has ls 5 [(4, .int v.1), (3, .int v.2), (0, .ref cu), (1, .int a1), (2, .int a2)]) (fun v ls hI ih_5_204 => ?_) ((0 : Int32), a2) ⟨(show (0 : Int) ≤ (0 : Int32).toInt ∧ (0 : Int32).toInt ≤ 20000 from (rg_w (by decide : (0 : Int) ≤ (0 : Int32).toInt ∧ (0 : Int32).toInt ≤ 0) (by decide) (by decide))), lv_sub hl [0, 1, 2, 3, 4] rfl⟩
  obtain ⟨y_115, y_116⟩ := v
  obtain ⟨b_y_115, hl⟩ := hI
  have b_y_115 : (0 : Int) ≤ y_115.toInt ∧ y_115.toInt ≤ 20000 := b_y_115
  have hl : lv_has ls 5 [(4, .int y_115), (3, .int y_116), (0, .ref cu), (1, .int a1), (2, .int a2)] := hl
  refine lv_iload hx hb dX2_pick_5 (lv_at hl 0 rfl) ?_
  refine lv_aload_n hx hb dX2_pick_7 rfl (lv_at hl 2 rfl) ?_
  refine va_get (D := (dC, dI)) (ci := 1) (v := .int tk) (C := RX2) (T := TX2) (N := 7) hx hb hts iX2_pick_X2 hown hK hP 0 rfl rfl 2 (by decide) (hts (.fieldLink RX2 42 "LuckyTicket$Roll" "tickets" "I") (List.mem_of_getElem? (i := 1) rfl)) (fun _ h9 => h9) rfl dX2_pick_8 ?_
  refine lv_icmp_ge (tgt := 44) hx hb dX2_pick_11 (by decide) (fun c_205 => ?_) (fun c_205 => ?_)
  ·
    have n_c_205 : (tk.toInt : Int) ≤ y_115.toInt := c_ge rfl rfl c_205
    refine lv_iconst (v := (-1)) hx hb dX2_pick_44 (by decide) ?_
    exact W.iret (v := (-1)) hx hb hr (fun t ht hW => ⟨(-1), rfl, (rg_w (by decide : (-1 : Int) ≤ ((-1) : Int32).toInt ∧ ((-1) : Int32).toInt ≤ -1) (by decide) (by decide)), ht⟩) t_nil dX2_pick_45
  ·
    have n_c_205 : (y_115.toInt : Int) < tk.toInt := c_nge rfl rfl c_205
    have b_y_115 : (0 : Int) ≤ y_115.toInt ∧ y_115.toInt ≤ 19999 := r_lt1 b_y_115 b_tk n_c_205 (by decide)
    have b_tk : (1 : Int) ≤ tk.toInt ∧ tk.toInt ≤ 20000 := r_lt2 b_y_115 b_tk n_c_205 (by decide)
    refine lv_iload_n hx hb dX2_pick_14 rfl (lv_at hl 1 rfl) ?_
    refine lv_if_lt (tgt := 44) hx hb dX2_pick_15 (by decide) (fun c_206 => ?_) (fun c_206 => ?_)
    ·
      have n_c_206 : (y_116.toInt : Int) < 0 := c_lt rfl (by decide) c_206
      have b_y_116 : (-2147483648 : Int) ≤ y_116.toInt ∧ y_116.toInt ≤ -1 := r_lt1 (ti_rng y_116) (by decide : (0 : Int) ≤ (0 : Int32).toInt ∧ (0 : Int32).toInt ≤ 0) n_c_206 (by decide)
      refine lv_iconst (v := (-1)) hx hb dX2_pick_44 (by decide) ?_
      exact W.iret (v := (-1)) hx hb hr (fun t ht hW => ⟨(-1), rfl, (rg_w (by decide : (-1 : Int) ≤ ((-1) : Int32).toInt ∧ ((-1) : Int32).toInt ≤ -1) (by decide) (by decide)), ht⟩) t_nil dX2_pick_45
    ·
      have n_c_206 : (0 : Int) ≤ y_116.toInt := c_nlt rfl (by decide) c_206
      have b_y_116 : (0 : Int) ≤ y_116.toInt ∧ y_116.toInt ≤ 2147483647 := r_le2 (by decide : (0 : Int) ≤ (0 : Int32).toInt ∧ (0 : Int32).toInt ≤ 0) (ti_rng y_116) n_c_206 (by decide)
      refine lv_aload_n hx hb dX2_pick_18 rfl (lv_at hl 2 rfl) ?_
      refine lv_iload_n hx hb dX2_pick_19 rfl (lv_at hl 3 rfl) ?_
      refine lv_iload hx hb dX2_pick_20 (lv_at hl 0 rfl) ?_
      refine vp_callSi (W.runV (As := [.int a1, .int y_115]) (rest := []) ⟨hx, hb, hml, hown, hts⟩ (kX2_isLucky l dC dI cu ln bs tk lw li fa lu cL nl fl a1 y_115 b_ln b_bs (rg_w b_tk (by decide) (by decide)) b_lw (by omega)) (cwV 2 hts gX2_pick__X2_isLucky_V67 rfl rfl rfl hd_yX2_isLucky ⟨lel 1 1 rfl, lel 22 22 rfl⟩) ⟨pw_fb, rcv_X2 hK hP (q0 := 0) rfl, (pw_use hP hK hN [0, 1] rfl [0] rfl)⟩ rfl rfl hl.1 rfl (lv_room (Nat.le_of_ble_eq_true rfl)) dX2_pick_22 ⟨lel 0 0 rfl, lel 0 0 rfl⟩) (fun r_207 h_r_207 => ?_)
      have b_r_207 := h_r_207
      have b_r_207 : (0 : Int) ≤ r_207.toInt ∧ r_207.toInt ≤ 1 := b_r_207
      refine lv_if_eq (tgt := 38) hx hb dX2_pick_25 (by decide) (fun c_208 => ?_) (fun c_208 => ?_)
      ·
        have n_c_208 : (r_207.toInt : Int) = 0 := c_eq rfl (by decide) c_208
        have b_r_207 : (0 : Int) ≤ r_207.toInt ∧ r_207.toInt ≤ 0 := r_eq1 b_r_207 (by decide : (0 : Int) ≤ (0 : Int32).toInt ∧ (0 : Int32).toInt ≤ 0) n_c_208 (by decide)
        obtain ⟨z_209, e_z_209⟩ : ∃ y : Int32, y = y_115 + 1 := ⟨_, rfl⟩
        refine lv_iinc (v := z_209) (lv' := [(4, .int z_209), (3, .int y_116), (0, .ref cu), (1, .int a1), (2, .int a2)]) hx hb dX2_pick_38 hl (k := 0) rfl (by rw [e_z_209]; rfl) (by decide) rfl (fun ls hl => ?_)
        obtain ⟨q_z_209, b_z_209⟩ := ti_add (lo := 1) (hi := 20000) e_z_209 rfl (by decide : (1 : Int32).toInt = 1) b_y_115 (by decide : (1 : Int) ≤ (1 : Int32).toInt ∧ (1 : Int32).toInt ≤ 1) (by decide)
        refine lv_goto (tgt := 5) hx hb dX2_pick_41 (by decide) ?_
        exact ih_5_204 (z_209, y_116) _ ⟨(show (0 : Int) ≤ z_209.toInt ∧ z_209.toInt ≤ 20000 from (rg_w b_z_209 (by decide) (by decide))), lv_sub hl [0, 1, 2, 3, 4] rfl⟩ (show (20000 - z_209.toInt).toNat < (20000 - y_115.toInt).toNat by omega)
      ·
        have n_c_208 : (r_207.toInt : Int) ≠ 0 := c_ne rfl (by decide) c_208
        have b_r_207 : (1 : Int) ≤ r_207.toInt ∧ r_207.toInt ≤ 1 := r_ne1 b_r_207 (by decide : (0 : Int) ≤ (0 : Int32).toInt ∧ (0 : Int32).toInt ≤ 0) n_c_208 (by decide)
        refine lv_iload_n hx hb dX2_pick_28 rfl (lv_at hl 1 rfl) ?_
        refine lv_if_ne (tgt := 35) hx hb dX2_pick_29 (by decide) (fun c_210 => ?_) (fun c_210 => ?_)
        ·
          have n_c_210 : (y_116.toInt : Int) ≠ 0 := c_ne rfl (by decide) c_210
          have b_y_116 : (1 : Int) ≤ y_116.toInt ∧ y_116.toInt ≤ 2147483647 := r_ne1 b_y_116 (by decide : (0 : Int) ≤ (0 : Int32).toInt ∧ (0 : Int32).toInt ≤ 0) n_c_210 (by decide)
          obtain ⟨z_211, e_z_211⟩ : ∃ y : Int32, y = y_116 + (-1) := ⟨_, rfl⟩
          refine lv_iinc (v := z_211) (lv' := [(3, .int z_211), (4, .int y_115), (0, .ref cu), (1, .int a1), (2, .int a2)]) hx hb dX2_pick_35 hl (k := 1) rfl (by rw [e_z_211]; rfl) (by decide) rfl (fun ls hl => ?_)
          obtain ⟨q_z_211, b_z_211⟩ := ti_add (lo := 0) (hi := 2147483646) e_z_211 rfl (by decide : ((-1) : Int32).toInt = -1) b_y_116 (by decide : (-1 : Int) ≤ ((-1) : Int32).toInt ∧ ((-1) : Int32).toInt ≤ -1) (by decide)
          obtain ⟨z_212, e_z_212⟩ : ∃ y : Int32, y = y_115 + 1 := ⟨_, rfl⟩
          refine lv_iinc (v := z_212) (lv' := [(4, .int z_212), (3, .int z_211), (0, .ref cu), (1, .int a1), (2, .int a2)]) hx hb dX2_pick_38 hl (k := 1) rfl (by rw [e_z_212]; rfl) (by decide) rfl (fun ls hl => ?_)
          obtain ⟨q_z_212, b_z_212⟩ := ti_add (lo := 1) (hi := 20000) e_z_212 rfl (by decide : (1 : Int32).toInt = 1) b_y_115 (by decide : (1 : Int) ≤ (1 : Int32).toInt ∧ (1 : Int32).toInt ≤ 1) (by decide)
          refine lv_goto (tgt := 5) hx hb dX2_pick_41 (by decide) ?_
          exact ih_5_204 (z_212, z_211) _ ⟨(show (0 : Int) ≤ z_212.toInt ∧ z_212.toInt ≤ 20000 from (rg_w b_z_212 (by decide) (by decide))), lv_sub hl [0, 1, 2, 3, 4] rfl⟩ (show (20000 - z_212.toInt).toNat < (20000 - y_115.toInt).toNat by omega)
        ·
          have n_c_210 : (y_116.toInt : Int) = 0 := c_eq rfl (by decide) c_210
          have b_y_116 : (0 : Int) ≤ y_116.toInt ∧ y_116.toInt ≤ 0 := r_eq1 b_y_116 (by decide : (0 : Int) ≤ (0 : Int32).toInt ∧ (0 : Int32).toInt ≤ 0) n_c_210 (by decide)
          refine lv_iload hx hb dX2_pick_32 (lv_at hl 0 rfl) ?_
          exact W.iret (v := y_115) hx hb hr (fun t ht hW => ⟨y_115, rfl, (rg_w b_y_115 (by decide) (by decide)), ht⟩) t_nil dX2_pick_34
theorem dX2_onward_0 : decode cX2_onward 0 = .ok (.aload_n 0, 1) := by decide +kernel
theorem dX2_onward_1 : decode cX2_onward 1 = .ok (.getfield 42, 3) := by decide +kernel
theorem dX2_onward_4 : decode cX2_onward 4 = .ok (.iconst 1, 1) := by decide +kernel
theorem dX2_onward_5 : decode cX2_onward 5 = .ok (.if_icmp .ge 7, 3) := by decide +kernel
theorem dX2_onward_8 : decode cX2_onward 8 = .ok (.iconst 0, 1) := by decide +kernel
theorem dX2_onward_9 : decode cX2_onward 9 = .ok (.goto 11, 3) := by decide +kernel
theorem dX2_onward_12 : decode cX2_onward 12 = .ok (.iload_n 1, 1) := by decide +kernel
theorem dX2_onward_13 : decode cX2_onward 13 = .ok (.iload_n 2, 1) := by decide +kernel
theorem dX2_onward_14 : decode cX2_onward 14 = .ok (.iadd, 1) := by decide +kernel
theorem dX2_onward_15 : decode cX2_onward 15 = .ok (.aload_n 0, 1) := by decide +kernel
theorem dX2_onward_16 : decode cX2_onward 16 = .ok (.getfield 42, 3) := by decide +kernel
theorem dX2_onward_19 : decode cX2_onward 19 = .ok (.irem, 1) := by decide +kernel
theorem dX2_onward_20 : decode cX2_onward 20 = .ok (.ireturn, 1) := by decide +kernel
theorem hd_yX2_onward : yX2_onward.cls = RX2 ∧ yX2_onward.cls ≠ "java/lang/invoke/MethodHandle" ∧ yX2_onward.cls ≠ "java/lang/invoke/VarHandle" ∧ (parseMethodDescriptor yX2_onward.desc).map (fun d => d.parameters.length) = some 2 := by decide +kernel
def uX2_onward : List Cond := List.cons (.code yX2_onward cX2_onward 3 (some .int)) (HAppend.hAppend ([.fieldLink RX2 42 "LuckyTicket$Roll" "tickets" "I"] : List Cond) wsX20)
theorem iX2_onward_X2 : ∀ w ∈ wsX20, w ∈ uX2_onward := fun _ h => (List.mem_cons_of_mem _ (List.mem_append_right _ h))
theorem guX2_onward : GU uX2_onward := gu_cons (gu_app (by decide +kernel) gws_X2)
set_option maxHeartbeats 4000000 in
set_option maxRecDepth 100000 in
theorem kX2_onward (l : Launch) (dC : Nat → ClassId) (dI : Nat → Nat → Nat) (cu : Nat) (ln : Int32) (bs : Int32) (tk : Int32) (lw : Int32) (li : Int32) (fa : Nat) (lu : Nat) (a1 : Int32) (a2 : Int32) (b_ln : (0 : Int) ≤ ln.toInt ∧ ln.toInt ≤ 12) (b_bs : (0 : Int) ≤ bs.toInt ∧ bs.toInt ≤ 16) (b_tk : (0 : Int) ≤ tk.toInt ∧ tk.toInt ≤ 20000) (b_lw : (0 : Int) ≤ lw.toInt ∧ lw.toInt ≤ 9) : Met l yX2_onward uX2_onward ({ frames := 0, cells := 0, slots := 0, locals := 0 }) (va_Pc [.ref cu, .int a1, .int a2] (pw (dC, dI) vwCl [(cu, .inr (1, [.int ln, .int bs, .int tk, .int lw, .int li, .ref fa, .ref lu]))] [])) (vp_Si (fun r => True)) 0 0 (fun _ => False) := by
  refine Met.ofW (cc := cX2_onward) (maxL := 3) (ret := (some .int)) pn_X2 rfl ?_
  intro p e s m args below meth c s₁ B hml hv
  obtain ⟨rfl, hP, hK, hN⟩ := hv
  have hx := B.exec
  have hb := B.bytes
  have hr := B.returns
  have hts := atoms_spec (ws := uX2_onward) B.pre
  have hown : s.vm.findClass RX2 = some m.cls := hown_of B.named rfl
  have hlocks := B.notSynchronized
  have hl := lv_entry ([.ref cu, .int a1, .int a2]) (n := 3) (Nat.le_of_ble_eq_true rfl)
  rw [lg_entry_eq]
  generalize (lg_sl ([.ref cu, .int a1, .int a2]) ++ List.replicate (3 - (lg_sl ([.ref cu, .int a1, .int a2])).length) Slot.unset).toArray = ls at hl ⊢
  have hl : lv_has ls 3 [(0, .ref cu), (1, .int a1), (2, .int a2)] := hl
  refine lv_aload_n hx hb dX2_onward_0 rfl (lv_at hl 0 rfl) ?_
  refine va_get (D := (dC, dI)) (ci := 1) (v := .int tk) (C := RX2) (T := TX2) (N := 7) hx hb hts iX2_onward_X2 hown hK hP 0 rfl rfl 2 (by decide) (hts (.fieldLink RX2 42 "LuckyTicket$Roll" "tickets" "I") (List.mem_of_getElem? (i := 1) rfl)) (fun _ h9 => h9) rfl dX2_onward_1 ?_
  refine lv_iconst (v := 1) hx hb dX2_onward_4 (by decide) ?_
  refine lv_icmp_ge (tgt := 12) hx hb dX2_onward_5 (by decide) (fun c_4 => ?_) (fun c_4 => ?_)
  ·
    have n_c_4 : (1 : Int) ≤ tk.toInt := c_ge rfl (by decide) c_4
    have b_tk : (1 : Int) ≤ tk.toInt ∧ tk.toInt ≤ 20000 := r_le2 (by decide : (1 : Int) ≤ (1 : Int32).toInt ∧ (1 : Int32).toInt ≤ 1) b_tk n_c_4 (by decide)
    refine lv_iload_n hx hb dX2_onward_12 rfl (lv_at hl 1 rfl) ?_
    refine lv_iload_n hx hb dX2_onward_13 rfl (lv_at hl 2 rfl) ?_
    refine lv_iadd hx hb dX2_onward_14 ?_
    refine lv_topi (fun z_5 e_z_5 => ?_)
    refine lv_aload_n hx hb dX2_onward_15 rfl (lv_at hl 0 rfl) ?_
    refine va_get (D := (dC, dI)) (ci := 1) (v := .int tk) (C := RX2) (T := TX2) (N := 7) hx hb hts iX2_onward_X2 hown hK hP 0 rfl rfl 2 (by decide) (hts (.fieldLink RX2 42 "LuckyTicket$Roll" "tickets" "I") (List.mem_of_getElem? (i := 1) rfl)) (fun _ h9 => h9) rfl dX2_onward_16 ?_
    refine lv_irem hx hb dX2_onward_19 (ti_ne b_tk (by decide)) ?_
    refine lv_topi (fun z_6 e_z_6 => ?_)
    exact W.iret (v := z_6) hx hb hr (fun t ht hW => ⟨z_6, rfl, trivial, ht⟩) t_nil dX2_onward_20
  ·
    have n_c_4 : (tk.toInt : Int) < 1 := c_nge rfl (by decide) c_4
    have b_tk : (0 : Int) ≤ tk.toInt ∧ tk.toInt ≤ 0 := r_lt1 b_tk (by decide : (1 : Int) ≤ (1 : Int32).toInt ∧ (1 : Int32).toInt ≤ 1) n_c_4 (by decide)
    refine lv_iconst (v := 0) hx hb dX2_onward_8 (by decide) ?_
    refine lv_goto (tgt := 20) hx hb dX2_onward_9 (by decide) ?_
    exact W.iret (v := 0) hx hb hr (fun t ht hW => ⟨0, rfl, trivial, ht⟩) t_nil dX2_onward_20
theorem dX2_tallyBySteps_0 : decode cX2_tallyBySteps 0 = .ok (.iconst 0, 1) := by decide +kernel
theorem dX2_tallyBySteps_1 : decode cX2_tallyBySteps 1 = .ok (.istore 5, 2) := by decide +kernel
theorem dX2_tallyBySteps_3 : decode cX2_tallyBySteps 3 = .ok (.iload_n 2, 1) := by decide +kernel
theorem dX2_tallyBySteps_4 : decode cX2_tallyBySteps 4 = .ok (.istore 6, 2) := by decide +kernel
theorem dX2_tallyBySteps_6 : decode cX2_tallyBySteps 6 = .ok (.iconst 0, 1) := by decide +kernel
theorem dX2_tallyBySteps_7 : decode cX2_tallyBySteps 7 = .ok (.istore 7, 2) := by decide +kernel
theorem dX2_tallyBySteps_9 : decode cX2_tallyBySteps 9 = .ok (.iload 7, 2) := by decide +kernel
theorem dX2_tallyBySteps_11 : decode cX2_tallyBySteps 11 = .ok (.iload 4, 2) := by decide +kernel
theorem dX2_tallyBySteps_13 : decode cX2_tallyBySteps 13 = .ok (.if_icmp .ge 43, 3) := by decide +kernel
theorem dX2_tallyBySteps_16 : decode cX2_tallyBySteps 16 = .ok (.aload_n 0, 1) := by decide +kernel
theorem dX2_tallyBySteps_17 : decode cX2_tallyBySteps 17 = .ok (.iload 6, 2) := by decide +kernel
theorem dX2_tallyBySteps_19 : decode cX2_tallyBySteps 19 = .ok (.invokevirtual 63, 3) := by decide +kernel
theorem dX2_tallyBySteps_22 : decode cX2_tallyBySteps 22 = .ok (.ifCond .eq 34, 3) := by decide +kernel
theorem dX2_tallyBySteps_25 : decode cX2_tallyBySteps 25 = .ok (.iload 5, 2) := by decide +kernel
theorem dX2_tallyBySteps_27 : decode cX2_tallyBySteps 27 = .ok (.aload_n 0, 1) := by decide +kernel
theorem dX2_tallyBySteps_28 : decode cX2_tallyBySteps 28 = .ok (.getfield 15, 3) := by decide +kernel
theorem dX2_tallyBySteps_31 : decode cX2_tallyBySteps 31 = .ok (.iload 6, 2) := by decide +kernel
theorem dX2_tallyBySteps_33 : decode cX2_tallyBySteps 33 = .ok (.iaload, 1) := by decide +kernel
theorem dX2_tallyBySteps_34 : decode cX2_tallyBySteps 34 = .ok (.iload_n 1, 1) := by decide +kernel
theorem dX2_tallyBySteps_35 : decode cX2_tallyBySteps 35 = .ok (.iushr, 1) := by decide +kernel
theorem dX2_tallyBySteps_36 : decode cX2_tallyBySteps 36 = .ok (.iconst 1, 1) := by decide +kernel
theorem dX2_tallyBySteps_37 : decode cX2_tallyBySteps 37 = .ok (.iand, 1) := by decide +kernel
theorem dX2_tallyBySteps_38 : decode cX2_tallyBySteps 38 = .ok (.iadd, 1) := by decide +kernel
theorem dX2_tallyBySteps_39 : decode cX2_tallyBySteps 39 = .ok (.istore 5, 2) := by decide +kernel
theorem dX2_tallyBySteps_41 : decode cX2_tallyBySteps 41 = .ok (.aload_n 0, 1) := by decide +kernel
theorem dX2_tallyBySteps_42 : decode cX2_tallyBySteps 42 = .ok (.iload 6, 2) := by decide +kernel
theorem dX2_tallyBySteps_44 : decode cX2_tallyBySteps 44 = .ok (.iload_n 3, 1) := by decide +kernel
theorem dX2_tallyBySteps_45 : decode cX2_tallyBySteps 45 = .ok (.invokevirtual 86, 3) := by decide +kernel
theorem dX2_tallyBySteps_48 : decode cX2_tallyBySteps 48 = .ok (.istore 6, 2) := by decide +kernel
theorem dX2_tallyBySteps_50 : decode cX2_tallyBySteps 50 = .ok (.iinc 7 1, 3) := by decide +kernel
theorem dX2_tallyBySteps_53 : decode cX2_tallyBySteps 53 = .ok (.goto (-44), 3) := by decide +kernel
theorem dX2_tallyBySteps_56 : decode cX2_tallyBySteps 56 = .ok (.iload 5, 2) := by decide +kernel
theorem dX2_tallyBySteps_58 : decode cX2_tallyBySteps 58 = .ok (.ireturn, 1) := by decide +kernel
theorem hd_yX2_tallyBySteps : yX2_tallyBySteps.cls = RX2 ∧ yX2_tallyBySteps.cls ≠ "java/lang/invoke/MethodHandle" ∧ yX2_tallyBySteps.cls ≠ "java/lang/invoke/VarHandle" ∧ (parseMethodDescriptor yX2_tallyBySteps.desc).map (fun d => d.parameters.length) = some 4 := by decide +kernel
def uX2_tallyBySteps : List Cond := List.cons (.code yX2_tallyBySteps cX2_tallyBySteps 8 (some .int)) (HAppend.hAppend ([.methodLink RX2 63 yX2_hasTicket, .instanceMethod yX2_hasTicket, .selects RX2 yX2_hasTicket yX2_hasTicket, .initialized RX2, .fieldLink RX2 15 "LuckyTicket$Roll" "luck" "[I", .methodLink RX2 86 yX2_onward, .instanceMethod yX2_onward, .selects RX2 yX2_onward yX2_onward] : List Cond) (HAppend.hAppend uX2_hasTicket (HAppend.hAppend uX2_onward wsX20)))
theorem iX2_tallyBySteps_X2 : ∀ w ∈ wsX20, w ∈ uX2_tallyBySteps := fun _ h => (List.mem_cons_of_mem _ (List.mem_append_right _ (List.mem_append_right _ (List.mem_append_right _ h))))
theorem guX2_tallyBySteps : GU uX2_tallyBySteps := gu_cons (gu_app (by decide +kernel) (gu_ap guX2_hasTicket (gu_ap guX2_onward gws_X2)))
theorem gX2_tallyBySteps__X2_hasTicket_V63 : GoodIn uX2_tallyBySteps (wsV RX2 63 RX2 yX2_hasTicket uX2_hasTicket) := gin_V (List.mem_of_getElem? (i := 1) rfl) (List.mem_of_getElem? (i := 2) rfl) (List.mem_of_getElem? (i := 3) rfl) (List.mem_of_getElem? (i := 4) rfl) (fun _ h => (List.mem_cons_of_mem _ (List.mem_append_right _ (List.mem_append_left _ h)))) guX2_hasTicket
theorem gX2_tallyBySteps__X2_onward_V86 : GoodIn uX2_tallyBySteps (wsV RX2 86 RX2 yX2_onward uX2_onward) := gin_V (List.mem_of_getElem? (i := 6) rfl) (List.mem_of_getElem? (i := 7) rfl) (List.mem_of_getElem? (i := 8) rfl) (List.mem_of_getElem? (i := 4) rfl) (fun _ h => (List.mem_cons_of_mem _ (List.mem_append_right _ (List.mem_append_right _ (List.mem_append_left _ h))))) guX2_onward
set_option maxHeartbeats 4000000 in
set_option maxRecDepth 100000 in
theorem kX2_tallyBySteps (l : Launch) (dC : Nat → ClassId) (dI : Nat → Nat → Nat) (cu : Nat) (ln : Int32) (bs : Int32) (tk : Int32) (lw : Int32) (li : Int32) (fa : Nat) (lu : Nat) (cL : ClassId) (nl : Nat) (fl : Nat → Int32) (a1 : Int32) (a2 : Int32) (a3 : Int32) (a4 : Int32) (b_ln : (0 : Int) ≤ ln.toInt ∧ ln.toInt ≤ 12) (b_bs : (0 : Int) ≤ bs.toInt ∧ bs.toInt ≤ 16) (b_tk : (0 : Int) ≤ tk.toInt ∧ tk.toInt ≤ 20000) (b_lw : (0 : Int) ≤ lw.toInt ∧ lw.toInt ≤ 9) (hl1 : tk.toInt ≤ (nl : Int)) : Met l yX2_tallyBySteps uX2_tallyBySteps ({ frames := 1, cells := 0, slots := 0, locals := 22 }) (va_Pc [.ref cu, .int a1, .int a2, .int a3, .int a4] (pw (dC, dI) vwCl [(cu, .inr (1, [.int ln, .int bs, .int tk, .int lw, .int li, .ref fa, .ref lu])), (lu, .inl (cL, nl, .inl fl))] [(cL, .int)])) (vp_Si (fun r => True)) 0 0 (fun _ => False) := by
  refine Met.ofW (cc := cX2_tallyBySteps) (maxL := 8) (ret := (some .int)) pn_X2 rfl ?_
  intro p e s m args below meth c s₁ B hml hv
  obtain ⟨rfl, hP, hK, hN⟩ := hv
  have hx := B.exec
  have hb := B.bytes
  have hr := B.returns
  have hts := atoms_spec (ws := uX2_tallyBySteps) B.pre
  have hown : s.vm.findClass RX2 = some m.cls := hown_of B.named rfl
  have hlocks := B.notSynchronized
  have hl := lv_entry ([.ref cu, .int a1, .int a2, .int a3, .int a4]) (n := 8) (Nat.le_of_ble_eq_true rfl)
  rw [lg_entry_eq]
  generalize (lg_sl ([.ref cu, .int a1, .int a2, .int a3, .int a4]) ++ List.replicate (8 - (lg_sl ([.ref cu, .int a1, .int a2, .int a3, .int a4])).length) Slot.unset).toArray = ls at hl ⊢
  have hl : lv_has ls 8 [(0, .ref cu), (1, .int a1), (2, .int a2), (3, .int a3), (4, .int a4)] := hl
  refine lv_iconst (v := 0) hx hb dX2_tallyBySteps_0 (by decide) ?_
  refine lv_istore (lv' := [(5, .int 0), (0, .ref cu), (1, .int a1), (2, .int a2), (3, .int a3), (4, .int a4)]) hx hb dX2_tallyBySteps_1 hl (by decide) rfl (fun ls hl => ?_)
  refine lv_iload_n hx hb dX2_tallyBySteps_3 rfl (lv_at hl 3 rfl) ?_
  refine lv_istore (lv' := [(6, .int a2), (5, .int 0), (0, .ref cu), (1, .int a1), (2, .int a2), (3, .int a3), (4, .int a4)]) hx hb dX2_tallyBySteps_4 hl (by decide) rfl (fun ls hl => ?_)
  refine lv_iconst (v := 0) hx hb dX2_tallyBySteps_6 (by decide) ?_
  refine lv_istore (lv' := [(7, .int 0), (6, .int a2), (5, .int 0), (0, .ref cu), (1, .int a1), (2, .int a2), (3, .int a3), (4, .int a4)]) hx hb dX2_tallyBySteps_7 hl (by decide) rfl (fun ls hl => ?_)
  refine loopP (σ := Int32 × Int32 × Int32) (fun v => (2147483647 - v.1.toInt).toNat) (fun v ls => ((0 : Int) ≤ v.1.toInt ∧ v.1.toInt ≤ 2147483647) ∧ lv_has ls 8 [(7, .int v.1), (6, .int v.2.1), (5, .int v.2.2), (0, .ref cu), (1, .int a1), (2, .int a2), (3, .int a3), (4, .int a4)]) (fun v ls hI ih_9_336 => ?_) ((0 : Int32), a2, (0 : Int32)) ⟨(show (0 : Int) ≤ (0 : Int32).toInt ∧ (0 : Int32).toInt ≤ 2147483647 from (rg_w (by decide : (0 : Int) ≤ (0 : Int32).toInt ∧ (0 : Int32).toInt ≤ 0) (by decide) (by decide))), lv_sub hl [0, 1, 2, 3, 4, 5, 6, 7] rfl⟩
  obtain ⟨y_184, y_185, y_186⟩ := v
  obtain ⟨b_y_184, hl⟩ := hI
  have b_y_184 : (0 : Int) ≤ y_184.toInt ∧ y_184.toInt ≤ 2147483647 := b_y_184
  have hl : lv_has ls 8 [(7, .int y_184), (6, .int y_185), (5, .int y_186), (0, .ref cu), (1, .int a1), (2, .int a2), (3, .int a3), (4, .int a4)] := hl
  refine lv_iload hx hb dX2_tallyBySteps_9 (lv_at hl 0 rfl) ?_
  refine lv_iload hx hb dX2_tallyBySteps_11 (lv_at hl 7 rfl) ?_
  refine lv_icmp_ge (tgt := 56) hx hb dX2_tallyBySteps_13 (by decide) (fun c_337 => ?_) (fun c_337 => ?_)
  ·
    have n_c_337 : (a4.toInt : Int) ≤ y_184.toInt := c_ge rfl rfl c_337
    refine lv_iload hx hb dX2_tallyBySteps_56 (lv_at hl 2 rfl) ?_
    exact W.iret (v := y_186) hx hb hr (fun t ht hW => ⟨y_186, rfl, trivial, ht⟩) t_nil dX2_tallyBySteps_58
  ·
    have n_c_337 : (y_184.toInt : Int) < a4.toInt := c_nge rfl rfl c_337
    have b_y_184 : (0 : Int) ≤ y_184.toInt ∧ y_184.toInt ≤ 2147483646 := r_lt1 b_y_184 (ti_rng a4) n_c_337 (by decide)
    have b_a4 : (1 : Int) ≤ a4.toInt ∧ a4.toInt ≤ 2147483647 := r_lt2 b_y_184 (ti_rng a4) n_c_337 (by decide)
    refine lv_aload_n hx hb dX2_tallyBySteps_16 rfl (lv_at hl 3 rfl) ?_
    refine lv_iload hx hb dX2_tallyBySteps_17 (lv_at hl 1 rfl) ?_
    refine vp_callSi (W.runV (As := [.int y_185]) (rest := []) ⟨hx, hb, hml, hown, hts⟩ (kX2_hasTicket l dC dI cu ln bs tk lw li fa lu y_185 b_ln b_bs b_tk b_lw) (cwV 1 hts gX2_tallyBySteps__X2_hasTicket_V63 rfl rfl rfl hd_yX2_hasTicket ⟨lel 1 1 rfl, lel 21 22 rfl⟩) ⟨pw_fb, rcv_X2 hK hP (q0 := 0) rfl, (pw_use hP hK hN [0] rfl [] rfl)⟩ rfl rfl hl.1 rfl (lv_room (Nat.le_of_ble_eq_true rfl)) dX2_tallyBySteps_19 ⟨lel 0 0 rfl, lel 0 0 rfl⟩) (fun r_338 h_r_338 => ?_)
    obtain ⟨b_r_338, nz_r_338⟩ := h_r_338
    have b_r_338 : (0 : Int) ≤ r_338.toInt ∧ r_338.toInt ≤ 1 := b_r_338
    refine lv_if_eq (tgt := 56) hx hb dX2_tallyBySteps_22 (by decide) (fun c_339 => ?_) (fun c_339 => ?_)
    ·
      have n_c_339 : (r_338.toInt : Int) = 0 := c_eq rfl (by decide) c_339
      have b_r_338 : (0 : Int) ≤ r_338.toInt ∧ r_338.toInt ≤ 0 := r_eq1 b_r_338 (by decide : (0 : Int) ≤ (0 : Int32).toInt ∧ (0 : Int32).toInt ≤ 0) n_c_339 (by decide)
      refine lv_iload hx hb dX2_tallyBySteps_56 (lv_at hl 2 rfl) ?_
      exact W.iret (v := y_186) hx hb hr (fun t ht hW => ⟨y_186, rfl, trivial, ht⟩) t_nil dX2_tallyBySteps_58
    ·
      have n_c_339 : (r_338.toInt : Int) ≠ 0 := c_ne rfl (by decide) c_339
      have b_r_338 : (1 : Int) ≤ r_338.toInt ∧ r_338.toInt ≤ 1 := r_ne1 b_r_338 (by decide : (0 : Int) ≤ (0 : Int32).toInt ∧ (0 : Int32).toInt ≤ 0) n_c_339 (by decide)
      obtain ⟨b_y_185, g_340⟩ := nz_r_338 c_339
      refine lv_iload hx hb dX2_tallyBySteps_25 (lv_at hl 2 rfl) ?_
      refine lv_aload_n hx hb dX2_tallyBySteps_27 rfl (lv_at hl 3 rfl) ?_
      refine va_get (D := (dC, dI)) (ci := 1) (v := .ref lu) (C := RX2) (T := TX2) (N := 7) hx hb hts iX2_tallyBySteps_X2 hown hK hP 0 rfl rfl 6 (by decide) (hts (.fieldLink RX2 15 "LuckyTicket$Roll" "luck" "[I") (List.mem_of_getElem? (i := 5) rfl)) (fun _ h9 => h9) rfl dX2_tallyBySteps_28 ?_
      refine lv_iload hx hb dX2_tallyBySteps_31 (lv_at hl 1 rfl) ?_
      refine va_iald hx hb hK hP 1 0 rfl rfl (vp_in_iff.mpr ⟨by omega, by omega⟩) dX2_tallyBySteps_33 ?_
      refine lv_topi (fun z_341 e_z_341 => ?_)
      refine lv_iload_n hx hb dX2_tallyBySteps_34 rfl (lv_at hl 4 rfl) ?_
      obtain ⟨z_342, e_z_342⟩ : ∃ y : Int32, y = ((z_341 : Int32).toUInt32 >>> ((a1 : Int32).toUInt32 &&& Int32.toUInt32 31)).toInt32 := ⟨_, rfl⟩
      refine lv_iushr (v := z_342) hx hb dX2_tallyBySteps_35 e_z_342.symm ?_
      refine lv_iconst (v := 1) hx hb dX2_tallyBySteps_36 (by decide) ?_
      refine lv_iand hx hb dX2_tallyBySteps_37 ?_
      refine lv_topi (fun z_343 e_z_343 => ?_)
      have b_z_343 : (0 : Int) ≤ z_343.toInt ∧ z_343.toInt ≤ 1 := ti_and (k := 1) e_z_343 (by decide) (by decide) (by decide)
      refine lv_iadd hx hb dX2_tallyBySteps_38 ?_
      refine lv_topi (fun z_344 e_z_344 => ?_)
      refine lv_istore (lv' := [(5, .int z_344), (7, .int y_184), (6, .int y_185), (0, .ref cu), (1, .int a1), (2, .int a2), (3, .int a3), (4, .int a4)]) hx hb dX2_tallyBySteps_39 hl (by decide) rfl (fun ls hl => ?_)
      refine lv_aload_n hx hb dX2_tallyBySteps_41 rfl (lv_at hl 3 rfl) ?_
      refine lv_iload hx hb dX2_tallyBySteps_42 (lv_at hl 2 rfl) ?_
      refine lv_iload_n hx hb dX2_tallyBySteps_44 rfl (lv_at hl 6 rfl) ?_
      refine vp_callSi (W.runV (As := [.int y_185, .int a3]) (rest := []) ⟨hx, hb, hml, hown, hts⟩ (kX2_onward l dC dI cu ln bs tk lw li fa lu y_185 a3 b_ln b_bs b_tk b_lw) (cwV 2 hts gX2_tallyBySteps__X2_onward_V86 rfl rfl rfl hd_yX2_onward ⟨lel 1 1 rfl, lel 22 22 rfl⟩) ⟨pw_fb, rcv_X2 hK hP (q0 := 0) rfl, (pw_use hP hK hN [0] rfl [] rfl)⟩ rfl rfl hl.1 rfl (lv_room (Nat.le_of_ble_eq_true rfl)) dX2_tallyBySteps_45 ⟨lel 0 0 rfl, lel 0 0 rfl⟩) (fun r_345 h_r_345 => ?_)
      refine lv_istore (lv' := [(6, .int r_345), (5, .int z_344), (7, .int y_184), (0, .ref cu), (1, .int a1), (2, .int a2), (3, .int a3), (4, .int a4)]) hx hb dX2_tallyBySteps_48 hl (by decide) rfl (fun ls hl => ?_)
      obtain ⟨z_346, e_z_346⟩ : ∃ y : Int32, y = y_184 + 1 := ⟨_, rfl⟩
      refine lv_iinc (v := z_346) (lv' := [(7, .int z_346), (6, .int r_345), (5, .int z_344), (0, .ref cu), (1, .int a1), (2, .int a2), (3, .int a3), (4, .int a4)]) hx hb dX2_tallyBySteps_50 hl (k := 2) rfl (by rw [e_z_346]; rfl) (by decide) rfl (fun ls hl => ?_)
      obtain ⟨q_z_346, b_z_346⟩ := ti_add (lo := 1) (hi := 2147483647) e_z_346 rfl (by decide : (1 : Int32).toInt = 1) b_y_184 (by decide : (1 : Int) ≤ (1 : Int32).toInt ∧ (1 : Int32).toInt ≤ 1) (by decide)
      refine lv_goto (tgt := 9) hx hb dX2_tallyBySteps_53 (by decide) ?_
      exact ih_9_336 (z_346, r_345, z_344) _ ⟨(show (0 : Int) ≤ z_346.toInt ∧ z_346.toInt ≤ 2147483647 from (rg_w b_z_346 (by decide) (by decide))), lv_sub hl [0, 1, 2, 3, 4, 5, 6, 7] rfl⟩ (show (2147483647 - z_346.toInt).toNat < (2147483647 - y_184.toInt).toNat by omega)
theorem dX2_firstUnlike_0 : decode cX2_firstUnlike 0 = .ok (.iconst 0, 1) := by decide +kernel
theorem dX2_firstUnlike_1 : decode cX2_firstUnlike 1 = .ok (.istore_n 3, 1) := by decide +kernel
theorem dX2_firstUnlike_2 : decode cX2_firstUnlike 2 = .ok (.iload_n 3, 1) := by decide +kernel
theorem dX2_firstUnlike_3 : decode cX2_firstUnlike 3 = .ok (.aload_n 0, 1) := by decide +kernel
theorem dX2_firstUnlike_4 : decode cX2_firstUnlike 4 = .ok (.getfield 42, 3) := by decide +kernel
theorem dX2_firstUnlike_7 : decode cX2_firstUnlike 7 = .ok (.if_icmp .ge 26, 3) := by decide +kernel
theorem dX2_firstUnlike_10 : decode cX2_firstUnlike 10 = .ok (.aload_n 0, 1) := by decide +kernel
theorem dX2_firstUnlike_11 : decode cX2_firstUnlike 11 = .ok (.iload_n 1, 1) := by decide +kernel
theorem dX2_firstUnlike_12 : decode cX2_firstUnlike 12 = .ok (.iload_n 3, 1) := by decide +kernel
theorem dX2_firstUnlike_13 : decode cX2_firstUnlike 13 = .ok (.invokevirtual 89, 3) := by decide +kernel
theorem dX2_firstUnlike_16 : decode cX2_firstUnlike 16 = .ok (.aload_n 0, 1) := by decide +kernel
theorem dX2_firstUnlike_17 : decode cX2_firstUnlike 17 = .ok (.iload_n 2, 1) := by decide +kernel
theorem dX2_firstUnlike_18 : decode cX2_firstUnlike 18 = .ok (.iload_n 3, 1) := by decide +kernel
theorem dX2_firstUnlike_19 : decode cX2_firstUnlike 19 = .ok (.invokevirtual 89, 3) := by decide +kernel
theorem dX2_firstUnlike_22 : decode cX2_firstUnlike 22 = .ok (.if_icmp .eq 5, 3) := by decide +kernel
theorem dX2_firstUnlike_25 : decode cX2_firstUnlike 25 = .ok (.iload_n 3, 1) := by decide +kernel
theorem dX2_firstUnlike_26 : decode cX2_firstUnlike 26 = .ok (.ireturn, 1) := by decide +kernel
theorem dX2_firstUnlike_27 : decode cX2_firstUnlike 27 = .ok (.iinc 3 1, 3) := by decide +kernel
theorem dX2_firstUnlike_30 : decode cX2_firstUnlike 30 = .ok (.goto (-28), 3) := by decide +kernel
theorem dX2_firstUnlike_33 : decode cX2_firstUnlike 33 = .ok (.iconst (-1), 1) := by decide +kernel
theorem dX2_firstUnlike_34 : decode cX2_firstUnlike 34 = .ok (.ireturn, 1) := by decide +kernel
theorem hd_yX2_firstUnlike : yX2_firstUnlike.cls = RX2 ∧ yX2_firstUnlike.cls ≠ "java/lang/invoke/MethodHandle" ∧ yX2_firstUnlike.cls ≠ "java/lang/invoke/VarHandle" ∧ (parseMethodDescriptor yX2_firstUnlike.desc).map (fun d => d.parameters.length) = some 2 := by decide +kernel
def uX2_firstUnlike : List Cond := List.cons (.code yX2_firstUnlike cX2_firstUnlike 4 (some .int)) (HAppend.hAppend ([.fieldLink RX2 42 "LuckyTicket$Roll" "tickets" "I", .methodLink RX2 89 yX2_luckBit, .instanceMethod yX2_luckBit, .selects RX2 yX2_luckBit yX2_luckBit, .initialized RX2] : List Cond) (HAppend.hAppend uX2_luckBit wsX20))
theorem iX2_firstUnlike_X2 : ∀ w ∈ wsX20, w ∈ uX2_firstUnlike := fun _ h => (List.mem_cons_of_mem _ (List.mem_append_right _ (List.mem_append_right _ h)))
theorem guX2_firstUnlike : GU uX2_firstUnlike := gu_cons (gu_app (by decide +kernel) (gu_ap guX2_luckBit gws_X2))
theorem gX2_firstUnlike__X2_luckBit_V89 : GoodIn uX2_firstUnlike (wsV RX2 89 RX2 yX2_luckBit uX2_luckBit) := gin_V (List.mem_of_getElem? (i := 2) rfl) (List.mem_of_getElem? (i := 3) rfl) (List.mem_of_getElem? (i := 4) rfl) (List.mem_of_getElem? (i := 5) rfl) (fun _ h => (List.mem_cons_of_mem _ (List.mem_append_right _ (List.mem_append_left _ h)))) guX2_luckBit
set_option maxHeartbeats 4000000 in
set_option maxRecDepth 100000 in
theorem kX2_firstUnlike (l : Launch) (dC : Nat → ClassId) (dI : Nat → Nat → Nat) (cu : Nat) (ln : Int32) (bs : Int32) (tk : Int32) (lw : Int32) (li : Int32) (fa : Nat) (lu : Nat) (cL : ClassId) (nl : Nat) (fl : Nat → Int32) (a1 : Int32) (a2 : Int32) (b_ln : (0 : Int) ≤ ln.toInt ∧ ln.toInt ≤ 12) (b_bs : (0 : Int) ≤ bs.toInt ∧ bs.toInt ≤ 16) (b_tk : (0 : Int) ≤ tk.toInt ∧ tk.toInt ≤ 20000) (b_lw : (0 : Int) ≤ lw.toInt ∧ lw.toInt ≤ 9) (hl1 : tk.toInt ≤ (nl : Int)) : Met l yX2_firstUnlike uX2_firstUnlike ({ frames := 2, cells := 0, slots := 0, locals := 43 }) (va_Pc [.ref cu, .int a1, .int a2] (pw (dC, dI) vwCl [(cu, .inr (1, [.int ln, .int bs, .int tk, .int lw, .int li, .ref fa, .ref lu])), (lu, .inl (cL, nl, .inl fl))] [(cL, .int)])) (vp_Si (fun r => ((-1 : Int) ≤ r.toInt ∧ r.toInt ≤ 19999))) 0 0 (fun _ => False) := by
  refine Met.ofW (cc := cX2_firstUnlike) (maxL := 4) (ret := (some .int)) pn_X2 rfl ?_
  intro p e s m args below meth c s₁ B hml hv
  obtain ⟨rfl, hP, hK, hN⟩ := hv
  have hx := B.exec
  have hb := B.bytes
  have hr := B.returns
  have hts := atoms_spec (ws := uX2_firstUnlike) B.pre
  have hown : s.vm.findClass RX2 = some m.cls := hown_of B.named rfl
  have hlocks := B.notSynchronized
  have hl := lv_entry ([.ref cu, .int a1, .int a2]) (n := 4) (Nat.le_of_ble_eq_true rfl)
  rw [lg_entry_eq]
  generalize (lg_sl ([.ref cu, .int a1, .int a2]) ++ List.replicate (4 - (lg_sl ([.ref cu, .int a1, .int a2])).length) Slot.unset).toArray = ls at hl ⊢
  have hl : lv_has ls 4 [(0, .ref cu), (1, .int a1), (2, .int a2)] := hl
  refine lv_iconst (v := 0) hx hb dX2_firstUnlike_0 (by decide) ?_
  refine lv_istore_n (lv' := [(3, .int 0), (0, .ref cu), (1, .int a1), (2, .int a2)]) hx hb dX2_firstUnlike_1 rfl hl (by decide) rfl (fun ls hl => ?_)
  refine loopP (σ := Int32) (fun v => (20000 - v.toInt).toNat) (fun v ls => ((0 : Int) ≤ v.toInt ∧ v.toInt ≤ 20000) ∧ lv_has ls 4 [(3, .int v), (0, .ref cu), (1, .int a1), (2, .int a2)]) (fun v ls hI ih_2_127 => ?_) (0 : Int32) ⟨(show (0 : Int) ≤ (0 : Int32).toInt ∧ (0 : Int32).toInt ≤ 20000 from (rg_w (by decide : (0 : Int) ≤ (0 : Int32).toInt ∧ (0 : Int32).toInt ≤ 0) (by decide) (by decide))), lv_sub hl [0, 1, 2, 3] rfl⟩
  obtain ⟨y_72, rfl⟩ : ∃ z, z = v := ⟨_, rfl⟩
  obtain ⟨b_y_72, hl⟩ := hI
  have b_y_72 : (0 : Int) ≤ y_72.toInt ∧ y_72.toInt ≤ 20000 := b_y_72
  have hl : lv_has ls 4 [(3, .int y_72), (0, .ref cu), (1, .int a1), (2, .int a2)] := hl
  refine lv_iload_n hx hb dX2_firstUnlike_2 rfl (lv_at hl 0 rfl) ?_
  refine lv_aload_n hx hb dX2_firstUnlike_3 rfl (lv_at hl 1 rfl) ?_
  refine va_get (D := (dC, dI)) (ci := 1) (v := .int tk) (C := RX2) (T := TX2) (N := 7) hx hb hts iX2_firstUnlike_X2 hown hK hP 0 rfl rfl 2 (by decide) (hts (.fieldLink RX2 42 "LuckyTicket$Roll" "tickets" "I") (List.mem_of_getElem? (i := 1) rfl)) (fun _ h9 => h9) rfl dX2_firstUnlike_4 ?_
  refine lv_icmp_ge (tgt := 33) hx hb dX2_firstUnlike_7 (by decide) (fun c_128 => ?_) (fun c_128 => ?_)
  ·
    have n_c_128 : (tk.toInt : Int) ≤ y_72.toInt := c_ge rfl rfl c_128
    refine lv_iconst (v := (-1)) hx hb dX2_firstUnlike_33 (by decide) ?_
    exact W.iret (v := (-1)) hx hb hr (fun t ht hW => ⟨(-1), rfl, (rg_w (by decide : (-1 : Int) ≤ ((-1) : Int32).toInt ∧ ((-1) : Int32).toInt ≤ -1) (by decide) (by decide)), ht⟩) t_nil dX2_firstUnlike_34
  ·
    have n_c_128 : (y_72.toInt : Int) < tk.toInt := c_nge rfl rfl c_128
    have b_y_72 : (0 : Int) ≤ y_72.toInt ∧ y_72.toInt ≤ 19999 := r_lt1 b_y_72 b_tk n_c_128 (by decide)
    have b_tk : (1 : Int) ≤ tk.toInt ∧ tk.toInt ≤ 20000 := r_lt2 b_y_72 b_tk n_c_128 (by decide)
    refine lv_aload_n hx hb dX2_firstUnlike_10 rfl (lv_at hl 1 rfl) ?_
    refine lv_iload_n hx hb dX2_firstUnlike_11 rfl (lv_at hl 2 rfl) ?_
    refine lv_iload_n hx hb dX2_firstUnlike_12 rfl (lv_at hl 0 rfl) ?_
    refine vp_callSi (W.runV (As := [.int a1, .int y_72]) (rest := []) ⟨hx, hb, hml, hown, hts⟩ (kX2_luckBit l dC dI cu ln bs tk lw li fa lu cL nl fl a1 y_72 b_ln b_bs (rg_w b_tk (by decide) (by decide)) b_lw (by omega)) (cwV 2 hts gX2_firstUnlike__X2_luckBit_V89 rfl rfl rfl hd_yX2_luckBit ⟨lel 2 2 rfl, lel 43 43 rfl⟩) ⟨pw_fb, rcv_X2 hK hP (q0 := 0) rfl, (pw_use hP hK hN [0, 1] rfl [0] rfl)⟩ rfl rfl hl.1 rfl (lv_room (Nat.le_of_ble_eq_true rfl)) dX2_firstUnlike_13 ⟨lel 0 0 rfl, lel 0 0 rfl⟩) (fun r_129 h_r_129 => ?_)
    have b_r_129 := h_r_129
    have b_r_129 : (0 : Int) ≤ r_129.toInt ∧ r_129.toInt ≤ 1 := b_r_129
    refine lv_aload_n hx hb dX2_firstUnlike_16 rfl (lv_at hl 1 rfl) ?_
    refine lv_iload_n hx hb dX2_firstUnlike_17 rfl (lv_at hl 3 rfl) ?_
    refine lv_iload_n hx hb dX2_firstUnlike_18 rfl (lv_at hl 0 rfl) ?_
    refine vp_callSi (W.runV (As := [.int a2, .int y_72]) (rest := [.int r_129]) ⟨hx, hb, hml, hown, hts⟩ (kX2_luckBit l dC dI cu ln bs tk lw li fa lu cL nl fl a2 y_72 b_ln b_bs (rg_w b_tk (by decide) (by decide)) b_lw (by omega)) (cwV 2 hts gX2_firstUnlike__X2_luckBit_V89 rfl rfl rfl hd_yX2_luckBit ⟨lel 2 2 rfl, lel 43 43 rfl⟩) ⟨pw_fb, rcv_X2 hK hP (q0 := 0) rfl, (pw_use hP hK hN [0, 1] rfl [0] rfl)⟩ rfl rfl hl.1 rfl (lv_room (Nat.le_of_ble_eq_true rfl)) dX2_firstUnlike_19 ⟨lel 0 0 rfl, lel 0 0 rfl⟩) (fun r_130 h_r_130 => ?_)
    have b_r_130 := h_r_130
    have b_r_130 : (0 : Int) ≤ r_130.toInt ∧ r_130.toInt ≤ 1 := b_r_130
    refine lv_icmp_eq (tgt := 27) hx hb dX2_firstUnlike_22 (by decide) (fun c_131 => ?_) (fun c_131 => ?_)
    ·
      have n_c_131 : (r_129.toInt : Int) = r_130.toInt := c_eq rfl rfl c_131
      obtain ⟨z_132, e_z_132⟩ : ∃ y : Int32, y = y_72 + 1 := ⟨_, rfl⟩
      refine lv_iinc (v := z_132) (lv' := [(3, .int z_132), (0, .ref cu), (1, .int a1), (2, .int a2)]) hx hb dX2_firstUnlike_27 hl (k := 0) rfl (by rw [e_z_132]; rfl) (by decide) rfl (fun ls hl => ?_)
      obtain ⟨q_z_132, b_z_132⟩ := ti_add (lo := 1) (hi := 20000) e_z_132 rfl (by decide : (1 : Int32).toInt = 1) b_y_72 (by decide : (1 : Int) ≤ (1 : Int32).toInt ∧ (1 : Int32).toInt ≤ 1) (by decide)
      refine lv_goto (tgt := 2) hx hb dX2_firstUnlike_30 (by decide) ?_
      exact ih_2_127 z_132 _ ⟨(show (0 : Int) ≤ z_132.toInt ∧ z_132.toInt ≤ 20000 from (rg_w b_z_132 (by decide) (by decide))), lv_sub hl [0, 1, 2, 3] rfl⟩ (show (20000 - z_132.toInt).toNat < (20000 - y_72.toInt).toNat by omega)
    ·
      have n_c_131 : (r_129.toInt : Int) ≠ r_130.toInt := c_ne rfl rfl c_131
      refine lv_iload_n hx hb dX2_firstUnlike_25 rfl (lv_at hl 0 rfl) ?_
      exact W.iret (v := y_72) hx hb hr (fun t ht hW => ⟨y_72, rfl, (rg_w b_y_72 (by decide) (by decide)), ht⟩) t_nil dX2_firstUnlike_26
theorem dX2_isFitting_0 : decode cX2_isFitting 0 = .ok (.aload_n 0, 1) := by decide +kernel
theorem dX2_isFitting_1 : decode cX2_isFitting 1 = .ok (.iload_n 2, 1) := by decide +kernel
theorem dX2_isFitting_2 : decode cX2_isFitting 2 = .ok (.invokevirtual 92, 3) := by decide +kernel
theorem dX2_isFitting_5 : decode cX2_isFitting 5 = .ok (.lload_n 3, 1) := by decide +kernel
theorem dX2_isFitting_6 : decode cX2_isFitting 6 = .ok (.land, 1) := by decide +kernel
theorem dX2_isFitting_7 : decode cX2_isFitting 7 = .ok (.lload 5, 2) := by decide +kernel
theorem dX2_isFitting_9 : decode cX2_isFitting 9 = .ok (.lcmp, 1) := by decide +kernel
theorem dX2_isFitting_10 : decode cX2_isFitting 10 = .ok (.ifCond .ne 16, 3) := by decide +kernel
theorem dX2_isFitting_13 : decode cX2_isFitting 13 = .ok (.aload_n 0, 1) := by decide +kernel
theorem dX2_isFitting_14 : decode cX2_isFitting 14 = .ok (.iload_n 1, 1) := by decide +kernel
theorem dX2_isFitting_15 : decode cX2_isFitting 15 = .ok (.iload_n 2, 1) := by decide +kernel
theorem dX2_isFitting_16 : decode cX2_isFitting 16 = .ok (.invokevirtual 67, 3) := by decide +kernel
theorem dX2_isFitting_19 : decode cX2_isFitting 19 = .ok (.ifCond .eq 7, 3) := by decide +kernel
theorem dX2_isFitting_22 : decode cX2_isFitting 22 = .ok (.iconst 1, 1) := by decide +kernel
theorem dX2_isFitting_23 : decode cX2_isFitting 23 = .ok (.goto 4, 3) := by decide +kernel
theorem dX2_isFitting_26 : decode cX2_isFitting 26 = .ok (.iconst 0, 1) := by decide +kernel
theorem dX2_isFitting_27 : decode cX2_isFitting 27 = .ok (.ireturn, 1) := by decide +kernel
theorem hd_yX2_isFitting : yX2_isFitting.cls = RX2 ∧ yX2_isFitting.cls ≠ "java/lang/invoke/MethodHandle" ∧ yX2_isFitting.cls ≠ "java/lang/invoke/VarHandle" ∧ (parseMethodDescriptor yX2_isFitting.desc).map (fun d => d.parameters.length) = some 4 := by decide +kernel
def uX2_isFitting : List Cond := List.cons (.code yX2_isFitting cX2_isFitting 7 (some .boolean)) (HAppend.hAppend ([.methodLink RX2 92 yX2_faceOf, .instanceMethod yX2_faceOf, .selects RX2 yX2_faceOf yX2_faceOf, .initialized RX2, .methodLink RX2 67 yX2_isLucky, .instanceMethod yX2_isLucky, .selects RX2 yX2_isLucky yX2_isLucky] : List Cond) (HAppend.hAppend uX2_faceOf uX2_isLucky))
theorem guX2_isFitting : GU uX2_isFitting := gu_cons (gu_app (by decide +kernel) (gu_ap guX2_faceOf guX2_isLucky))
theorem gX2_isFitting__X2_faceOf_V92 : GoodIn uX2_isFitting (wsV RX2 92 RX2 yX2_faceOf uX2_faceOf) := gin_V (List.mem_of_getElem? (i := 1) rfl) (List.mem_of_getElem? (i := 2) rfl) (List.mem_of_getElem? (i := 3) rfl) (List.mem_of_getElem? (i := 4) rfl) (fun _ h => (List.mem_cons_of_mem _ (List.mem_append_right _ (List.mem_append_left _ h)))) guX2_faceOf
theorem gX2_isFitting__X2_isLucky_V67 : GoodIn uX2_isFitting (wsV RX2 67 RX2 yX2_isLucky uX2_isLucky) := gin_V (List.mem_of_getElem? (i := 5) rfl) (List.mem_of_getElem? (i := 6) rfl) (List.mem_of_getElem? (i := 7) rfl) (List.mem_of_getElem? (i := 4) rfl) (fun _ h => (List.mem_cons_of_mem _ (List.mem_append_right _ (List.mem_append_right _ h)))) guX2_isLucky
set_option maxHeartbeats 4000000 in
set_option maxRecDepth 100000 in
theorem kX2_isFitting (l : Launch) (dC : Nat → ClassId) (dI : Nat → Nat → Nat) (cu : Nat) (ln : Int32) (bs : Int32) (tk : Int32) (lw : Int32) (li : Int32) (fa : Nat) (lu : Nat) (cL : ClassId) (nl : Nat) (fl : Nat → Int32) (cF : ClassId) (nf : Nat) (ff : Nat → Int64) (a1 : Int32) (a2 : Int32) (a3 : Int64) (a4 : Int64) (b_ln : (0 : Int) ≤ ln.toInt ∧ ln.toInt ≤ 12) (b_bs : (0 : Int) ≤ bs.toInt ∧ bs.toInt ≤ 16) (b_tk : (0 : Int) ≤ tk.toInt ∧ tk.toInt ≤ 20000) (b_lw : (0 : Int) ≤ lw.toInt ∧ lw.toInt ≤ 9) (hl1 : tk.toInt ≤ (nl : Int)) (hf1 : tk.toInt ≤ (nf : Int)) : Met l yX2_isFitting uX2_isFitting ({ frames := 2, cells := 0, slots := 0, locals := 42 }) (va_Pc [.ref cu, .int a1, .int a2, .long a3, .long a4] (pw (dC, dI) vwCl [(cu, .inr (1, [.int ln, .int bs, .int tk, .int lw, .int li, .ref fa, .ref lu])), (lu, .inl (cL, nl, .inl fl)), (fa, .inl (cF, nf, .inr (.inl ff)))] [(cL, .int), (cF, .long)])) (vp_Si (fun r => ((0 : Int) ≤ r.toInt ∧ r.toInt ≤ 1))) 0 0 (fun _ => False) := by
  refine Met.ofW (cc := cX2_isFitting) (maxL := 7) (ret := (some .boolean)) pn_X2 rfl ?_
  intro p e s m args below meth c s₁ B hml hv
  obtain ⟨rfl, hP, hK, hN⟩ := hv
  have hx := B.exec
  have hb := B.bytes
  have hr := B.returns
  have hts := atoms_spec (ws := uX2_isFitting) B.pre
  have hown : s.vm.findClass RX2 = some m.cls := hown_of B.named rfl
  have hlocks := B.notSynchronized
  have hl := lv_entry ([.ref cu, .int a1, .int a2, .long a3, .long a4]) (n := 7) (Nat.le_of_ble_eq_true rfl)
  rw [lg_entry_eq]
  generalize (lg_sl ([.ref cu, .int a1, .int a2, .long a3, .long a4]) ++ List.replicate (7 - (lg_sl ([.ref cu, .int a1, .int a2, .long a3, .long a4])).length) Slot.unset).toArray = ls at hl ⊢
  have hl : lv_has ls 7 [(0, .ref cu), (1, .int a1), (2, .int a2), (3, .long a3), (5, .long a4)] := hl
  refine lv_aload_n hx hb dX2_isFitting_0 rfl (lv_at hl 0 rfl) ?_
  refine lv_iload_n hx hb dX2_isFitting_1 rfl (lv_at hl 2 rfl) ?_
  refine vp_callSl (W.runV (As := [.int a2]) (rest := []) ⟨hx, hb, hml, hown, hts⟩ (kX2_faceOf l dC dI cu ln bs tk lw li fa lu cF nf ff a2 b_ln b_bs b_tk b_lw (by omega)) (cwV 1 hts gX2_isFitting__X2_faceOf_V92 rfl rfl rfl hd_yX2_faceOf ⟨lel 2 2 rfl, lel 42 42 rfl⟩) ⟨pw_fb, rcv_X2 hK hP (q0 := 0) rfl, (pw_use hP hK hN [0, 2] rfl [1] rfl)⟩ rfl rfl hl.1 rfl (lv_room (Nat.le_of_ble_eq_true rfl)) dX2_isFitting_2 ⟨lel 0 0 rfl, lel 0 0 rfl⟩) (fun r_6 h_r_6 => ?_)
  refine lv_lload_n hx hb dX2_isFitting_5 rfl (lv_at hl 3 rfl) ?_
  refine lv_land hx hb dX2_isFitting_6 ?_
  refine lv_topl (fun z_7 e_z_7 => ?_)
  refine lv_lload hx hb dX2_isFitting_7 (lv_at hl 4 rfl) ?_
  refine W.lcmp hx hb dX2_isFitting_9 ?_
  refine lv_if_ne (tgt := 26) hx hb dX2_isFitting_10 (by decide) (fun c_8 => ?_) (fun c_8 => ?_)
  ·
    have n_c_8 : (z_7.toInt : Int) ≠ a4.toInt := g_ne rfl rfl c_8
    refine lv_iconst (v := 0) hx hb dX2_isFitting_26 (by decide) ?_
    exact W.zret (v := 0) hx hb hr rfl (fun t ht hW => ⟨0, rfl, (rg_w (by decide : (0 : Int) ≤ (0 : Int32).toInt ∧ (0 : Int32).toInt ≤ 0) (by decide) (by decide)), ht⟩) t_nil dX2_isFitting_27
  ·
    have n_c_8 : (z_7.toInt : Int) = a4.toInt := g_eq rfl rfl c_8
    refine lv_aload_n hx hb dX2_isFitting_13 rfl (lv_at hl 0 rfl) ?_
    refine lv_iload_n hx hb dX2_isFitting_14 rfl (lv_at hl 1 rfl) ?_
    refine lv_iload_n hx hb dX2_isFitting_15 rfl (lv_at hl 2 rfl) ?_
    refine vp_callSi (W.runV (As := [.int a1, .int a2]) (rest := []) ⟨hx, hb, hml, hown, hts⟩ (kX2_isLucky l dC dI cu ln bs tk lw li fa lu cL nl fl a1 a2 b_ln b_bs b_tk b_lw (by omega)) (cwV 2 hts gX2_isFitting__X2_isLucky_V67 rfl rfl rfl hd_yX2_isLucky ⟨lel 1 2 rfl, lel 22 42 rfl⟩) ⟨pw_fb, rcv_X2 hK hP (q0 := 0) rfl, (pw_use hP hK hN [0, 1] rfl [0] rfl)⟩ rfl rfl hl.1 rfl (lv_room (Nat.le_of_ble_eq_true rfl)) dX2_isFitting_16 ⟨lel 0 0 rfl, lel 0 0 rfl⟩) (fun r_9 h_r_9 => ?_)
    have b_r_9 := h_r_9
    have b_r_9 : (0 : Int) ≤ r_9.toInt ∧ r_9.toInt ≤ 1 := b_r_9
    refine lv_if_eq (tgt := 26) hx hb dX2_isFitting_19 (by decide) (fun c_10 => ?_) (fun c_10 => ?_)
    ·
      have n_c_10 : (r_9.toInt : Int) = 0 := c_eq rfl (by decide) c_10
      have b_r_9 : (0 : Int) ≤ r_9.toInt ∧ r_9.toInt ≤ 0 := r_eq1 b_r_9 (by decide : (0 : Int) ≤ (0 : Int32).toInt ∧ (0 : Int32).toInt ≤ 0) n_c_10 (by decide)
      refine lv_iconst (v := 0) hx hb dX2_isFitting_26 (by decide) ?_
      exact W.zret (v := 0) hx hb hr rfl (fun t ht hW => ⟨0, rfl, (rg_w (by decide : (0 : Int) ≤ (0 : Int32).toInt ∧ (0 : Int32).toInt ≤ 0) (by decide) (by decide)), ht⟩) t_nil dX2_isFitting_27
    ·
      have n_c_10 : (r_9.toInt : Int) ≠ 0 := c_ne rfl (by decide) c_10
      have b_r_9 : (1 : Int) ≤ r_9.toInt ∧ r_9.toInt ≤ 1 := r_ne1 b_r_9 (by decide : (0 : Int) ≤ (0 : Int32).toInt ∧ (0 : Int32).toInt ≤ 0) n_c_10 (by decide)
      refine lv_iconst (v := 1) hx hb dX2_isFitting_22 (by decide) ?_
      refine lv_goto (tgt := 27) hx hb dX2_isFitting_23 (by decide) ?_
      exact W.zret (v := 1) hx hb hr rfl (fun t ht hW => ⟨1, rfl, (rg_w (by decide : (1 : Int) ≤ (1 : Int32).toInt ∧ (1 : Int32).toInt ≤ 1) (by decide) (by decide)), ht⟩) t_nil dX2_isFitting_27
theorem dX2_tallyFitting_0 : decode cX2_tallyFitting 0 = .ok (.iconst 0, 1) := by decide +kernel
theorem dX2_tallyFitting_1 : decode cX2_tallyFitting 1 = .ok (.istore 6, 2) := by decide +kernel
theorem dX2_tallyFitting_3 : decode cX2_tallyFitting 3 = .ok (.iconst 0, 1) := by decide +kernel
theorem dX2_tallyFitting_4 : decode cX2_tallyFitting 4 = .ok (.istore 7, 2) := by decide +kernel
theorem dX2_tallyFitting_6 : decode cX2_tallyFitting 6 = .ok (.iload 7, 2) := by decide +kernel
theorem dX2_tallyFitting_8 : decode cX2_tallyFitting 8 = .ok (.aload_n 0, 1) := by decide +kernel
theorem dX2_tallyFitting_9 : decode cX2_tallyFitting 9 = .ok (.getfield 42, 3) := by decide +kernel
theorem dX2_tallyFitting_12 : decode cX2_tallyFitting 12 = .ok (.if_icmp .ge 25, 3) := by decide +kernel
theorem dX2_tallyFitting_15 : decode cX2_tallyFitting 15 = .ok (.aload_n 0, 1) := by decide +kernel
theorem dX2_tallyFitting_16 : decode cX2_tallyFitting 16 = .ok (.iload_n 1, 1) := by decide +kernel
theorem dX2_tallyFitting_17 : decode cX2_tallyFitting 17 = .ok (.iload 7, 2) := by decide +kernel
theorem dX2_tallyFitting_19 : decode cX2_tallyFitting 19 = .ok (.lload_n 2, 1) := by decide +kernel
theorem dX2_tallyFitting_20 : decode cX2_tallyFitting 20 = .ok (.lload 4, 2) := by decide +kernel
theorem dX2_tallyFitting_22 : decode cX2_tallyFitting 22 = .ok (.invokevirtual 96, 3) := by decide +kernel
theorem dX2_tallyFitting_25 : decode cX2_tallyFitting 25 = .ok (.ifCond .eq 6, 3) := by decide +kernel
theorem dX2_tallyFitting_28 : decode cX2_tallyFitting 28 = .ok (.iinc 6 1, 3) := by decide +kernel
theorem dX2_tallyFitting_31 : decode cX2_tallyFitting 31 = .ok (.iinc 7 1, 3) := by decide +kernel
theorem dX2_tallyFitting_34 : decode cX2_tallyFitting 34 = .ok (.goto (-28), 3) := by decide +kernel
theorem dX2_tallyFitting_37 : decode cX2_tallyFitting 37 = .ok (.iload 6, 2) := by decide +kernel
theorem dX2_tallyFitting_39 : decode cX2_tallyFitting 39 = .ok (.ireturn, 1) := by decide +kernel
theorem hd_yX2_tallyFitting : yX2_tallyFitting.cls = RX2 ∧ yX2_tallyFitting.cls ≠ "java/lang/invoke/MethodHandle" ∧ yX2_tallyFitting.cls ≠ "java/lang/invoke/VarHandle" ∧ (parseMethodDescriptor yX2_tallyFitting.desc).map (fun d => d.parameters.length) = some 3 := by decide +kernel
def uX2_tallyFitting : List Cond := List.cons (.code yX2_tallyFitting cX2_tallyFitting 8 (some .int)) (HAppend.hAppend ([.fieldLink RX2 42 "LuckyTicket$Roll" "tickets" "I", .methodLink RX2 96 yX2_isFitting, .instanceMethod yX2_isFitting, .selects RX2 yX2_isFitting yX2_isFitting, .initialized RX2] : List Cond) (HAppend.hAppend uX2_isFitting wsX20))
theorem iX2_tallyFitting_X2 : ∀ w ∈ wsX20, w ∈ uX2_tallyFitting := fun _ h => (List.mem_cons_of_mem _ (List.mem_append_right _ (List.mem_append_right _ h)))
theorem guX2_tallyFitting : GU uX2_tallyFitting := gu_cons (gu_app (by decide +kernel) (gu_ap guX2_isFitting gws_X2))
theorem gX2_tallyFitting__X2_isFitting_V96 : GoodIn uX2_tallyFitting (wsV RX2 96 RX2 yX2_isFitting uX2_isFitting) := gin_V (List.mem_of_getElem? (i := 2) rfl) (List.mem_of_getElem? (i := 3) rfl) (List.mem_of_getElem? (i := 4) rfl) (List.mem_of_getElem? (i := 5) rfl) (fun _ h => (List.mem_cons_of_mem _ (List.mem_append_right _ (List.mem_append_left _ h)))) guX2_isFitting
set_option maxHeartbeats 4000000 in
set_option maxRecDepth 100000 in
theorem kX2_tallyFitting (l : Launch) (dC : Nat → ClassId) (dI : Nat → Nat → Nat) (cu : Nat) (ln : Int32) (bs : Int32) (tk : Int32) (lw : Int32) (li : Int32) (fa : Nat) (lu : Nat) (cL : ClassId) (nl : Nat) (fl : Nat → Int32) (cF : ClassId) (nf : Nat) (ff : Nat → Int64) (a1 : Int32) (a2 : Int64) (a3 : Int64) (b_ln : (0 : Int) ≤ ln.toInt ∧ ln.toInt ≤ 12) (b_bs : (0 : Int) ≤ bs.toInt ∧ bs.toInt ≤ 16) (b_tk : (0 : Int) ≤ tk.toInt ∧ tk.toInt ≤ 20000) (b_lw : (0 : Int) ≤ lw.toInt ∧ lw.toInt ≤ 9) (hl1 : tk.toInt ≤ (nl : Int)) (hf1 : tk.toInt ≤ (nf : Int)) : Met l yX2_tallyFitting uX2_tallyFitting ({ frames := 3, cells := 0, slots := 0, locals := 68 }) (va_Pc [.ref cu, .int a1, .long a2, .long a3] (pw (dC, dI) vwCl [(cu, .inr (1, [.int ln, .int bs, .int tk, .int lw, .int li, .ref fa, .ref lu])), (lu, .inl (cL, nl, .inl fl)), (fa, .inl (cF, nf, .inr (.inl ff)))] [(cL, .int), (cF, .long)])) (vp_Si (fun r => True)) 0 0 (fun _ => False) := by
  refine Met.ofW (cc := cX2_tallyFitting) (maxL := 8) (ret := (some .int)) pn_X2 rfl ?_
  intro p e s m args below meth c s₁ B hml hv
  obtain ⟨rfl, hP, hK, hN⟩ := hv
  have hx := B.exec
  have hb := B.bytes
  have hr := B.returns
  have hts := atoms_spec (ws := uX2_tallyFitting) B.pre
  have hown : s.vm.findClass RX2 = some m.cls := hown_of B.named rfl
  have hlocks := B.notSynchronized
  have hl := lv_entry ([.ref cu, .int a1, .long a2, .long a3]) (n := 8) (Nat.le_of_ble_eq_true rfl)
  rw [lg_entry_eq]
  generalize (lg_sl ([.ref cu, .int a1, .long a2, .long a3]) ++ List.replicate (8 - (lg_sl ([.ref cu, .int a1, .long a2, .long a3])).length) Slot.unset).toArray = ls at hl ⊢
  have hl : lv_has ls 8 [(0, .ref cu), (1, .int a1), (2, .long a2), (4, .long a3)] := hl
  refine lv_iconst (v := 0) hx hb dX2_tallyFitting_0 (by decide) ?_
  refine lv_istore (lv' := [(6, .int 0), (0, .ref cu), (1, .int a1), (2, .long a2), (4, .long a3)]) hx hb dX2_tallyFitting_1 hl (by decide) rfl (fun ls hl => ?_)
  refine lv_iconst (v := 0) hx hb dX2_tallyFitting_3 (by decide) ?_
  refine lv_istore (lv' := [(7, .int 0), (6, .int 0), (0, .ref cu), (1, .int a1), (2, .long a2), (4, .long a3)]) hx hb dX2_tallyFitting_4 hl (by decide) rfl (fun ls hl => ?_)
  refine loopP (σ := Int32 × Int32) (fun v => (20000 - v.1.toInt).toNat) (fun v ls => ((0 : Int) ≤ v.1.toInt ∧ v.1.toInt ≤ 20000) ∧ lv_has ls 8 [(7, .int v.1), (6, .int v.2), (0, .ref cu), (1, .int a1), (2, .long a2), (4, .long a3)]) (fun v ls hI ih_6_235 => ?_) ((0 : Int32), (0 : Int32)) ⟨(show (0 : Int) ≤ (0 : Int32).toInt ∧ (0 : Int32).toInt ≤ 20000 from (rg_w (by decide : (0 : Int) ≤ (0 : Int32).toInt ∧ (0 : Int32).toInt ≤ 0) (by decide) (by decide))), lv_sub hl [0, 1, 2, 3, 4, 5] rfl⟩
  obtain ⟨y_129, y_130⟩ := v
  obtain ⟨b_y_129, hl⟩ := hI
  have b_y_129 : (0 : Int) ≤ y_129.toInt ∧ y_129.toInt ≤ 20000 := b_y_129
  have hl : lv_has ls 8 [(7, .int y_129), (6, .int y_130), (0, .ref cu), (1, .int a1), (2, .long a2), (4, .long a3)] := hl
  refine lv_iload hx hb dX2_tallyFitting_6 (lv_at hl 0 rfl) ?_
  refine lv_aload_n hx hb dX2_tallyFitting_8 rfl (lv_at hl 2 rfl) ?_
  refine va_get (D := (dC, dI)) (ci := 1) (v := .int tk) (C := RX2) (T := TX2) (N := 7) hx hb hts iX2_tallyFitting_X2 hown hK hP 0 rfl rfl 2 (by decide) (hts (.fieldLink RX2 42 "LuckyTicket$Roll" "tickets" "I") (List.mem_of_getElem? (i := 1) rfl)) (fun _ h9 => h9) rfl dX2_tallyFitting_9 ?_
  refine lv_icmp_ge (tgt := 37) hx hb dX2_tallyFitting_12 (by decide) (fun c_236 => ?_) (fun c_236 => ?_)
  ·
    have n_c_236 : (tk.toInt : Int) ≤ y_129.toInt := c_ge rfl rfl c_236
    refine lv_iload hx hb dX2_tallyFitting_37 (lv_at hl 1 rfl) ?_
    exact W.iret (v := y_130) hx hb hr (fun t ht hW => ⟨y_130, rfl, trivial, ht⟩) t_nil dX2_tallyFitting_39
  ·
    have n_c_236 : (y_129.toInt : Int) < tk.toInt := c_nge rfl rfl c_236
    have b_y_129 : (0 : Int) ≤ y_129.toInt ∧ y_129.toInt ≤ 19999 := r_lt1 b_y_129 b_tk n_c_236 (by decide)
    have b_tk : (1 : Int) ≤ tk.toInt ∧ tk.toInt ≤ 20000 := r_lt2 b_y_129 b_tk n_c_236 (by decide)
    refine lv_aload_n hx hb dX2_tallyFitting_15 rfl (lv_at hl 2 rfl) ?_
    refine lv_iload_n hx hb dX2_tallyFitting_16 rfl (lv_at hl 3 rfl) ?_
    refine lv_iload hx hb dX2_tallyFitting_17 (lv_at hl 0 rfl) ?_
    refine lv_lload_n hx hb dX2_tallyFitting_19 rfl (lv_at hl 4 rfl) ?_
    refine lv_lload hx hb dX2_tallyFitting_20 (lv_at hl 5 rfl) ?_
    refine vp_callSi (W.runV (As := [.int a1, .int y_129, .long a2, .long a3]) (rest := []) ⟨hx, hb, hml, hown, hts⟩ (kX2_isFitting l dC dI cu ln bs tk lw li fa lu cL nl fl cF nf ff a1 y_129 a2 a3 b_ln b_bs (rg_w b_tk (by decide) (by decide)) b_lw (by omega) (by omega)) (cwV 4 hts gX2_tallyFitting__X2_isFitting_V96 rfl rfl rfl hd_yX2_isFitting ⟨lel 3 3 rfl, lel 68 68 rfl⟩) ⟨pw_fb, rcv_X2 hK hP (q0 := 0) rfl, (pw_use hP hK hN [0, 1, 2] rfl [0, 1] rfl)⟩ rfl rfl hl.1 rfl (lv_room (Nat.le_of_ble_eq_true rfl)) dX2_tallyFitting_22 ⟨lel 0 0 rfl, lel 0 0 rfl⟩) (fun r_237 h_r_237 => ?_)
    have b_r_237 := h_r_237
    have b_r_237 : (0 : Int) ≤ r_237.toInt ∧ r_237.toInt ≤ 1 := b_r_237
    refine cutP (σ := Int32) (pc2 := 31) (st2 := fun v => []) (cells2 := 0) (slots2 := 0) (fun v ls => lv_has ls 8 [(7, .int y_129), (6, .int v), (0, .ref cu), (1, .int a1), (2, .long a2), (4, .long a3)]) (fun v ls hI => ?_) (fun hj_31_240 => ?_)
    ·
      obtain ⟨y_240, rfl⟩ : ∃ z, z = v := ⟨_, rfl⟩
      have hl := hI
      have hl : lv_has ls 8 [(7, .int y_129), (6, .int y_240), (0, .ref cu), (1, .int a1), (2, .long a2), (4, .long a3)] := hl
      obtain ⟨z_241, e_z_241⟩ : ∃ y : Int32, y = y_129 + 1 := ⟨_, rfl⟩
      refine lv_iinc (v := z_241) (lv' := [(7, .int z_241), (6, .int y_240), (0, .ref cu), (1, .int a1), (2, .long a2), (4, .long a3)]) hx hb dX2_tallyFitting_31 hl (k := 0) rfl (by rw [e_z_241]; rfl) (by decide) rfl (fun ls hl => ?_)
      obtain ⟨q_z_241, b_z_241⟩ := ti_add (lo := 1) (hi := 20000) e_z_241 rfl (by decide : (1 : Int32).toInt = 1) b_y_129 (by decide : (1 : Int) ≤ (1 : Int32).toInt ∧ (1 : Int32).toInt ≤ 1) (by decide)
      refine lv_goto (tgt := 6) hx hb dX2_tallyFitting_34 (by decide) ?_
      exact ih_6_235 (z_241, y_240) _ ⟨(show (0 : Int) ≤ z_241.toInt ∧ z_241.toInt ≤ 20000 from (rg_w b_z_241 (by decide) (by decide))), lv_sub hl [0, 1, 2, 3, 4, 5] rfl⟩ (show (20000 - z_241.toInt).toNat < (20000 - y_129.toInt).toNat by omega)
    ·
      refine lv_if_eq (tgt := 31) hx hb dX2_tallyFitting_25 (by decide) (fun c_238 => ?_) (fun c_238 => ?_)
      ·
        have n_c_238 : (r_237.toInt : Int) = 0 := c_eq rfl (by decide) c_238
        have b_r_237 : (0 : Int) ≤ r_237.toInt ∧ r_237.toInt ≤ 0 := r_eq1 b_r_237 (by decide : (0 : Int) ≤ (0 : Int32).toInt ∧ (0 : Int32).toInt ≤ 0) n_c_238 (by decide)
        exact hj_31_240 y_130 _ (lv_sub hl [0, 1, 2, 3, 4, 5] rfl)
      ·
        have n_c_238 : (r_237.toInt : Int) ≠ 0 := c_ne rfl (by decide) c_238
        have b_r_237 : (1 : Int) ≤ r_237.toInt ∧ r_237.toInt ≤ 1 := r_ne1 b_r_237 (by decide : (0 : Int) ≤ (0 : Int32).toInt ∧ (0 : Int32).toInt ≤ 0) n_c_238 (by decide)
        obtain ⟨z_242, e_z_242⟩ : ∃ y : Int32, y = y_130 + 1 := ⟨_, rfl⟩
        refine lv_iinc (v := z_242) (lv' := [(6, .int z_242), (7, .int y_129), (0, .ref cu), (1, .int a1), (2, .long a2), (4, .long a3)]) hx hb dX2_tallyFitting_28 hl (k := 1) rfl (by rw [e_z_242]; rfl) (by decide) rfl (fun ls hl => ?_)
        exact hj_31_240 z_242 _ (lv_sub hl [1, 0, 2, 3, 4, 5] rfl)
theorem dX2_firstFitting_0 : decode cX2_firstFitting 0 = .ok (.iconst 0, 1) := by decide +kernel
theorem dX2_firstFitting_1 : decode cX2_firstFitting 1 = .ok (.istore 6, 2) := by decide +kernel
theorem dX2_firstFitting_3 : decode cX2_firstFitting 3 = .ok (.iload 6, 2) := by decide +kernel
theorem dX2_firstFitting_5 : decode cX2_firstFitting 5 = .ok (.aload_n 0, 1) := by decide +kernel
theorem dX2_firstFitting_6 : decode cX2_firstFitting 6 = .ok (.getfield 42, 3) := by decide +kernel
theorem dX2_firstFitting_9 : decode cX2_firstFitting 9 = .ok (.if_icmp .ge 25, 3) := by decide +kernel
theorem dX2_firstFitting_12 : decode cX2_firstFitting 12 = .ok (.aload_n 0, 1) := by decide +kernel
theorem dX2_firstFitting_13 : decode cX2_firstFitting 13 = .ok (.iload_n 1, 1) := by decide +kernel
theorem dX2_firstFitting_14 : decode cX2_firstFitting 14 = .ok (.iload 6, 2) := by decide +kernel
theorem dX2_firstFitting_16 : decode cX2_firstFitting 16 = .ok (.lload_n 2, 1) := by decide +kernel
theorem dX2_firstFitting_17 : decode cX2_firstFitting 17 = .ok (.lload 4, 2) := by decide +kernel
theorem dX2_firstFitting_19 : decode cX2_firstFitting 19 = .ok (.invokevirtual 96, 3) := by decide +kernel
theorem dX2_firstFitting_22 : decode cX2_firstFitting 22 = .ok (.ifCond .eq 6, 3) := by decide +kernel
theorem dX2_firstFitting_25 : decode cX2_firstFitting 25 = .ok (.iload 6, 2) := by decide +kernel
theorem dX2_firstFitting_27 : decode cX2_firstFitting 27 = .ok (.ireturn, 1) := by decide +kernel
theorem dX2_firstFitting_28 : decode cX2_firstFitting 28 = .ok (.iinc 6 1, 3) := by decide +kernel
theorem dX2_firstFitting_31 : decode cX2_firstFitting 31 = .ok (.goto (-28), 3) := by decide +kernel
theorem dX2_firstFitting_34 : decode cX2_firstFitting 34 = .ok (.iconst (-1), 1) := by decide +kernel
theorem dX2_firstFitting_35 : decode cX2_firstFitting 35 = .ok (.ireturn, 1) := by decide +kernel
theorem hd_yX2_firstFitting : yX2_firstFitting.cls = RX2 ∧ yX2_firstFitting.cls ≠ "java/lang/invoke/MethodHandle" ∧ yX2_firstFitting.cls ≠ "java/lang/invoke/VarHandle" ∧ (parseMethodDescriptor yX2_firstFitting.desc).map (fun d => d.parameters.length) = some 3 := by decide +kernel
def uX2_firstFitting : List Cond := List.cons (.code yX2_firstFitting cX2_firstFitting 7 (some .int)) (HAppend.hAppend ([.fieldLink RX2 42 "LuckyTicket$Roll" "tickets" "I", .methodLink RX2 96 yX2_isFitting, .instanceMethod yX2_isFitting, .selects RX2 yX2_isFitting yX2_isFitting, .initialized RX2] : List Cond) (HAppend.hAppend uX2_isFitting wsX20))
theorem iX2_firstFitting_X2 : ∀ w ∈ wsX20, w ∈ uX2_firstFitting := fun _ h => (List.mem_cons_of_mem _ (List.mem_append_right _ (List.mem_append_right _ h)))
theorem guX2_firstFitting : GU uX2_firstFitting := gu_cons (gu_app (by decide +kernel) (gu_ap guX2_isFitting gws_X2))
theorem gX2_firstFitting__X2_isFitting_V96 : GoodIn uX2_firstFitting (wsV RX2 96 RX2 yX2_isFitting uX2_isFitting) := gin_V (List.mem_of_getElem? (i := 2) rfl) (List.mem_of_getElem? (i := 3) rfl) (List.mem_of_getElem? (i := 4) rfl) (List.mem_of_getElem? (i := 5) rfl) (fun _ h => (List.mem_cons_of_mem _ (List.mem_append_right _ (List.mem_append_left _ h)))) guX2_isFitting
set_option maxHeartbeats 4000000 in
set_option maxRecDepth 100000 in
theorem kX2_firstFitting (l : Launch) (dC : Nat → ClassId) (dI : Nat → Nat → Nat) (cu : Nat) (ln : Int32) (bs : Int32) (tk : Int32) (lw : Int32) (li : Int32) (fa : Nat) (lu : Nat) (cL : ClassId) (nl : Nat) (fl : Nat → Int32) (cF : ClassId) (nf : Nat) (ff : Nat → Int64) (a1 : Int32) (a2 : Int64) (a3 : Int64) (b_ln : (0 : Int) ≤ ln.toInt ∧ ln.toInt ≤ 12) (b_bs : (0 : Int) ≤ bs.toInt ∧ bs.toInt ≤ 16) (b_tk : (0 : Int) ≤ tk.toInt ∧ tk.toInt ≤ 20000) (b_lw : (0 : Int) ≤ lw.toInt ∧ lw.toInt ≤ 9) (hl1 : tk.toInt ≤ (nl : Int)) (hf1 : tk.toInt ≤ (nf : Int)) : Met l yX2_firstFitting uX2_firstFitting ({ frames := 3, cells := 0, slots := 0, locals := 68 }) (va_Pc [.ref cu, .int a1, .long a2, .long a3] (pw (dC, dI) vwCl [(cu, .inr (1, [.int ln, .int bs, .int tk, .int lw, .int li, .ref fa, .ref lu])), (lu, .inl (cL, nl, .inl fl)), (fa, .inl (cF, nf, .inr (.inl ff)))] [(cL, .int), (cF, .long)])) (vp_Si (fun r => ((-1 : Int) ≤ r.toInt ∧ r.toInt ≤ 19999))) 0 0 (fun _ => False) := by
  refine Met.ofW (cc := cX2_firstFitting) (maxL := 7) (ret := (some .int)) pn_X2 rfl ?_
  intro p e s m args below meth c s₁ B hml hv
  obtain ⟨rfl, hP, hK, hN⟩ := hv
  have hx := B.exec
  have hb := B.bytes
  have hr := B.returns
  have hts := atoms_spec (ws := uX2_firstFitting) B.pre
  have hown : s.vm.findClass RX2 = some m.cls := hown_of B.named rfl
  have hlocks := B.notSynchronized
  have hl := lv_entry ([.ref cu, .int a1, .long a2, .long a3]) (n := 7) (Nat.le_of_ble_eq_true rfl)
  rw [lg_entry_eq]
  generalize (lg_sl ([.ref cu, .int a1, .long a2, .long a3]) ++ List.replicate (7 - (lg_sl ([.ref cu, .int a1, .long a2, .long a3])).length) Slot.unset).toArray = ls at hl ⊢
  have hl : lv_has ls 7 [(0, .ref cu), (1, .int a1), (2, .long a2), (4, .long a3)] := hl
  refine lv_iconst (v := 0) hx hb dX2_firstFitting_0 (by decide) ?_
  refine lv_istore (lv' := [(6, .int 0), (0, .ref cu), (1, .int a1), (2, .long a2), (4, .long a3)]) hx hb dX2_firstFitting_1 hl (by decide) rfl (fun ls hl => ?_)
  refine loopP (σ := Int32) (fun v => (20000 - v.toInt).toNat) (fun v ls => ((0 : Int) ≤ v.toInt ∧ v.toInt ≤ 20000) ∧ lv_has ls 7 [(6, .int v), (0, .ref cu), (1, .int a1), (2, .long a2), (4, .long a3)]) (fun v ls hI ih_3_102 => ?_) (0 : Int32) ⟨(show (0 : Int) ≤ (0 : Int32).toInt ∧ (0 : Int32).toInt ≤ 20000 from (rg_w (by decide : (0 : Int) ≤ (0 : Int32).toInt ∧ (0 : Int32).toInt ≤ 0) (by decide) (by decide))), lv_sub hl [0, 1, 2, 3, 4] rfl⟩
  obtain ⟨y_58, rfl⟩ : ∃ z, z = v := ⟨_, rfl⟩
  obtain ⟨b_y_58, hl⟩ := hI
  have b_y_58 : (0 : Int) ≤ y_58.toInt ∧ y_58.toInt ≤ 20000 := b_y_58
  have hl : lv_has ls 7 [(6, .int y_58), (0, .ref cu), (1, .int a1), (2, .long a2), (4, .long a3)] := hl
  refine lv_iload hx hb dX2_firstFitting_3 (lv_at hl 0 rfl) ?_
  refine lv_aload_n hx hb dX2_firstFitting_5 rfl (lv_at hl 1 rfl) ?_
  refine va_get (D := (dC, dI)) (ci := 1) (v := .int tk) (C := RX2) (T := TX2) (N := 7) hx hb hts iX2_firstFitting_X2 hown hK hP 0 rfl rfl 2 (by decide) (hts (.fieldLink RX2 42 "LuckyTicket$Roll" "tickets" "I") (List.mem_of_getElem? (i := 1) rfl)) (fun _ h9 => h9) rfl dX2_firstFitting_6 ?_
  refine lv_icmp_ge (tgt := 34) hx hb dX2_firstFitting_9 (by decide) (fun c_103 => ?_) (fun c_103 => ?_)
  ·
    have n_c_103 : (tk.toInt : Int) ≤ y_58.toInt := c_ge rfl rfl c_103
    refine lv_iconst (v := (-1)) hx hb dX2_firstFitting_34 (by decide) ?_
    exact W.iret (v := (-1)) hx hb hr (fun t ht hW => ⟨(-1), rfl, (rg_w (by decide : (-1 : Int) ≤ ((-1) : Int32).toInt ∧ ((-1) : Int32).toInt ≤ -1) (by decide) (by decide)), ht⟩) t_nil dX2_firstFitting_35
  ·
    have n_c_103 : (y_58.toInt : Int) < tk.toInt := c_nge rfl rfl c_103
    have b_y_58 : (0 : Int) ≤ y_58.toInt ∧ y_58.toInt ≤ 19999 := r_lt1 b_y_58 b_tk n_c_103 (by decide)
    have b_tk : (1 : Int) ≤ tk.toInt ∧ tk.toInt ≤ 20000 := r_lt2 b_y_58 b_tk n_c_103 (by decide)
    refine lv_aload_n hx hb dX2_firstFitting_12 rfl (lv_at hl 1 rfl) ?_
    refine lv_iload_n hx hb dX2_firstFitting_13 rfl (lv_at hl 2 rfl) ?_
    refine lv_iload hx hb dX2_firstFitting_14 (lv_at hl 0 rfl) ?_
    refine lv_lload_n hx hb dX2_firstFitting_16 rfl (lv_at hl 3 rfl) ?_
    refine lv_lload hx hb dX2_firstFitting_17 (lv_at hl 4 rfl) ?_
    refine vp_callSi (W.runV (As := [.int a1, .int y_58, .long a2, .long a3]) (rest := []) ⟨hx, hb, hml, hown, hts⟩ (kX2_isFitting l dC dI cu ln bs tk lw li fa lu cL nl fl cF nf ff a1 y_58 a2 a3 b_ln b_bs (rg_w b_tk (by decide) (by decide)) b_lw (by omega) (by omega)) (cwV 4 hts gX2_firstFitting__X2_isFitting_V96 rfl rfl rfl hd_yX2_isFitting ⟨lel 3 3 rfl, lel 68 68 rfl⟩) ⟨pw_fb, rcv_X2 hK hP (q0 := 0) rfl, (pw_use hP hK hN [0, 1, 2] rfl [0, 1] rfl)⟩ rfl rfl hl.1 rfl (lv_room (Nat.le_of_ble_eq_true rfl)) dX2_firstFitting_19 ⟨lel 0 0 rfl, lel 0 0 rfl⟩) (fun r_104 h_r_104 => ?_)
    have b_r_104 := h_r_104
    have b_r_104 : (0 : Int) ≤ r_104.toInt ∧ r_104.toInt ≤ 1 := b_r_104
    refine lv_if_eq (tgt := 28) hx hb dX2_firstFitting_22 (by decide) (fun c_105 => ?_) (fun c_105 => ?_)
    ·
      have n_c_105 : (r_104.toInt : Int) = 0 := c_eq rfl (by decide) c_105
      have b_r_104 : (0 : Int) ≤ r_104.toInt ∧ r_104.toInt ≤ 0 := r_eq1 b_r_104 (by decide : (0 : Int) ≤ (0 : Int32).toInt ∧ (0 : Int32).toInt ≤ 0) n_c_105 (by decide)
      obtain ⟨z_106, e_z_106⟩ : ∃ y : Int32, y = y_58 + 1 := ⟨_, rfl⟩
      refine lv_iinc (v := z_106) (lv' := [(6, .int z_106), (0, .ref cu), (1, .int a1), (2, .long a2), (4, .long a3)]) hx hb dX2_firstFitting_28 hl (k := 0) rfl (by rw [e_z_106]; rfl) (by decide) rfl (fun ls hl => ?_)
      obtain ⟨q_z_106, b_z_106⟩ := ti_add (lo := 1) (hi := 20000) e_z_106 rfl (by decide : (1 : Int32).toInt = 1) b_y_58 (by decide : (1 : Int) ≤ (1 : Int32).toInt ∧ (1 : Int32).toInt ≤ 1) (by decide)
      refine lv_goto (tgt := 3) hx hb dX2_firstFitting_31 (by decide) ?_
      exact ih_3_102 z_106 _ ⟨(show (0 : Int) ≤ z_106.toInt ∧ z_106.toInt ≤ 20000 from (rg_w b_z_106 (by decide) (by decide))), lv_sub hl [0, 1, 2, 3, 4] rfl⟩ (show (20000 - z_106.toInt).toNat < (20000 - y_58.toInt).toNat by omega)
    ·
      have n_c_105 : (r_104.toInt : Int) ≠ 0 := c_ne rfl (by decide) c_105
      have b_r_104 : (1 : Int) ≤ r_104.toInt ∧ r_104.toInt ≤ 1 := r_ne1 b_r_104 (by decide : (0 : Int) ≤ (0 : Int32).toInt ∧ (0 : Int32).toInt ≤ 0) n_c_105 (by decide)
      refine lv_iload hx hb dX2_firstFitting_25 (lv_at hl 0 rfl) ?_
      exact W.iret (v := y_58) hx hb hr (fun t ht hW => ⟨y_58, rfl, (rg_w b_y_58 (by decide) (by decide)), ht⟩) t_nil dX2_firstFitting_27
theorem dX2_fewestChanges_0 : decode cX2_fewestChanges 0 = .ok (.aload_n 0, 1) := by decide +kernel
theorem dX2_fewestChanges_1 : decode cX2_fewestChanges 1 = .ok (.iload_n 2, 1) := by decide +kernel
theorem dX2_fewestChanges_2 : decode cX2_fewestChanges 2 = .ok (.invokevirtual 92, 3) := by decide +kernel
theorem dX2_fewestChanges_5 : decode cX2_fewestChanges 5 = .ok (.lstore_n 3, 1) := by decide +kernel
theorem dX2_fewestChanges_6 : decode cX2_fewestChanges 6 = .ok (.iconst (-1), 1) := by decide +kernel
theorem dX2_fewestChanges_7 : decode cX2_fewestChanges 7 = .ok (.istore 5, 2) := by decide +kernel
theorem dX2_fewestChanges_9 : decode cX2_fewestChanges 9 = .ok (.iconst 0, 1) := by decide +kernel
theorem dX2_fewestChanges_10 : decode cX2_fewestChanges 10 = .ok (.istore 6, 2) := by decide +kernel
theorem dX2_fewestChanges_12 : decode cX2_fewestChanges 12 = .ok (.iload 6, 2) := by decide +kernel
theorem dX2_fewestChanges_14 : decode cX2_fewestChanges 14 = .ok (.aload_n 0, 1) := by decide +kernel
theorem dX2_fewestChanges_15 : decode cX2_fewestChanges 15 = .ok (.getfield 42, 3) := by decide +kernel
theorem dX2_fewestChanges_18 : decode cX2_fewestChanges 18 = .ok (.if_icmp .ge 51, 3) := by decide +kernel
theorem dX2_fewestChanges_21 : decode cX2_fewestChanges 21 = .ok (.aload_n 0, 1) := by decide +kernel
theorem dX2_fewestChanges_22 : decode cX2_fewestChanges 22 = .ok (.iload_n 1, 1) := by decide +kernel
theorem dX2_fewestChanges_23 : decode cX2_fewestChanges 23 = .ok (.iload 6, 2) := by decide +kernel
theorem dX2_fewestChanges_25 : decode cX2_fewestChanges 25 = .ok (.invokevirtual 67, 3) := by decide +kernel
theorem dX2_fewestChanges_28 : decode cX2_fewestChanges 28 = .ok (.ifCond .eq 35, 3) := by decide +kernel
theorem dX2_fewestChanges_31 : decode cX2_fewestChanges 31 = .ok (.lload_n 3, 1) := by decide +kernel
theorem dX2_fewestChanges_32 : decode cX2_fewestChanges 32 = .ok (.aload_n 0, 1) := by decide +kernel
theorem dX2_fewestChanges_33 : decode cX2_fewestChanges 33 = .ok (.iload 6, 2) := by decide +kernel
theorem dX2_fewestChanges_35 : decode cX2_fewestChanges 35 = .ok (.invokevirtual 92, 3) := by decide +kernel
theorem dX2_fewestChanges_38 : decode cX2_fewestChanges 38 = .ok (.invokestatic 100, 3) := by decide +kernel
theorem dX2_fewestChanges_41 : decode cX2_fewestChanges 41 = .ok (.istore 7, 2) := by decide +kernel
theorem dX2_fewestChanges_43 : decode cX2_fewestChanges 43 = .ok (.iload 5, 2) := by decide +kernel
theorem dX2_fewestChanges_45 : decode cX2_fewestChanges 45 = .ok (.iconst (-1), 1) := by decide +kernel
theorem dX2_fewestChanges_46 : decode cX2_fewestChanges 46 = .ok (.if_icmp .ne 8, 3) := by decide +kernel
theorem dX2_fewestChanges_49 : decode cX2_fewestChanges 49 = .ok (.iload 7, 2) := by decide +kernel
theorem dX2_fewestChanges_51 : decode cX2_fewestChanges 51 = .ok (.goto 10, 3) := by decide +kernel
theorem dX2_fewestChanges_54 : decode cX2_fewestChanges 54 = .ok (.iload 5, 2) := by decide +kernel
theorem dX2_fewestChanges_56 : decode cX2_fewestChanges 56 = .ok (.iload 7, 2) := by decide +kernel
theorem dX2_fewestChanges_58 : decode cX2_fewestChanges 58 = .ok (.invokestatic 78, 3) := by decide +kernel
theorem dX2_fewestChanges_61 : decode cX2_fewestChanges 61 = .ok (.istore 5, 2) := by decide +kernel
theorem dX2_fewestChanges_63 : decode cX2_fewestChanges 63 = .ok (.iinc 6 1, 3) := by decide +kernel
theorem dX2_fewestChanges_66 : decode cX2_fewestChanges 66 = .ok (.goto (-54), 3) := by decide +kernel
theorem dX2_fewestChanges_69 : decode cX2_fewestChanges 69 = .ok (.iload 5, 2) := by decide +kernel
theorem dX2_fewestChanges_71 : decode cX2_fewestChanges 71 = .ok (.ireturn, 1) := by decide +kernel
theorem hd_yX2_fewestChanges : yX2_fewestChanges.cls = RX2 ∧ yX2_fewestChanges.cls ≠ "java/lang/invoke/MethodHandle" ∧ yX2_fewestChanges.cls ≠ "java/lang/invoke/VarHandle" ∧ (parseMethodDescriptor yX2_fewestChanges.desc).map (fun d => d.parameters.length) = some 2 := by decide +kernel
def uX2_fewestChanges : List Cond := List.cons (.code yX2_fewestChanges cX2_fewestChanges 8 (some .int)) (HAppend.hAppend ([.methodLink RX2 92 yX2_faceOf, .instanceMethod yX2_faceOf, .selects RX2 yX2_faceOf yX2_faceOf, .initialized RX2, .fieldLink RX2 42 "LuckyTicket$Roll" "tickets" "I", .methodLink RX2 67 yX2_isLucky, .instanceMethod yX2_isLucky, .selects RX2 yX2_isLucky yX2_isLucky, .methodLink RX2 100 yX0_changes, .static yX0_changes, .initialized RX0, .methodLink RX2 78 yJ9_min_7cf53, .static yJ9_min_7cf53, .initialized RJ9, .code yJ9_min_7cf53 cJ9_min_7cf53 2 (some .int)] : List Cond) (HAppend.hAppend uX2_faceOf (HAppend.hAppend uX2_isLucky (HAppend.hAppend uX0_changes wsX20))))
theorem iX2_fewestChanges_X2 : ∀ w ∈ wsX20, w ∈ uX2_fewestChanges := fun _ h => (List.mem_cons_of_mem _ (List.mem_append_right _ (List.mem_append_right _ (List.mem_append_right _ (List.mem_append_right _ h)))))
theorem guX2_fewestChanges : GU uX2_fewestChanges := gu_cons (gu_app (by decide +kernel) (gu_ap guX2_faceOf (gu_ap guX2_isLucky (gu_ap guX0_changes gws_X2))))
theorem gX2_fewestChanges__X2_faceOf_V92 : GoodIn uX2_fewestChanges (wsV RX2 92 RX2 yX2_faceOf uX2_faceOf) := gin_V (List.mem_of_getElem? (i := 1) rfl) (List.mem_of_getElem? (i := 2) rfl) (List.mem_of_getElem? (i := 3) rfl) (List.mem_of_getElem? (i := 4) rfl) (fun _ h => (List.mem_cons_of_mem _ (List.mem_append_right _ (List.mem_append_left _ h)))) guX2_faceOf
theorem gX2_fewestChanges__X2_isLucky_V67 : GoodIn uX2_fewestChanges (wsV RX2 67 RX2 yX2_isLucky uX2_isLucky) := gin_V (List.mem_of_getElem? (i := 6) rfl) (List.mem_of_getElem? (i := 7) rfl) (List.mem_of_getElem? (i := 8) rfl) (List.mem_of_getElem? (i := 4) rfl) (fun _ h => (List.mem_cons_of_mem _ (List.mem_append_right _ (List.mem_append_right _ (List.mem_append_left _ h))))) guX2_isLucky
theorem gX2_fewestChanges__X0_changes_S100 : GoodIn uX2_fewestChanges (va_wsS RX2 100 yX0_changes uX0_changes) := gin_S (List.mem_of_getElem? (i := 9) rfl) (List.mem_of_getElem? (i := 10) rfl) (List.mem_of_getElem? (i := 11) rfl) (fun _ h => (List.mem_cons_of_mem _ (List.mem_append_right _ (List.mem_append_right _ (List.mem_append_right _ (List.mem_append_left _ h)))))) guX0_changes
set_option maxHeartbeats 4000000 in
set_option maxRecDepth 100000 in
theorem kX2_fewestChanges (l : Launch) (dC : Nat → ClassId) (dI : Nat → Nat → Nat) (cu : Nat) (ln : Int32) (bs : Int32) (tk : Int32) (lw : Int32) (li : Int32) (fa : Nat) (lu : Nat) (cL : ClassId) (nl : Nat) (fl : Nat → Int32) (cF : ClassId) (nf : Nat) (ff : Nat → Int64) (a1 : Int32) (a2 : Int32) (b_ln : (0 : Int) ≤ ln.toInt ∧ ln.toInt ≤ 12) (b_bs : (0 : Int) ≤ bs.toInt ∧ bs.toInt ≤ 16) (b_tk : (0 : Int) ≤ tk.toInt ∧ tk.toInt ≤ 20000) (b_lw : (0 : Int) ≤ lw.toInt ∧ lw.toInt ≤ 9) (hl1 : tk.toInt ≤ (nl : Int)) (hf1 : tk.toInt ≤ (nf : Int)) : Met l yX2_fewestChanges uX2_fewestChanges ({ frames := 2, cells := 0, slots := 0, locals := 46 }) (va_Pc [.ref cu, .int a1, .int a2] (pw (dC, dI) vwCl [(cu, .inr (1, [.int ln, .int bs, .int tk, .int lw, .int li, .ref fa, .ref lu])), (lu, .inl (cL, nl, .inl fl)), (fa, .inl (cF, nf, .inr (.inl ff)))] [(cL, .int), (cF, .long)])) (vp_Si (fun r => ((-1 : Int) ≤ r.toInt ∧ r.toInt ≤ 127))) 0 0 (fun _ => False) := by
  refine Met.ofW (cc := cX2_fewestChanges) (maxL := 8) (ret := (some .int)) pn_X2 rfl ?_
  intro p e s m args below meth c s₁ B hml hv
  obtain ⟨rfl, hP, hK, hN⟩ := hv
  have hx := B.exec
  have hb := B.bytes
  have hr := B.returns
  have hts := atoms_spec (ws := uX2_fewestChanges) B.pre
  have hown : s.vm.findClass RX2 = some m.cls := hown_of B.named rfl
  have hlocks := B.notSynchronized
  have hl := lv_entry ([.ref cu, .int a1, .int a2]) (n := 8) (Nat.le_of_ble_eq_true rfl)
  rw [lg_entry_eq]
  generalize (lg_sl ([.ref cu, .int a1, .int a2]) ++ List.replicate (8 - (lg_sl ([.ref cu, .int a1, .int a2])).length) Slot.unset).toArray = ls at hl ⊢
  have hl : lv_has ls 8 [(0, .ref cu), (1, .int a1), (2, .int a2)] := hl
  refine lv_aload_n hx hb dX2_fewestChanges_0 rfl (lv_at hl 0 rfl) ?_
  refine lv_iload_n hx hb dX2_fewestChanges_1 rfl (lv_at hl 2 rfl) ?_
  refine vp_callSl (W.runV (As := [.int a2]) (rest := []) ⟨hx, hb, hml, hown, hts⟩ (kX2_faceOf l dC dI cu ln bs tk lw li fa lu cF nf ff a2 b_ln b_bs b_tk b_lw (by omega)) (cwV 1 hts gX2_fewestChanges__X2_faceOf_V92 rfl rfl rfl hd_yX2_faceOf ⟨lel 2 2 rfl, lel 42 46 rfl⟩) ⟨pw_fb, rcv_X2 hK hP (q0 := 0) rfl, (pw_use hP hK hN [0, 2] rfl [1] rfl)⟩ rfl rfl hl.1 rfl (lv_room (Nat.le_of_ble_eq_true rfl)) dX2_fewestChanges_2 ⟨lel 0 0 rfl, lel 0 0 rfl⟩) (fun r_219 h_r_219 => ?_)
  refine lv_lstore_n (lv' := [(3, .long r_219), (0, .ref cu), (1, .int a1), (2, .int a2)]) hx hb dX2_fewestChanges_5 rfl hl (by decide) rfl (fun ls hl => ?_)
  refine lv_iconst (v := (-1)) hx hb dX2_fewestChanges_6 (by decide) ?_
  refine lv_istore (lv' := [(5, .int (-1)), (3, .long r_219), (0, .ref cu), (1, .int a1), (2, .int a2)]) hx hb dX2_fewestChanges_7 hl (by decide) rfl (fun ls hl => ?_)
  refine lv_iconst (v := 0) hx hb dX2_fewestChanges_9 (by decide) ?_
  refine lv_istore (lv' := [(6, .int 0), (5, .int (-1)), (3, .long r_219), (0, .ref cu), (1, .int a1), (2, .int a2)]) hx hb dX2_fewestChanges_10 hl (by decide) rfl (fun ls hl => ?_)
  refine loopP (σ := Int32 × Int32) (fun v => (20000 - v.1.toInt).toNat) (fun v ls => ((0 : Int) ≤ v.1.toInt ∧ v.1.toInt ≤ 20000) ∧ ((-1 : Int) ≤ v.2.toInt ∧ v.2.toInt ≤ 127) ∧ lv_has ls 8 [(6, .int v.1), (5, .int v.2), (3, .long r_219), (0, .ref cu), (1, .int a1), (2, .int a2)]) (fun v ls hI ih_12_419 => ?_) ((0 : Int32), (-1 : Int32)) ⟨(show (0 : Int) ≤ (0 : Int32).toInt ∧ (0 : Int32).toInt ≤ 20000 from (rg_w (by decide : (0 : Int) ≤ (0 : Int32).toInt ∧ (0 : Int32).toInt ≤ 0) (by decide) (by decide))), (show (-1 : Int) ≤ (-1 : Int32).toInt ∧ (-1 : Int32).toInt ≤ 127 from (rg_w (by decide : (-1 : Int) ≤ ((-1) : Int32).toInt ∧ ((-1) : Int32).toInt ≤ -1) (by decide) (by decide))), lv_sub hl [0, 1, 2, 3, 4, 5] rfl⟩
  obtain ⟨y_231, y_232⟩ := v
  obtain ⟨b_y_231, b_y_232, hl⟩ := hI
  have b_y_231 : (0 : Int) ≤ y_231.toInt ∧ y_231.toInt ≤ 20000 := b_y_231
  have b_y_232 : (-1 : Int) ≤ y_232.toInt ∧ y_232.toInt ≤ 127 := b_y_232
  have hl : lv_has ls 8 [(6, .int y_231), (5, .int y_232), (3, .long r_219), (0, .ref cu), (1, .int a1), (2, .int a2)] := hl
  refine lv_iload hx hb dX2_fewestChanges_12 (lv_at hl 0 rfl) ?_
  refine lv_aload_n hx hb dX2_fewestChanges_14 rfl (lv_at hl 3 rfl) ?_
  refine va_get (D := (dC, dI)) (ci := 1) (v := .int tk) (C := RX2) (T := TX2) (N := 7) hx hb hts iX2_fewestChanges_X2 hown hK hP 0 rfl rfl 2 (by decide) (hts (.fieldLink RX2 42 "LuckyTicket$Roll" "tickets" "I") (List.mem_of_getElem? (i := 5) rfl)) (fun _ h9 => h9) rfl dX2_fewestChanges_15 ?_
  refine lv_icmp_ge (tgt := 69) hx hb dX2_fewestChanges_18 (by decide) (fun c_420 => ?_) (fun c_420 => ?_)
  ·
    have n_c_420 : (tk.toInt : Int) ≤ y_231.toInt := c_ge rfl rfl c_420
    refine lv_iload hx hb dX2_fewestChanges_69 (lv_at hl 1 rfl) ?_
    exact W.iret (v := y_232) hx hb hr (fun t ht hW => ⟨y_232, rfl, b_y_232, ht⟩) t_nil dX2_fewestChanges_71
  ·
    have n_c_420 : (y_231.toInt : Int) < tk.toInt := c_nge rfl rfl c_420
    have b_y_231 : (0 : Int) ≤ y_231.toInt ∧ y_231.toInt ≤ 19999 := r_lt1 b_y_231 b_tk n_c_420 (by decide)
    have b_tk : (1 : Int) ≤ tk.toInt ∧ tk.toInt ≤ 20000 := r_lt2 b_y_231 b_tk n_c_420 (by decide)
    refine lv_aload_n hx hb dX2_fewestChanges_21 rfl (lv_at hl 3 rfl) ?_
    refine lv_iload_n hx hb dX2_fewestChanges_22 rfl (lv_at hl 4 rfl) ?_
    refine lv_iload hx hb dX2_fewestChanges_23 (lv_at hl 0 rfl) ?_
    refine vp_callSi (W.runV (As := [.int a1, .int y_231]) (rest := []) ⟨hx, hb, hml, hown, hts⟩ (kX2_isLucky l dC dI cu ln bs tk lw li fa lu cL nl fl a1 y_231 b_ln b_bs (rg_w b_tk (by decide) (by decide)) b_lw (by omega)) (cwV 2 hts gX2_fewestChanges__X2_isLucky_V67 rfl rfl rfl hd_yX2_isLucky ⟨lel 1 2 rfl, lel 22 46 rfl⟩) ⟨pw_fb, rcv_X2 hK hP (q0 := 0) rfl, (pw_use hP hK hN [0, 1] rfl [0] rfl)⟩ rfl rfl hl.1 rfl (lv_room (Nat.le_of_ble_eq_true rfl)) dX2_fewestChanges_25 ⟨lel 0 0 rfl, lel 0 0 rfl⟩) (fun r_421 h_r_421 => ?_)
    have b_r_421 := h_r_421
    have b_r_421 : (0 : Int) ≤ r_421.toInt ∧ r_421.toInt ≤ 1 := b_r_421
    refine cutP (σ := Int32) (pc2 := 63) (st2 := fun v => []) (cells2 := 0) (slots2 := 0) (fun v ls => ((-1 : Int) ≤ v.toInt ∧ v.toInt ≤ 127) ∧ lv_has ls 8 [(6, .int y_231), (5, .int v), (3, .long r_219), (0, .ref cu), (1, .int a1), (2, .int a2)]) (fun v ls hI => ?_) (fun hj_63_429 => ?_)
    ·
      obtain ⟨y_429, rfl⟩ : ∃ z, z = v := ⟨_, rfl⟩
      obtain ⟨b_y_429, hl⟩ := hI
      have b_y_429 : (-1 : Int) ≤ y_429.toInt ∧ y_429.toInt ≤ 127 := b_y_429
      have hl : lv_has ls 8 [(6, .int y_231), (5, .int y_429), (3, .long r_219), (0, .ref cu), (1, .int a1), (2, .int a2)] := hl
      obtain ⟨z_430, e_z_430⟩ : ∃ y : Int32, y = y_231 + 1 := ⟨_, rfl⟩
      refine lv_iinc (v := z_430) (lv' := [(6, .int z_430), (5, .int y_429), (3, .long r_219), (0, .ref cu), (1, .int a1), (2, .int a2)]) hx hb dX2_fewestChanges_63 hl (k := 0) rfl (by rw [e_z_430]; rfl) (by decide) rfl (fun ls hl => ?_)
      obtain ⟨q_z_430, b_z_430⟩ := ti_add (lo := 1) (hi := 20000) e_z_430 rfl (by decide : (1 : Int32).toInt = 1) b_y_231 (by decide : (1 : Int) ≤ (1 : Int32).toInt ∧ (1 : Int32).toInt ≤ 1) (by decide)
      refine lv_goto (tgt := 12) hx hb dX2_fewestChanges_66 (by decide) ?_
      exact ih_12_419 (z_430, y_429) _ ⟨(show (0 : Int) ≤ z_430.toInt ∧ z_430.toInt ≤ 20000 from (rg_w b_z_430 (by decide) (by decide))), (show (-1 : Int) ≤ y_429.toInt ∧ y_429.toInt ≤ 127 from b_y_429), lv_sub hl [0, 1, 2, 3, 4, 5] rfl⟩ (show (20000 - z_430.toInt).toNat < (20000 - y_231.toInt).toNat by omega)
    ·
      refine lv_if_eq (tgt := 63) hx hb dX2_fewestChanges_28 (by decide) (fun c_422 => ?_) (fun c_422 => ?_)
      ·
        have n_c_422 : (r_421.toInt : Int) = 0 := c_eq rfl (by decide) c_422
        have b_r_421 : (0 : Int) ≤ r_421.toInt ∧ r_421.toInt ≤ 0 := r_eq1 b_r_421 (by decide : (0 : Int) ≤ (0 : Int32).toInt ∧ (0 : Int32).toInt ≤ 0) n_c_422 (by decide)
        exact hj_63_429 y_232 _ ⟨(show (-1 : Int) ≤ y_232.toInt ∧ y_232.toInt ≤ 127 from b_y_232), lv_sub hl [0, 1, 2, 3, 4, 5] rfl⟩
      ·
        have n_c_422 : (r_421.toInt : Int) ≠ 0 := c_ne rfl (by decide) c_422
        have b_r_421 : (1 : Int) ≤ r_421.toInt ∧ r_421.toInt ≤ 1 := r_ne1 b_r_421 (by decide : (0 : Int) ≤ (0 : Int32).toInt ∧ (0 : Int32).toInt ≤ 0) n_c_422 (by decide)
        refine lv_lload_n hx hb dX2_fewestChanges_31 rfl (lv_at hl 2 rfl) ?_
        refine lv_aload_n hx hb dX2_fewestChanges_32 rfl (lv_at hl 3 rfl) ?_
        refine lv_iload hx hb dX2_fewestChanges_33 (lv_at hl 0 rfl) ?_
        refine vp_callSl (W.runV (As := [.int y_231]) (rest := [.long r_219]) ⟨hx, hb, hml, hown, hts⟩ (kX2_faceOf l dC dI cu ln bs tk lw li fa lu cF nf ff y_231 b_ln b_bs (rg_w b_tk (by decide) (by decide)) b_lw (by omega)) (cwV 1 hts gX2_fewestChanges__X2_faceOf_V92 rfl rfl rfl hd_yX2_faceOf ⟨lel 2 2 rfl, lel 42 46 rfl⟩) ⟨pw_fb, rcv_X2 hK hP (q0 := 0) rfl, (pw_use hP hK hN [0, 2] rfl [1] rfl)⟩ rfl rfl hl.1 rfl (lv_room (Nat.le_of_ble_eq_true rfl)) dX2_fewestChanges_35 ⟨lel 0 0 rfl, lel 0 0 rfl⟩) (fun r_431 h_r_431 => ?_)
        refine vp_callSi (W.runS (As := [.long r_219, .long r_431]) (rest := []) ⟨hx, hb, hml, hown, hts⟩ (kX0_changes l dC dI r_219 r_431 ) (va_cwS 2 hts gX2_fewestChanges__X0_changes_S100 rfl rfl rfl hd_yX0_changes.2 ⟨lel 2 2 rfl, lel 46 46 rfl⟩) ⟨pn_fb, pn_use⟩ rfl rfl hl.1 rfl (lv_room (Nat.le_of_ble_eq_true rfl)) dX2_fewestChanges_38 ⟨lel 0 0 rfl, lel 0 0 rfl⟩) (fun r_432 h_r_432 => ?_)
        have b_r_432 := h_r_432
        have b_r_432 : (0 : Int) ≤ r_432.toInt ∧ r_432.toInt ≤ 127 := b_r_432
        refine lv_istore (lv' := [(7, .int r_432), (6, .int y_231), (5, .int y_232), (3, .long r_219), (0, .ref cu), (1, .int a1), (2, .int a2)]) hx hb dX2_fewestChanges_41 hl (by decide) rfl (fun ls hl => ?_)
        refine lv_iload hx hb dX2_fewestChanges_43 (lv_at hl 2 rfl) ?_
        refine lv_iconst (v := (-1)) hx hb dX2_fewestChanges_45 (by decide) ?_
        refine cutP (σ := Int32) (pc2 := 61) (st2 := fun v => [.int v]) (cells2 := 0) (slots2 := 0) (fun v ls => ((0 : Int) ≤ v.toInt ∧ v.toInt ≤ 127) ∧ lv_has ls 8 [(7, .int r_432), (6, .int y_231), (5, .int y_232), (3, .long r_219), (0, .ref cu), (1, .int a1), (2, .int a2)]) (fun v ls hI => ?_) (fun hj_61_435 => ?_)
        ·
          obtain ⟨y_435, rfl⟩ : ∃ z, z = v := ⟨_, rfl⟩
          obtain ⟨b_y_435, hl⟩ := hI
          have b_y_435 : (0 : Int) ≤ y_435.toInt ∧ y_435.toInt ≤ 127 := b_y_435
          have hl : lv_has ls 8 [(7, .int r_432), (6, .int y_231), (5, .int y_232), (3, .long r_219), (0, .ref cu), (1, .int a1), (2, .int a2)] := hl
          refine lv_istore (lv' := [(5, .int y_435), (7, .int r_432), (6, .int y_231), (3, .long r_219), (0, .ref cu), (1, .int a1), (2, .int a2)]) hx hb dX2_fewestChanges_61 hl (by decide) rfl (fun ls hl => ?_)
          exact hj_63_429 y_435 _ ⟨(show (-1 : Int) ≤ y_435.toInt ∧ y_435.toInt ≤ 127 from (rg_w b_y_435 (by decide) (by decide))), lv_sub hl [2, 0, 3, 4, 5, 6] rfl⟩
        ·
          refine lv_icmp_ne (tgt := 54) hx hb dX2_fewestChanges_46 (by decide) (fun c_433 => ?_) (fun c_433 => ?_)
          ·
            have n_c_433 : (y_232.toInt : Int) ≠ (-1) := c_ne rfl (by decide) c_433
            have b_y_232 : (0 : Int) ≤ y_232.toInt ∧ y_232.toInt ≤ 127 := r_ne1 b_y_232 (by decide : (-1 : Int) ≤ ((-1) : Int32).toInt ∧ ((-1) : Int32).toInt ≤ -1) n_c_433 (by decide)
            refine lv_iload hx hb dX2_fewestChanges_54 (lv_at hl 2 rfl) ?_
            refine lv_iload hx hb dX2_fewestChanges_56 (lv_at hl 0 rfl) ?_
            refine va_mmin hx hb (hml.trans hl.1.symm) hown (hts (.methodLink RX2 78 yJ9_min_7cf53) (List.mem_of_getElem? (i := 12) rfl)) (hts (.static yJ9_min_7cf53) (List.mem_of_getElem? (i := 13) rfl)) (hts (.initialized RJ9) (List.mem_of_getElem? (i := 14) rfl)) (hts (.code yJ9_min_7cf53 cJ9_min_7cf53 2 (some .int)) (List.mem_of_getElem? (i := 15) rfl)) (lel 1 2 rfl) (Nat.le_of_ble_eq_true rfl) (lel 0 0 rfl) (lel 0 0 rfl) dX2_fewestChanges_58 ?_
            refine lv_topi (fun z_436 e_z_436 => ?_)
            have q_z_436 := ti_min e_z_436 rfl rfl
            have b_z_436 : (0 : Int) ≤ z_436.toInt ∧ z_436.toInt ≤ 127 := by
              have q0 := b_y_232; have q1 := b_r_432
              omega
            exact hj_61_435 z_436 _ ⟨(show (0 : Int) ≤ z_436.toInt ∧ z_436.toInt ≤ 127 from b_z_436), lv_sub hl [0, 1, 2, 3, 4, 5, 6] rfl⟩
          ·
            have n_c_433 : (y_232.toInt : Int) = (-1) := c_eq rfl (by decide) c_433
            have b_y_232 : (-1 : Int) ≤ y_232.toInt ∧ y_232.toInt ≤ -1 := r_eq1 b_y_232 (by decide : (-1 : Int) ≤ ((-1) : Int32).toInt ∧ ((-1) : Int32).toInt ≤ -1) n_c_433 (by decide)
            refine lv_iload hx hb dX2_fewestChanges_49 (lv_at hl 0 rfl) ?_
            refine lv_goto (tgt := 61) hx hb dX2_fewestChanges_51 (by decide) ?_
            exact hj_61_435 r_432 _ ⟨(show (0 : Int) ≤ r_432.toInt ∧ r_432.toInt ≤ 127 from b_r_432), lv_sub hl [0, 1, 2, 3, 4, 5, 6] rfl⟩
