theorem dX3_stands_0 : decode cX3_stands 0 = .ok (.aload_n 0, 1) := by decide +kernel
theorem dX3_stands_1 : decode cX3_stands 1 = .ok (.getfield 9, 3) := by decide +kernel
theorem dX3_stands_4 : decode cX3_stands 4 = .ok (.iconst (-1), 1) := by decide +kernel
theorem dX3_stands_5 : decode cX3_stands 5 = .ok (.if_icmp .eq 7, 3) := by decide +kernel
theorem dX3_stands_8 : decode cX3_stands 8 = .ok (.iconst 1, 1) := by decide +kernel
theorem dX3_stands_9 : decode cX3_stands 9 = .ok (.goto 4, 3) := by decide +kernel
theorem dX3_stands_12 : decode cX3_stands 12 = .ok (.iconst 0, 1) := by decide +kernel
theorem dX3_stands_13 : decode cX3_stands 13 = .ok (.ireturn, 1) := by decide +kernel
theorem hd_yX3_stands : yX3_stands.cls = RX3 ∧ yX3_stands.cls ≠ "java/lang/invoke/MethodHandle" ∧ yX3_stands.cls ≠ "java/lang/invoke/VarHandle" ∧ (parseMethodDescriptor yX3_stands.desc).map (fun d => d.parameters.length) = some 0 := by decide +kernel
def uX3_stands : List Cond := List.cons (.code yX3_stands cX3_stands 1 (some .boolean)) (HAppend.hAppend ([.fieldLink RX3 9 "LuckyTicket$Row" "width" "I"] : List Cond) wsX30)
theorem iX3_stands_X3 : ∀ w ∈ wsX30, w ∈ uX3_stands := fun _ h => (List.mem_cons_of_mem _ (List.mem_append_right _ h))
theorem guX3_stands : GU uX3_stands := gu_cons (gu_app (by decide +kernel) gws_X3)
set_option maxHeartbeats 4000000 in
set_option maxRecDepth 100000 in
theorem kX3_stands (l : Launch) (dC : Nat → ClassId) (dI : Nat → Nat → Nat) (rw : Nat) (wd : Int32) (rz : Int32) (nu : Nat) (b_wd : (-1 : Int) ≤ wd.toInt ∧ wd.toInt ≤ 3) (b_rz : (0 : Int) ≤ rz.toInt ∧ rz.toInt ≤ 60) : Met l yX3_stands uX3_stands ({ frames := 0, cells := 0, slots := 0, locals := 0 }) (va_Pc [.ref rw] (pw (dC, dI) vwCl [(rw, .inr (2, [.int wd, .int rz, .ref nu]))] [])) (vp_Si (fun r => ((0 : Int) ≤ r.toInt ∧ r.toInt ≤ 1) ∧ (r ≠ 0 → ((0 : Int) ≤ wd.toInt ∧ wd.toInt ≤ 3) ∧ (True)))) 0 0 (fun _ => False) := by
  refine Met.ofW (cc := cX3_stands) (maxL := 1) (ret := (some .boolean)) pn_X3 rfl ?_
  intro p e s m args below meth c s₁ B hml hv
  obtain ⟨rfl, hP, hK, hN⟩ := hv
  have hx := B.exec
  have hb := B.bytes
  have hr := B.returns
  have hts := atoms_spec (ws := uX3_stands) B.pre
  have hown : s.vm.findClass RX3 = some m.cls := hown_of B.named rfl
  have hlocks := B.notSynchronized
  have hl := lv_entry ([.ref rw]) (n := 1) (Nat.le_of_ble_eq_true rfl)
  rw [lg_entry_eq]
  generalize (lg_sl ([.ref rw]) ++ List.replicate (1 - (lg_sl ([.ref rw])).length) Slot.unset).toArray = ls at hl ⊢
  have hl : lv_has ls 1 [(0, .ref rw)] := hl
  refine lv_aload_n hx hb dX3_stands_0 rfl (lv_at hl 0 rfl) ?_
  refine va_get (D := (dC, dI)) (ci := 2) (v := .int wd) (C := RX3) (T := TX3) (N := 3) hx hb hts iX3_stands_X3 hown hK hP 0 rfl rfl 0 (by decide) (hts (.fieldLink RX3 9 "LuckyTicket$Row" "width" "I") (List.mem_of_getElem? (i := 1) rfl)) (fun _ h9 => h9) rfl dX3_stands_1 ?_
  refine lv_iconst (v := (-1)) hx hb dX3_stands_4 (by decide) ?_
  refine lv_icmp_eq (tgt := 12) hx hb dX3_stands_5 (by decide) (fun c_2 => ?_) (fun c_2 => ?_)
  ·
    have n_c_2 : (wd.toInt : Int) = (-1) := c_eq rfl (by decide) c_2
    have b_wd : (-1 : Int) ≤ wd.toInt ∧ wd.toInt ≤ -1 := r_eq1 b_wd (by decide : (-1 : Int) ≤ ((-1) : Int32).toInt ∧ ((-1) : Int32).toInt ≤ -1) n_c_2 (by decide)
    refine lv_iconst (v := 0) hx hb dX3_stands_12 (by decide) ?_
    exact W.zret (v := 0) hx hb hr rfl (fun t ht hW => ⟨0, rfl, ⟨(rg_w (by decide : (0 : Int) ≤ (0 : Int32).toInt ∧ (0 : Int32).toInt ≤ 0) (by decide) (by decide)), (fun h9 => absurd rfl h9)⟩, ht⟩) t_nil dX3_stands_13
  ·
    have n_c_2 : (wd.toInt : Int) ≠ (-1) := c_ne rfl (by decide) c_2
    have b_wd : (0 : Int) ≤ wd.toInt ∧ wd.toInt ≤ 3 := r_ne1 b_wd (by decide : (-1 : Int) ≤ ((-1) : Int32).toInt ∧ ((-1) : Int32).toInt ≤ -1) n_c_2 (by decide)
    refine lv_iconst (v := 1) hx hb dX3_stands_8 (by decide) ?_
    refine lv_goto (tgt := 13) hx hb dX3_stands_9 (by decide) ?_
    exact W.zret (v := 1) hx hb hr rfl (fun t ht hW => ⟨1, rfl, ⟨(rg_w (by decide : (1 : Int) ≤ (1 : Int32).toInt ∧ (1 : Int32).toInt ≤ 1) (by decide) (by decide)), (fun _ => ⟨⟨by omega, by omega⟩, trivial⟩)⟩, ht⟩) t_nil dX3_stands_13
theorem dX3_hasStretch_0 : decode cX3_hasStretch 0 = .ok (.iload_n 1, 1) := by decide +kernel
theorem dX3_hasStretch_1 : decode cX3_hasStretch 1 = .ok (.ifCond .lt 25, 3) := by decide +kernel
theorem dX3_hasStretch_4 : decode cX3_hasStretch 4 = .ok (.iload_n 2, 1) := by decide +kernel
theorem dX3_hasStretch_5 : decode cX3_hasStretch 5 = .ok (.ifCond .lt 21, 3) := by decide +kernel
theorem dX3_hasStretch_8 : decode cX3_hasStretch 8 = .ok (.iload_n 1, 1) := by decide +kernel
theorem dX3_hasStretch_9 : decode cX3_hasStretch 9 = .ok (.i2l, 1) := by decide +kernel
theorem dX3_hasStretch_10 : decode cX3_hasStretch 10 = .ok (.iload_n 2, 1) := by decide +kernel
theorem dX3_hasStretch_11 : decode cX3_hasStretch 11 = .ok (.i2l, 1) := by decide +kernel
theorem dX3_hasStretch_12 : decode cX3_hasStretch 12 = .ok (.ladd, 1) := by decide +kernel
theorem dX3_hasStretch_13 : decode cX3_hasStretch 13 = .ok (.aload_n 0, 1) := by decide +kernel
theorem dX3_hasStretch_14 : decode cX3_hasStretch 14 = .ok (.getfield 19, 3) := by decide +kernel
theorem dX3_hasStretch_17 : decode cX3_hasStretch 17 = .ok (.i2l, 1) := by decide +kernel
theorem dX3_hasStretch_18 : decode cX3_hasStretch 18 = .ok (.lcmp, 1) := by decide +kernel
theorem dX3_hasStretch_19 : decode cX3_hasStretch 19 = .ok (.ifCond .gt 7, 3) := by decide +kernel
theorem dX3_hasStretch_22 : decode cX3_hasStretch 22 = .ok (.iconst 1, 1) := by decide +kernel
theorem dX3_hasStretch_23 : decode cX3_hasStretch 23 = .ok (.goto 4, 3) := by decide +kernel
theorem dX3_hasStretch_26 : decode cX3_hasStretch 26 = .ok (.iconst 0, 1) := by decide +kernel
theorem dX3_hasStretch_27 : decode cX3_hasStretch 27 = .ok (.ireturn, 1) := by decide +kernel
theorem hd_yX3_hasStretch : yX3_hasStretch.cls = RX3 ∧ yX3_hasStretch.cls ≠ "java/lang/invoke/MethodHandle" ∧ yX3_hasStretch.cls ≠ "java/lang/invoke/VarHandle" ∧ (parseMethodDescriptor yX3_hasStretch.desc).map (fun d => d.parameters.length) = some 2 := by decide +kernel
def uX3_hasStretch : List Cond := List.cons (.code yX3_hasStretch cX3_hasStretch 3 (some .boolean)) (HAppend.hAppend ([.fieldLink RX3 19 "LuckyTicket$Row" "size" "I"] : List Cond) wsX30)
theorem iX3_hasStretch_X3 : ∀ w ∈ wsX30, w ∈ uX3_hasStretch := fun _ h => (List.mem_cons_of_mem _ (List.mem_append_right _ h))
theorem guX3_hasStretch : GU uX3_hasStretch := gu_cons (gu_app (by decide +kernel) gws_X3)
set_option maxHeartbeats 4000000 in
set_option maxRecDepth 100000 in
theorem kX3_hasStretch (l : Launch) (dC : Nat → ClassId) (dI : Nat → Nat → Nat) (rw : Nat) (wd : Int32) (rz : Int32) (nu : Nat) (a1 : Int32) (a2 : Int32) (b_wd : (-1 : Int) ≤ wd.toInt ∧ wd.toInt ≤ 3) (b_rz : (0 : Int) ≤ rz.toInt ∧ rz.toInt ≤ 60) : Met l yX3_hasStretch uX3_hasStretch ({ frames := 0, cells := 0, slots := 0, locals := 0 }) (va_Pc [.ref rw, .int a1, .int a2] (pw (dC, dI) vwCl [(rw, .inr (2, [.int wd, .int rz, .ref nu]))] [])) (vp_Si (fun r => ((0 : Int) ≤ r.toInt ∧ r.toInt ≤ 1) ∧ (r ≠ 0 → ((0 : Int) ≤ a1.toInt ∧ a1.toInt ≤ 60) ∧ ((0 : Int) ≤ a2.toInt ∧ a2.toInt ≤ 60) ∧ (a1.toInt + a2.toInt ≤ rz.toInt)))) 0 0 (fun _ => False) := by
  refine Met.ofW (cc := cX3_hasStretch) (maxL := 3) (ret := (some .boolean)) pn_X3 rfl ?_
  intro p e s m args below meth c s₁ B hml hv
  obtain ⟨rfl, hP, hK, hN⟩ := hv
  have hx := B.exec
  have hb := B.bytes
  have hr := B.returns
  have hts := atoms_spec (ws := uX3_hasStretch) B.pre
  have hown : s.vm.findClass RX3 = some m.cls := hown_of B.named rfl
  have hlocks := B.notSynchronized
  have hl := lv_entry ([.ref rw, .int a1, .int a2]) (n := 3) (Nat.le_of_ble_eq_true rfl)
  rw [lg_entry_eq]
  generalize (lg_sl ([.ref rw, .int a1, .int a2]) ++ List.replicate (3 - (lg_sl ([.ref rw, .int a1, .int a2])).length) Slot.unset).toArray = ls at hl ⊢
  have hl : lv_has ls 3 [(0, .ref rw), (1, .int a1), (2, .int a2)] := hl
  refine lv_iload_n hx hb dX3_hasStretch_0 rfl (lv_at hl 1 rfl) ?_
  refine lv_if_lt (tgt := 26) hx hb dX3_hasStretch_1 (by decide) (fun c_8 => ?_) (fun c_8 => ?_)
  ·
    have n_c_8 : (a1.toInt : Int) < 0 := c_lt rfl (by decide) c_8
    have b_a1 : (-2147483648 : Int) ≤ a1.toInt ∧ a1.toInt ≤ -1 := r_lt1 (ti_rng a1) (by decide : (0 : Int) ≤ (0 : Int32).toInt ∧ (0 : Int32).toInt ≤ 0) n_c_8 (by decide)
    refine lv_iconst (v := 0) hx hb dX3_hasStretch_26 (by decide) ?_
    exact W.zret (v := 0) hx hb hr rfl (fun t ht hW => ⟨0, rfl, ⟨(rg_w (by decide : (0 : Int) ≤ (0 : Int32).toInt ∧ (0 : Int32).toInt ≤ 0) (by decide) (by decide)), (fun h9 => absurd rfl h9)⟩, ht⟩) t_nil dX3_hasStretch_27
  ·
    have n_c_8 : (0 : Int) ≤ a1.toInt := c_nlt rfl (by decide) c_8
    have b_a1 : (0 : Int) ≤ a1.toInt ∧ a1.toInt ≤ 2147483647 := r_le2 (by decide : (0 : Int) ≤ (0 : Int32).toInt ∧ (0 : Int32).toInt ≤ 0) (ti_rng a1) n_c_8 (by decide)
    refine lv_iload_n hx hb dX3_hasStretch_4 rfl (lv_at hl 2 rfl) ?_
    refine lv_if_lt (tgt := 26) hx hb dX3_hasStretch_5 (by decide) (fun c_9 => ?_) (fun c_9 => ?_)
    ·
      have n_c_9 : (a2.toInt : Int) < 0 := c_lt rfl (by decide) c_9
      have b_a2 : (-2147483648 : Int) ≤ a2.toInt ∧ a2.toInt ≤ -1 := r_lt1 (ti_rng a2) (by decide : (0 : Int) ≤ (0 : Int32).toInt ∧ (0 : Int32).toInt ≤ 0) n_c_9 (by decide)
      refine lv_iconst (v := 0) hx hb dX3_hasStretch_26 (by decide) ?_
      exact W.zret (v := 0) hx hb hr rfl (fun t ht hW => ⟨0, rfl, ⟨(rg_w (by decide : (0 : Int) ≤ (0 : Int32).toInt ∧ (0 : Int32).toInt ≤ 0) (by decide) (by decide)), (fun h9 => absurd rfl h9)⟩, ht⟩) t_nil dX3_hasStretch_27
    ·
      have n_c_9 : (0 : Int) ≤ a2.toInt := c_nlt rfl (by decide) c_9
      have b_a2 : (0 : Int) ≤ a2.toInt ∧ a2.toInt ≤ 2147483647 := r_le2 (by decide : (0 : Int) ≤ (0 : Int32).toInt ∧ (0 : Int32).toInt ≤ 0) (ti_rng a2) n_c_9 (by decide)
      refine lv_iload_n hx hb dX3_hasStretch_8 rfl (lv_at hl 1 rfl) ?_
      obtain ⟨z_10, e_z_10⟩ : ∃ y : Int64, y = a1.toInt64 := ⟨_, rfl⟩
      refine lv_i2l (v := z_10) hx hb dX3_hasStretch_9 e_z_10.symm ?_
      obtain ⟨q_z_10, b_z_10⟩ := ti_i2l e_z_10 b_a1
      refine lv_iload_n hx hb dX3_hasStretch_10 rfl (lv_at hl 2 rfl) ?_
      obtain ⟨z_11, e_z_11⟩ : ∃ y : Int64, y = a2.toInt64 := ⟨_, rfl⟩
      refine lv_i2l (v := z_11) hx hb dX3_hasStretch_11 e_z_11.symm ?_
      obtain ⟨q_z_11, b_z_11⟩ := ti_i2l e_z_11 b_a2
      refine lv_ladd hx hb dX3_hasStretch_12 ?_
      refine lv_topl (fun z_12 e_z_12 => ?_)
      obtain ⟨q_z_12, b_z_12⟩ := tl_add (lo := 0) (hi := 4294967294) e_z_12 rfl rfl b_z_10 b_z_11 (by decide)
      refine lv_aload_n hx hb dX3_hasStretch_13 rfl (lv_at hl 0 rfl) ?_
      refine va_get (D := (dC, dI)) (ci := 2) (v := .int rz) (C := RX3) (T := TX3) (N := 3) hx hb hts iX3_hasStretch_X3 hown hK hP 0 rfl rfl 1 (by decide) (hts (.fieldLink RX3 19 "LuckyTicket$Row" "size" "I") (List.mem_of_getElem? (i := 1) rfl)) (fun _ h9 => h9) rfl dX3_hasStretch_14 ?_
      obtain ⟨z_13, e_z_13⟩ : ∃ y : Int64, y = rz.toInt64 := ⟨_, rfl⟩
      refine lv_i2l (v := z_13) hx hb dX3_hasStretch_17 e_z_13.symm ?_
      obtain ⟨q_z_13, b_z_13⟩ := ti_i2l e_z_13 b_rz
      refine W.lcmp hx hb dX3_hasStretch_18 ?_
      refine lv_if_gt (tgt := 26) hx hb dX3_hasStretch_19 (by decide) (fun c_14 => ?_) (fun c_14 => ?_)
      ·
        have n_c_14 : (z_13.toInt : Int) < z_12.toInt := g_gt rfl rfl c_14
        have b_z_12 : (1 : Int) ≤ z_12.toInt ∧ z_12.toInt ≤ 4294967294 := r_lt2 b_z_13 b_z_12 n_c_14 (by decide)
        refine lv_iconst (v := 0) hx hb dX3_hasStretch_26 (by decide) ?_
        exact W.zret (v := 0) hx hb hr rfl (fun t ht hW => ⟨0, rfl, ⟨(rg_w (by decide : (0 : Int) ≤ (0 : Int32).toInt ∧ (0 : Int32).toInt ≤ 0) (by decide) (by decide)), (fun h9 => absurd rfl h9)⟩, ht⟩) t_nil dX3_hasStretch_27
      ·
        have n_c_14 : (z_12.toInt : Int) ≤ z_13.toInt := g_ngt rfl rfl c_14
        have b_z_12 : (0 : Int) ≤ z_12.toInt ∧ z_12.toInt ≤ 60 := r_le1 b_z_12 b_z_13 n_c_14 (by decide)
        have b_z_10 : (0 : Int) ≤ z_10.toInt ∧ z_10.toInt ≤ 60 := by
          have q0 := b_z_12; have q1 := q_z_12; have q2 := b_z_10; have q3 := b_z_11; omega
        have b_a1 : (0 : Int) ≤ a1.toInt ∧ a1.toInt ≤ 60 := by
          have q0 := b_z_10; have q1 := q_z_10; have q2 := b_a1; omega
        have b_z_11 : (0 : Int) ≤ z_11.toInt ∧ z_11.toInt ≤ 60 := by
          have q0 := b_z_12; have q1 := q_z_12; have q2 := b_z_11; have q3 := b_z_10; omega
        have b_a2 : (0 : Int) ≤ a2.toInt ∧ a2.toInt ≤ 60 := by
          have q0 := b_z_11; have q1 := q_z_11; have q2 := b_a2; omega
        refine lv_iconst (v := 1) hx hb dX3_hasStretch_22 (by decide) ?_
        refine lv_goto (tgt := 27) hx hb dX3_hasStretch_23 (by decide) ?_
        exact W.zret (v := 1) hx hb hr rfl (fun t ht hW => ⟨1, rfl, ⟨(rg_w (by decide : (1 : Int) ≤ (1 : Int32).toInt ∧ (1 : Int32).toInt ≤ 1) (by decide) (by decide)), (fun _ => ⟨⟨by omega, by omega⟩, ⟨by omega, by omega⟩, (by omega)⟩)⟩, ht⟩) t_nil dX3_hasStretch_27
theorem dX3_numberAt_0 : decode cX3_numberAt 0 = .ok (.iload_n 1, 1) := by decide +kernel
theorem dX3_numberAt_1 : decode cX3_numberAt 1 = .ok (.ifCond .lt 26, 3) := by decide +kernel
theorem dX3_numberAt_4 : decode cX3_numberAt 4 = .ok (.iload_n 1, 1) := by decide +kernel
theorem dX3_numberAt_5 : decode cX3_numberAt 5 = .ok (.aload_n 0, 1) := by decide +kernel
theorem dX3_numberAt_6 : decode cX3_numberAt 6 = .ok (.getfield 19, 3) := by decide +kernel
theorem dX3_numberAt_9 : decode cX3_numberAt 9 = .ok (.if_icmp .ge 18, 3) := by decide +kernel
theorem dX3_numberAt_12 : decode cX3_numberAt 12 = .ok (.iload_n 1, 1) := by decide +kernel
theorem dX3_numberAt_13 : decode cX3_numberAt 13 = .ok (.bipush 60, 2) := by decide +kernel
theorem dX3_numberAt_15 : decode cX3_numberAt 15 = .ok (.if_icmp .ge 12, 3) := by decide +kernel
theorem dX3_numberAt_18 : decode cX3_numberAt 18 = .ok (.aload_n 0, 1) := by decide +kernel
theorem dX3_numberAt_19 : decode cX3_numberAt 19 = .ok (.getfield 15, 3) := by decide +kernel
theorem dX3_numberAt_22 : decode cX3_numberAt 22 = .ok (.iload_n 1, 1) := by decide +kernel
theorem dX3_numberAt_23 : decode cX3_numberAt 23 = .ok (.laload, 1) := by decide +kernel
theorem dX3_numberAt_24 : decode cX3_numberAt 24 = .ok (.goto 6, 3) := by decide +kernel
theorem dX3_numberAt_27 : decode cX3_numberAt 27 = .ok (.ldc2_w 28, 3) := by decide +kernel
theorem dX3_numberAt_30 : decode cX3_numberAt 30 = .ok (.lreturn, 1) := by decide +kernel
theorem hd_yX3_numberAt : yX3_numberAt.cls = RX3 ∧ yX3_numberAt.cls ≠ "java/lang/invoke/MethodHandle" ∧ yX3_numberAt.cls ≠ "java/lang/invoke/VarHandle" ∧ (parseMethodDescriptor yX3_numberAt.desc).map (fun d => d.parameters.length) = some 1 := by decide +kernel
def uX3_numberAt : List Cond := List.cons (.code yX3_numberAt cX3_numberAt 2 (some .long)) (HAppend.hAppend ([.constantLong RX3 28 (-1), .fieldLink RX3 19 "LuckyTicket$Row" "size" "I", .fieldLink RX3 15 "LuckyTicket$Row" "numbers" "[J"] : List Cond) wsX30)
theorem iX3_numberAt_X3 : ∀ w ∈ wsX30, w ∈ uX3_numberAt := fun _ h => (List.mem_cons_of_mem _ (List.mem_append_right _ h))
theorem guX3_numberAt : GU uX3_numberAt := gu_cons (gu_app (by decide +kernel) gws_X3)
set_option maxHeartbeats 4000000 in
set_option maxRecDepth 100000 in
theorem kX3_numberAt (l : Launch) (dC : Nat → ClassId) (dI : Nat → Nat → Nat) (rw : Nat) (wd : Int32) (rz : Int32) (nu : Nat) (cN : ClassId) (fn : Nat → Int64) (a1 : Int32) (b_wd : (-1 : Int) ≤ wd.toInt ∧ wd.toInt ≤ 3) (b_rz : (0 : Int) ≤ rz.toInt ∧ rz.toInt ≤ 60) : Met l yX3_numberAt uX3_numberAt ({ frames := 0, cells := 0, slots := 0, locals := 0 }) (va_Pc [.ref rw, .int a1] (pw (dC, dI) vwCl [(rw, .inr (2, [.int wd, .int rz, .ref nu])), (nu, .inl (cN, 60, .inr (.inl fn)))] [(cN, .long)])) (vp_Sl (fun r => True)) 0 0 (fun _ => False) := by
  refine Met.ofW (cc := cX3_numberAt) (maxL := 2) (ret := (some .long)) pn_X3 rfl ?_
  intro p e s m args below meth c s₁ B hml hv
  obtain ⟨rfl, hP, hK, hN⟩ := hv
  have hx := B.exec
  have hb := B.bytes
  have hr := B.returns
  have hts := atoms_spec (ws := uX3_numberAt) B.pre
  have hown : s.vm.findClass RX3 = some m.cls := hown_of B.named rfl
  have hlocks := B.notSynchronized
  have hl := lv_entry ([.ref rw, .int a1]) (n := 2) (Nat.le_of_ble_eq_true rfl)
  rw [lg_entry_eq]
  generalize (lg_sl ([.ref rw, .int a1]) ++ List.replicate (2 - (lg_sl ([.ref rw, .int a1])).length) Slot.unset).toArray = ls at hl ⊢
  have hl : lv_has ls 2 [(0, .ref rw), (1, .int a1)] := hl
  refine lv_iload_n hx hb dX3_numberAt_0 rfl (lv_at hl 1 rfl) ?_
  refine lv_if_lt (tgt := 27) hx hb dX3_numberAt_1 (by decide) (fun c_5 => ?_) (fun c_5 => ?_)
  ·
    have n_c_5 : (a1.toInt : Int) < 0 := c_lt rfl (by decide) c_5
    have b_a1 : (-2147483648 : Int) ≤ a1.toInt ∧ a1.toInt ≤ -1 := r_lt1 (ti_rng a1) (by decide : (0 : Int) ≤ (0 : Int32).toInt ∧ (0 : Int32).toInt ≤ 0) n_c_5 (by decide)
    refine lv_ldc2 (v := (-1)) hx hb hown (hts (.constantLong RX3 28 (-1)) (List.mem_of_getElem? (i := 1) rfl)) dX3_numberAt_27 ?_
    exact W.lret (v := (-1)) hx hb hr (fun t ht hW => ⟨(-1), rfl, trivial, ht⟩) t_nil dX3_numberAt_30
  ·
    have n_c_5 : (0 : Int) ≤ a1.toInt := c_nlt rfl (by decide) c_5
    have b_a1 : (0 : Int) ≤ a1.toInt ∧ a1.toInt ≤ 2147483647 := r_le2 (by decide : (0 : Int) ≤ (0 : Int32).toInt ∧ (0 : Int32).toInt ≤ 0) (ti_rng a1) n_c_5 (by decide)
    refine lv_iload_n hx hb dX3_numberAt_4 rfl (lv_at hl 1 rfl) ?_
    refine lv_aload_n hx hb dX3_numberAt_5 rfl (lv_at hl 0 rfl) ?_
    refine va_get (D := (dC, dI)) (ci := 2) (v := .int rz) (C := RX3) (T := TX3) (N := 3) hx hb hts iX3_numberAt_X3 hown hK hP 0 rfl rfl 1 (by decide) (hts (.fieldLink RX3 19 "LuckyTicket$Row" "size" "I") (List.mem_of_getElem? (i := 2) rfl)) (fun _ h9 => h9) rfl dX3_numberAt_6 ?_
    refine lv_icmp_ge (tgt := 27) hx hb dX3_numberAt_9 (by decide) (fun c_6 => ?_) (fun c_6 => ?_)
    ·
      have n_c_6 : (rz.toInt : Int) ≤ a1.toInt := c_ge rfl rfl c_6
      refine lv_ldc2 (v := (-1)) hx hb hown (hts (.constantLong RX3 28 (-1)) (List.mem_of_getElem? (i := 1) rfl)) dX3_numberAt_27 ?_
      exact W.lret (v := (-1)) hx hb hr (fun t ht hW => ⟨(-1), rfl, trivial, ht⟩) t_nil dX3_numberAt_30
    ·
      have n_c_6 : (a1.toInt : Int) < rz.toInt := c_nge rfl rfl c_6
      have b_a1 : (0 : Int) ≤ a1.toInt ∧ a1.toInt ≤ 59 := r_lt1 b_a1 b_rz n_c_6 (by decide)
      have b_rz : (1 : Int) ≤ rz.toInt ∧ rz.toInt ≤ 60 := r_lt2 b_a1 b_rz n_c_6 (by decide)
      refine lv_iload_n hx hb dX3_numberAt_12 rfl (lv_at hl 1 rfl) ?_
      refine lv_bipush (v := 60) hx hb dX3_numberAt_13 (by decide) ?_
      refine lv_icmp_ge (tgt := 27) hx hb dX3_numberAt_15 (by decide) (fun c_7 => absurd (show (60 : Int) ≤ a1.toInt from c_ge rfl (by decide) c_7) (by have q1 := b_a1; have q2 := (by decide : (60 : Int) ≤ (60 : Int32).toInt ∧ (60 : Int32).toInt ≤ 60); omega)) (fun c_7 => ?_)
      refine lv_aload_n hx hb dX3_numberAt_18 rfl (lv_at hl 0 rfl) ?_
      refine va_get (D := (dC, dI)) (ci := 2) (v := .ref nu) (C := RX3) (T := TX3) (N := 3) hx hb hts iX3_numberAt_X3 hown hK hP 0 rfl rfl 2 (by decide) (hts (.fieldLink RX3 15 "LuckyTicket$Row" "numbers" "[J") (List.mem_of_getElem? (i := 3) rfl)) (fun _ h9 => h9) rfl dX3_numberAt_19 ?_
      refine lv_iload_n hx hb dX3_numberAt_22 rfl (lv_at hl 1 rfl) ?_
      refine va_lald hx hb hK hP 1 0 rfl rfl (vp_in_b b_a1 (by decide) (by decide)) dX3_numberAt_23 ?_
      refine lv_topl (fun z_8 e_z_8 => ?_)
      refine lv_goto (tgt := 30) hx hb dX3_numberAt_24 (by decide) ?_
      exact W.lret (v := z_8) hx hb hr (fun t ht hW => ⟨z_8, rfl, trivial, ht⟩) t_nil dX3_numberAt_30
theorem dX3_cut_0 : decode cX3_cut 0 = .ok (.aload_n 0, 1) := by decide +kernel
theorem dX3_cut_1 : decode cX3_cut 1 = .ok (.getfield 9, 3) := by decide +kernel
theorem dX3_cut_4 : decode cX3_cut 4 = .ok (.tableswitch 42 0 2 #[28, 33, 38], 28) := by decide +kernel
theorem dX3_cut_32 : decode cX3_cut 32 = .ok (.lload_n 1, 1) := by decide +kernel
theorem dX3_cut_33 : decode cX3_cut 33 = .ok (.l2i, 1) := by decide +kernel
theorem dX3_cut_34 : decode cX3_cut 34 = .ok (.i2b, 1) := by decide +kernel
theorem dX3_cut_35 : decode cX3_cut 35 = .ok (.i2l, 1) := by decide +kernel
theorem dX3_cut_36 : decode cX3_cut 36 = .ok (.lreturn, 1) := by decide +kernel
theorem dX3_cut_37 : decode cX3_cut 37 = .ok (.lload_n 1, 1) := by decide +kernel
theorem dX3_cut_38 : decode cX3_cut 38 = .ok (.l2i, 1) := by decide +kernel
theorem dX3_cut_39 : decode cX3_cut 39 = .ok (.i2s, 1) := by decide +kernel
theorem dX3_cut_40 : decode cX3_cut 40 = .ok (.i2l, 1) := by decide +kernel
theorem dX3_cut_41 : decode cX3_cut 41 = .ok (.lreturn, 1) := by decide +kernel
theorem dX3_cut_42 : decode cX3_cut 42 = .ok (.lload_n 1, 1) := by decide +kernel
theorem dX3_cut_43 : decode cX3_cut 43 = .ok (.l2i, 1) := by decide +kernel
theorem dX3_cut_44 : decode cX3_cut 44 = .ok (.i2l, 1) := by decide +kernel
theorem dX3_cut_45 : decode cX3_cut 45 = .ok (.lreturn, 1) := by decide +kernel
theorem dX3_cut_46 : decode cX3_cut 46 = .ok (.lload_n 1, 1) := by decide +kernel
theorem dX3_cut_47 : decode cX3_cut 47 = .ok (.lreturn, 1) := by decide +kernel
theorem hd_yX3_cut : yX3_cut.cls = RX3 ∧ yX3_cut.cls ≠ "java/lang/invoke/MethodHandle" ∧ yX3_cut.cls ≠ "java/lang/invoke/VarHandle" ∧ (parseMethodDescriptor yX3_cut.desc).map (fun d => d.parameters.length) = some 1 := by decide +kernel
def uX3_cut : List Cond := List.cons (.code yX3_cut cX3_cut 3 (some .long)) (HAppend.hAppend ([.fieldLink RX3 9 "LuckyTicket$Row" "width" "I"] : List Cond) wsX30)
theorem iX3_cut_X3 : ∀ w ∈ wsX30, w ∈ uX3_cut := fun _ h => (List.mem_cons_of_mem _ (List.mem_append_right _ h))
theorem guX3_cut : GU uX3_cut := gu_cons (gu_app (by decide +kernel) gws_X3)
set_option maxHeartbeats 4000000 in
set_option maxRecDepth 100000 in
theorem kX3_cut (l : Launch) (dC : Nat → ClassId) (dI : Nat → Nat → Nat) (rw : Nat) (wd : Int32) (rz : Int32) (nu : Nat) (a1 : Int64) (b_wd : (-1 : Int) ≤ wd.toInt ∧ wd.toInt ≤ 3) (b_rz : (0 : Int) ≤ rz.toInt ∧ rz.toInt ≤ 60) : Met l yX3_cut uX3_cut ({ frames := 0, cells := 0, slots := 0, locals := 0 }) (va_Pc [.ref rw, .long a1] (pw (dC, dI) vwCl [(rw, .inr (2, [.int wd, .int rz, .ref nu]))] [])) (vp_Sl (fun r => True)) 0 0 (fun _ => False) := by
  refine Met.ofW (cc := cX3_cut) (maxL := 3) (ret := (some .long)) pn_X3 rfl ?_
  intro p e s m args below meth c s₁ B hml hv
  obtain ⟨rfl, hP, hK, hN⟩ := hv
  have hx := B.exec
  have hb := B.bytes
  have hr := B.returns
  have hts := atoms_spec (ws := uX3_cut) B.pre
  have hown : s.vm.findClass RX3 = some m.cls := hown_of B.named rfl
  have hlocks := B.notSynchronized
  have hl := lv_entry ([.ref rw, .long a1]) (n := 3) (Nat.le_of_ble_eq_true rfl)
  rw [lg_entry_eq]
  generalize (lg_sl ([.ref rw, .long a1]) ++ List.replicate (3 - (lg_sl ([.ref rw, .long a1])).length) Slot.unset).toArray = ls at hl ⊢
  have hl : lv_has ls 3 [(0, .ref rw), (1, .long a1)] := hl
  refine lv_aload_n hx hb dX3_cut_0 rfl (lv_at hl 0 rfl) ?_
  refine va_get (D := (dC, dI)) (ci := 2) (v := .int wd) (C := RX3) (T := TX3) (N := 3) hx hb hts iX3_cut_X3 hown hK hP 0 rfl rfl 0 (by decide) (hts (.fieldLink RX3 9 "LuckyTicket$Row" "width" "I") (List.mem_of_getElem? (i := 1) rfl)) (fun _ h9 => h9) rfl dX3_cut_1 ?_
  rcases (show (wd.toInt < 0 ∨ 2 < wd.toInt) ∨ wd.toInt = 0 ∨ wd.toInt = 1 ∨ wd.toInt = 2 by omega) with c_10 | c_10 | c_10 | c_10
  ·
    refine lv_tableOut (tgt := 46) hx hb dX3_cut_4 c_10 (by decide) ?_
    refine lv_lload_n hx hb dX3_cut_46 rfl (lv_at hl 1 rfl) ?_
    exact W.lret (v := a1) hx hb hr (fun t ht hW => ⟨a1, rfl, trivial, ht⟩) t_nil dX3_cut_47
  ·
    refine lv_tableIn (off := 28) (tgt := 32) hx hb dX3_cut_4 (by omega) (by omega) (by rw [c_10]; rfl) (by decide) ?_
    have b_wd : (0 : Int) ≤ wd.toInt ∧ wd.toInt ≤ 0 := ⟨by omega, by omega⟩
    refine lv_lload_n hx hb dX3_cut_32 rfl (lv_at hl 1 rfl) ?_
    obtain ⟨z_11, e_z_11⟩ : ∃ y : Int32, y = a1.toInt32 := ⟨_, rfl⟩
    refine lv_l2i (v := z_11) hx hb dX3_cut_33 e_z_11.symm ?_
    obtain ⟨z_12, e_z_12⟩ : ∃ y : Int32, y = z_11.toInt8.toInt32 := ⟨_, rfl⟩
    refine lv_i2b (v := z_12) hx hb dX3_cut_34 e_z_12.symm ?_
    obtain ⟨z_13, e_z_13⟩ : ∃ y : Int64, y = z_12.toInt64 := ⟨_, rfl⟩
    refine lv_i2l (v := z_13) hx hb dX3_cut_35 e_z_13.symm ?_
    obtain ⟨q_z_13, b_z_13⟩ := ti_i2l e_z_13 (ti_rng z_12)
    exact W.lret (v := z_13) hx hb hr (fun t ht hW => ⟨z_13, rfl, trivial, ht⟩) t_nil dX3_cut_36
  ·
    refine lv_tableIn (off := 33) (tgt := 37) hx hb dX3_cut_4 (by omega) (by omega) (by rw [c_10]; rfl) (by decide) ?_
    have b_wd : (1 : Int) ≤ wd.toInt ∧ wd.toInt ≤ 1 := ⟨by omega, by omega⟩
    refine lv_lload_n hx hb dX3_cut_37 rfl (lv_at hl 1 rfl) ?_
    obtain ⟨z_14, e_z_14⟩ : ∃ y : Int32, y = a1.toInt32 := ⟨_, rfl⟩
    refine lv_l2i (v := z_14) hx hb dX3_cut_38 e_z_14.symm ?_
    obtain ⟨z_15, e_z_15⟩ : ∃ y : Int32, y = z_14.toInt16.toInt32 := ⟨_, rfl⟩
    refine lv_i2s (v := z_15) hx hb dX3_cut_39 e_z_15.symm ?_
    obtain ⟨z_16, e_z_16⟩ : ∃ y : Int64, y = z_15.toInt64 := ⟨_, rfl⟩
    refine lv_i2l (v := z_16) hx hb dX3_cut_40 e_z_16.symm ?_
    obtain ⟨q_z_16, b_z_16⟩ := ti_i2l e_z_16 (ti_rng z_15)
    exact W.lret (v := z_16) hx hb hr (fun t ht hW => ⟨z_16, rfl, trivial, ht⟩) t_nil dX3_cut_41
  ·
    refine lv_tableIn (off := 38) (tgt := 42) hx hb dX3_cut_4 (by omega) (by omega) (by rw [c_10]; rfl) (by decide) ?_
    have b_wd : (2 : Int) ≤ wd.toInt ∧ wd.toInt ≤ 2 := ⟨by omega, by omega⟩
    refine lv_lload_n hx hb dX3_cut_42 rfl (lv_at hl 1 rfl) ?_
    obtain ⟨z_17, e_z_17⟩ : ∃ y : Int32, y = a1.toInt32 := ⟨_, rfl⟩
    refine lv_l2i (v := z_17) hx hb dX3_cut_43 e_z_17.symm ?_
    obtain ⟨z_18, e_z_18⟩ : ∃ y : Int64, y = z_17.toInt64 := ⟨_, rfl⟩
    refine lv_i2l (v := z_18) hx hb dX3_cut_44 e_z_18.symm ?_
    obtain ⟨q_z_18, b_z_18⟩ := ti_i2l e_z_18 (ti_rng z_17)
    exact W.lret (v := z_18) hx hb hr (fun t ht hW => ⟨z_18, rfl, trivial, ht⟩) t_nil dX3_cut_45
theorem dX3_isNewAt_0 : decode cX3_isNewAt 0 = .ok (.iconst 0, 1) := by decide +kernel
theorem dX3_isNewAt_1 : decode cX3_isNewAt 1 = .ok (.istore_n 2, 1) := by decide +kernel
theorem dX3_isNewAt_2 : decode cX3_isNewAt 2 = .ok (.iload_n 2, 1) := by decide +kernel
theorem dX3_isNewAt_3 : decode cX3_isNewAt 3 = .ok (.iload_n 1, 1) := by decide +kernel
theorem dX3_isNewAt_4 : decode cX3_isNewAt 4 = .ok (.if_icmp .ge 25, 3) := by decide +kernel
theorem dX3_isNewAt_7 : decode cX3_isNewAt 7 = .ok (.aload_n 0, 1) := by decide +kernel
theorem dX3_isNewAt_8 : decode cX3_isNewAt 8 = .ok (.iload_n 2, 1) := by decide +kernel
theorem dX3_isNewAt_9 : decode cX3_isNewAt 9 = .ok (.invokevirtual 44, 3) := by decide +kernel
theorem dX3_isNewAt_12 : decode cX3_isNewAt 12 = .ok (.aload_n 0, 1) := by decide +kernel
theorem dX3_isNewAt_13 : decode cX3_isNewAt 13 = .ok (.iload_n 1, 1) := by decide +kernel
theorem dX3_isNewAt_14 : decode cX3_isNewAt 14 = .ok (.invokevirtual 44, 3) := by decide +kernel
theorem dX3_isNewAt_17 : decode cX3_isNewAt 17 = .ok (.lcmp, 1) := by decide +kernel
theorem dX3_isNewAt_18 : decode cX3_isNewAt 18 = .ok (.ifCond .ne 5, 3) := by decide +kernel
theorem dX3_isNewAt_21 : decode cX3_isNewAt 21 = .ok (.iconst 0, 1) := by decide +kernel
theorem dX3_isNewAt_22 : decode cX3_isNewAt 22 = .ok (.ireturn, 1) := by decide +kernel
theorem dX3_isNewAt_23 : decode cX3_isNewAt 23 = .ok (.iinc 2 1, 3) := by decide +kernel
theorem dX3_isNewAt_26 : decode cX3_isNewAt 26 = .ok (.goto (-24), 3) := by decide +kernel
theorem dX3_isNewAt_29 : decode cX3_isNewAt 29 = .ok (.iconst 1, 1) := by decide +kernel
theorem dX3_isNewAt_30 : decode cX3_isNewAt 30 = .ok (.ireturn, 1) := by decide +kernel
theorem hd_yX3_isNewAt : yX3_isNewAt.cls = RX3 ∧ yX3_isNewAt.cls ≠ "java/lang/invoke/MethodHandle" ∧ yX3_isNewAt.cls ≠ "java/lang/invoke/VarHandle" ∧ (parseMethodDescriptor yX3_isNewAt.desc).map (fun d => d.parameters.length) = some 1 := by decide +kernel
def uX3_isNewAt : List Cond := List.cons (.code yX3_isNewAt cX3_isNewAt 3 (some .boolean)) (HAppend.hAppend ([.methodLink RX3 44 yX3_numberAt, .instanceMethod yX3_numberAt, .selects RX3 yX3_numberAt yX3_numberAt, .initialized RX3] : List Cond) uX3_numberAt)
theorem guX3_isNewAt : GU uX3_isNewAt := gu_cons (gu_app (by decide +kernel) guX3_numberAt)
theorem gX3_isNewAt__X3_numberAt_V44 : GoodIn uX3_isNewAt (wsV RX3 44 RX3 yX3_numberAt uX3_numberAt) := gin_V (List.mem_of_getElem? (i := 1) rfl) (List.mem_of_getElem? (i := 2) rfl) (List.mem_of_getElem? (i := 3) rfl) (List.mem_of_getElem? (i := 4) rfl) (fun _ h => (List.mem_cons_of_mem _ (List.mem_append_right _ h))) guX3_numberAt
set_option maxHeartbeats 4000000 in
set_option maxRecDepth 100000 in
theorem kX3_isNewAt (l : Launch) (dC : Nat → ClassId) (dI : Nat → Nat → Nat) (rw : Nat) (wd : Int32) (rz : Int32) (nu : Nat) (cN : ClassId) (fn : Nat → Int64) (a1 : Int32) (b_wd : (-1 : Int) ≤ wd.toInt ∧ wd.toInt ≤ 3) (b_rz : (0 : Int) ≤ rz.toInt ∧ rz.toInt ≤ 60) : Met l yX3_isNewAt uX3_isNewAt ({ frames := 1, cells := 0, slots := 0, locals := 21 }) (va_Pc [.ref rw, .int a1] (pw (dC, dI) vwCl [(rw, .inr (2, [.int wd, .int rz, .ref nu])), (nu, .inl (cN, 60, .inr (.inl fn)))] [(cN, .long)])) (vp_Si (fun r => ((0 : Int) ≤ r.toInt ∧ r.toInt ≤ 1))) 0 0 (fun _ => False) := by
  refine Met.ofW (cc := cX3_isNewAt) (maxL := 3) (ret := (some .boolean)) pn_X3 rfl ?_
  intro p e s m args below meth c s₁ B hml hv
  obtain ⟨rfl, hP, hK, hN⟩ := hv
  have hx := B.exec
  have hb := B.bytes
  have hr := B.returns
  have hts := atoms_spec (ws := uX3_isNewAt) B.pre
  have hown : s.vm.findClass RX3 = some m.cls := hown_of B.named rfl
  have hlocks := B.notSynchronized
  have hl := lv_entry ([.ref rw, .int a1]) (n := 3) (Nat.le_of_ble_eq_true rfl)
  rw [lg_entry_eq]
  generalize (lg_sl ([.ref rw, .int a1]) ++ List.replicate (3 - (lg_sl ([.ref rw, .int a1])).length) Slot.unset).toArray = ls at hl ⊢
  have hl : lv_has ls 3 [(0, .ref rw), (1, .int a1)] := hl
  refine lv_iconst (v := 0) hx hb dX3_isNewAt_0 (by decide) ?_
  refine lv_istore_n (lv' := [(2, .int 0), (0, .ref rw), (1, .int a1)]) hx hb dX3_isNewAt_1 rfl hl (by decide) rfl (fun ls hl => ?_)
  refine loopP (σ := Int32) (fun v => (a1.toInt - v.toInt).toNat) (fun v ls => ((0 : Int) ≤ v.toInt ∧ v.toInt ≤ 2147483647) ∧ lv_has ls 3 [(2, .int v), (0, .ref rw), (1, .int a1)]) (fun v ls hI ih_2_157 => ?_) (0 : Int32) ⟨(show (0 : Int) ≤ (0 : Int32).toInt ∧ (0 : Int32).toInt ≤ 2147483647 from (rg_w (by decide : (0 : Int) ≤ (0 : Int32).toInt ∧ (0 : Int32).toInt ≤ 0) (by decide) (by decide))), lv_sub hl [0, 1, 2] rfl⟩
  obtain ⟨y_87, rfl⟩ : ∃ z, z = v := ⟨_, rfl⟩
  obtain ⟨b_y_87, hl⟩ := hI
  have b_y_87 : (0 : Int) ≤ y_87.toInt ∧ y_87.toInt ≤ 2147483647 := b_y_87
  have hl : lv_has ls 3 [(2, .int y_87), (0, .ref rw), (1, .int a1)] := hl
  refine lv_iload_n hx hb dX3_isNewAt_2 rfl (lv_at hl 0 rfl) ?_
  refine lv_iload_n hx hb dX3_isNewAt_3 rfl (lv_at hl 2 rfl) ?_
  refine lv_icmp_ge (tgt := 29) hx hb dX3_isNewAt_4 (by decide) (fun c_158 => ?_) (fun c_158 => ?_)
  ·
    have n_c_158 : (a1.toInt : Int) ≤ y_87.toInt := c_ge rfl rfl c_158
    refine lv_iconst (v := 1) hx hb dX3_isNewAt_29 (by decide) ?_
    exact W.zret (v := 1) hx hb hr rfl (fun t ht hW => ⟨1, rfl, (rg_w (by decide : (1 : Int) ≤ (1 : Int32).toInt ∧ (1 : Int32).toInt ≤ 1) (by decide) (by decide)), ht⟩) t_nil dX3_isNewAt_30
  ·
    have n_c_158 : (y_87.toInt : Int) < a1.toInt := c_nge rfl rfl c_158
    have b_y_87 : (0 : Int) ≤ y_87.toInt ∧ y_87.toInt ≤ 2147483646 := r_lt1 b_y_87 (ti_rng a1) n_c_158 (by decide)
    have b_a1 : (1 : Int) ≤ a1.toInt ∧ a1.toInt ≤ 2147483647 := r_lt2 b_y_87 (ti_rng a1) n_c_158 (by decide)
    refine lv_aload_n hx hb dX3_isNewAt_7 rfl (lv_at hl 1 rfl) ?_
    refine lv_iload_n hx hb dX3_isNewAt_8 rfl (lv_at hl 0 rfl) ?_
    refine vp_callSl (W.runV (As := [.int y_87]) (rest := []) ⟨hx, hb, hml, hown, hts⟩ (kX3_numberAt l dC dI rw wd rz nu cN fn y_87 b_wd b_rz) (cwV 1 hts gX3_isNewAt__X3_numberAt_V44 rfl rfl rfl hd_yX3_numberAt ⟨lel 1 1 rfl, lel 21 21 rfl⟩) ⟨pw_fb, rcv_X3 hK hP (q0 := 0) rfl, (pw_use hP hK hN [0, 1] rfl [0] rfl)⟩ rfl rfl hl.1 rfl (lv_room (Nat.le_of_ble_eq_true rfl)) dX3_isNewAt_9 ⟨lel 0 0 rfl, lel 0 0 rfl⟩) (fun r_159 h_r_159 => ?_)
    refine lv_aload_n hx hb dX3_isNewAt_12 rfl (lv_at hl 1 rfl) ?_
    refine lv_iload_n hx hb dX3_isNewAt_13 rfl (lv_at hl 2 rfl) ?_
    refine vp_callSl (W.runV (As := [.int a1]) (rest := [.long r_159]) ⟨hx, hb, hml, hown, hts⟩ (kX3_numberAt l dC dI rw wd rz nu cN fn a1 b_wd b_rz) (cwV 1 hts gX3_isNewAt__X3_numberAt_V44 rfl rfl rfl hd_yX3_numberAt ⟨lel 1 1 rfl, lel 21 21 rfl⟩) ⟨pw_fb, rcv_X3 hK hP (q0 := 0) rfl, (pw_use hP hK hN [0, 1] rfl [0] rfl)⟩ rfl rfl hl.1 rfl (lv_room (Nat.le_of_ble_eq_true rfl)) dX3_isNewAt_14 ⟨lel 0 0 rfl, lel 0 0 rfl⟩) (fun r_160 h_r_160 => ?_)
    refine W.lcmp hx hb dX3_isNewAt_17 ?_
    refine lv_if_ne (tgt := 23) hx hb dX3_isNewAt_18 (by decide) (fun c_161 => ?_) (fun c_161 => ?_)
    ·
      have n_c_161 : (r_159.toInt : Int) ≠ r_160.toInt := g_ne rfl rfl c_161
      obtain ⟨z_162, e_z_162⟩ : ∃ y : Int32, y = y_87 + 1 := ⟨_, rfl⟩
      refine lv_iinc (v := z_162) (lv' := [(2, .int z_162), (0, .ref rw), (1, .int a1)]) hx hb dX3_isNewAt_23 hl (k := 0) rfl (by rw [e_z_162]; rfl) (by decide) rfl (fun ls hl => ?_)
      obtain ⟨q_z_162, b_z_162⟩ := ti_add (lo := 1) (hi := 2147483647) e_z_162 rfl (by decide : (1 : Int32).toInt = 1) b_y_87 (by decide : (1 : Int) ≤ (1 : Int32).toInt ∧ (1 : Int32).toInt ≤ 1) (by decide)
      refine lv_goto (tgt := 2) hx hb dX3_isNewAt_26 (by decide) ?_
      exact ih_2_157 z_162 _ ⟨(show (0 : Int) ≤ z_162.toInt ∧ z_162.toInt ≤ 2147483647 from (rg_w b_z_162 (by decide) (by decide))), lv_sub hl [0, 1, 2] rfl⟩ (show (a1.toInt - z_162.toInt).toNat < (a1.toInt - y_87.toInt).toNat by omega)
    ·
      have n_c_161 : (r_159.toInt : Int) = r_160.toInt := g_eq rfl rfl c_161
      refine lv_iconst (v := 0) hx hb dX3_isNewAt_21 (by decide) ?_
      exact W.zret (v := 0) hx hb hr rfl (fun t ht hW => ⟨0, rfl, (rg_w (by decide : (0 : Int) ≤ (0 : Int32).toInt ∧ (0 : Int32).toInt ≤ 0) (by decide) (by decide)), ht⟩) t_nil dX3_isNewAt_22
theorem dJ7_fill_d0a16_0 : decode cJ7_fill_d0a16 0 = .ok (.iconst 0, 1) := by decide +kernel
theorem dJ7_fill_d0a16_1 : decode cJ7_fill_d0a16 1 = .ok (.istore_n 3, 1) := by decide +kernel
theorem dJ7_fill_d0a16_2 : decode cJ7_fill_d0a16 2 = .ok (.aload_n 0, 1) := by decide +kernel
theorem dJ7_fill_d0a16_3 : decode cJ7_fill_d0a16 3 = .ok (.arraylength, 1) := by decide +kernel
theorem dJ7_fill_d0a16_4 : decode cJ7_fill_d0a16 4 = .ok (.istore 4, 2) := by decide +kernel
theorem dJ7_fill_d0a16_6 : decode cJ7_fill_d0a16 6 = .ok (.iload_n 3, 1) := by decide +kernel
theorem dJ7_fill_d0a16_7 : decode cJ7_fill_d0a16 7 = .ok (.iload 4, 2) := by decide +kernel
theorem dJ7_fill_d0a16_9 : decode cJ7_fill_d0a16 9 = .ok (.if_icmp .ge 13, 3) := by decide +kernel
theorem dJ7_fill_d0a16_12 : decode cJ7_fill_d0a16 12 = .ok (.aload_n 0, 1) := by decide +kernel
theorem dJ7_fill_d0a16_13 : decode cJ7_fill_d0a16 13 = .ok (.iload_n 3, 1) := by decide +kernel
theorem dJ7_fill_d0a16_14 : decode cJ7_fill_d0a16 14 = .ok (.lload_n 1, 1) := by decide +kernel
theorem dJ7_fill_d0a16_15 : decode cJ7_fill_d0a16 15 = .ok (.lastore, 1) := by decide +kernel
theorem dJ7_fill_d0a16_16 : decode cJ7_fill_d0a16 16 = .ok (.iinc 3 1, 3) := by decide +kernel
theorem dJ7_fill_d0a16_19 : decode cJ7_fill_d0a16 19 = .ok (.goto (-13), 3) := by decide +kernel
theorem dJ7_fill_d0a16_22 : decode cJ7_fill_d0a16 22 = .ok (.return_, 1) := by decide +kernel
theorem hd_yJ7_fill_d0a16 : yJ7_fill_d0a16.cls = RJ7 ∧ yJ7_fill_d0a16.cls ≠ "java/lang/invoke/MethodHandle" ∧ yJ7_fill_d0a16.cls ≠ "java/lang/invoke/VarHandle" ∧ (parseMethodDescriptor yJ7_fill_d0a16.desc).map (fun d => d.parameters.length) = some 2 := by decide +kernel
def uJ7_fill_d0a16 : List Cond := List.cons (.code yJ7_fill_d0a16 cJ7_fill_d0a16 5 none) ([] : List Cond)
theorem guJ7_fill_d0a16 : GU uJ7_fill_d0a16 := gu_cons (gu_all (by decide +kernel))
set_option maxHeartbeats 4000000 in
set_option maxRecDepth 100000 in
theorem kJ7_fill_d0a16 (l : Launch) (dC : Nat → ClassId) (dI : Nat → Nat → Nat) (ar : Nat) (cA : ClassId) (n : Nat) (f : Nat → Int64) (a2 : Int64) (sz : Nat) (hn : n ≤ 300000) : Met l yJ7_fill_d0a16 uJ7_fill_d0a16 ({ frames := 0, cells := 0, slots := 0, locals := 0 }) (va_Pc [.ref ar, .long a2] (hw (dC, dI) vwCl [(ar, .inl (cA, n, .inr (.inl f)))] [(cA, .long)] sz)) (va_Qv (fun (_ : Unit) => True) (fun (_ : Unit) t => ∃ (o0_ : Nat → Int64), va_P (dC, dI) vwCl [(ar, .inl (cA, n, .inr (.inl o0_)))] t.heap ∧ va_K (dC, dI) vwCl [(cA, .long)] t ∧ va_D (va_A [(ar, .inl (cA, n, .inr (.inl f)))] sz) [(ar, .inl (cA, n, .inr (.inl o0_)))]) (va_A [(ar, .inl (cA, n, .inr (.inl f)))] sz)) 0 0 (va_A [(ar, .inl (cA, n, .inr (.inl f)))] sz) := by
  refine Met.ofW (cc := cJ7_fill_d0a16) (maxL := 5) (ret := none) pn_J7 rfl ?_
  intro p e s m args below meth c s₁ B hml hv
  obtain ⟨rfl, hsz, hP, hK, hD0, hN⟩ := hv
  have hx := B.exec
  have hb := B.bytes
  have hr := B.returns
  have hts := atoms_spec (ws := uJ7_fill_d0a16) B.pre
  have hown : s.vm.findClass RJ7 = some m.cls := hown_of B.named rfl
  have hlocks := B.notSynchronized
  subst hsz
  have hD := hD0.self (sz := s.heap.size)
  generalize hAe : va_A [(ar, .inl (cA, n, .inr (.inl f)))] s.heap.size = A at hD ⊢
  have hA : ∀ q : Nat, s.heap.size ≤ q → A q := fun q h => by rw [← hAe]; exact Or.inr h
  have hS : va_S A s.heap s.heap [] := va_S.rf
  have hP : va_P (dC, dI) vwCl [(ar, .inl (cA, n, .inr (.inl f)))] s.heap := hP
  have hl := lv_entry ([.ref ar, .long a2]) (n := 5) (Nat.le_of_ble_eq_true rfl)
  rw [lg_entry_eq]
  generalize (lg_sl ([.ref ar, .long a2]) ++ List.replicate (5 - (lg_sl ([.ref ar, .long a2])).length) Slot.unset).toArray = ls at hl ⊢
  have hl : lv_has ls 5 [(0, .ref ar), (1, .long a2)] := hl
  refine lv_iconst (v := 0) hx hb dJ7_fill_d0a16_0 (by decide) ?_
  refine lv_istore_n (lv' := [(3, .int 0), (0, .ref ar), (1, .long a2)]) hx hb dJ7_fill_d0a16_1 rfl hl (by decide) rfl (fun ls hl => ?_)
  refine lv_aload_n hx hb dJ7_fill_d0a16_2 rfl (lv_at hl 1 rfl) ?_
  obtain ⟨z_52, e_z_52⟩ : ∃ y : Int32, y = Int32.ofNat n := ⟨_, rfl⟩
  refine va_alen (v := z_52) hx hb hK hP 0 0 rfl rfl e_z_52.symm dJ7_fill_d0a16_3 ?_
  obtain ⟨q_z_52, b_z_52⟩ := ti_len (hi := 300000) e_z_52 (by omega) (by decide)
  refine lv_istore (lv' := [(4, .int z_52), (3, .int 0), (0, .ref ar), (1, .long a2)]) hx hb dJ7_fill_d0a16_4 hl (by decide) rfl (fun ls hl => ?_)
  refine loopW (σ := Int32 × (Nat → Int64)) (fun v => (300000 - v.1.toInt).toNat) (fun v H locs ls => ((0 : Int) ≤ v.1.toInt ∧ v.1.toInt ≤ 300000) ∧ va_P (dC, dI) vwCl [(ar, .inl (cA, n, .inr (.inl v.2)))] H ∧ va_D A [(ar, .inl (cA, n, .inr (.inl v.2)))] ∧ va_S A s.heap H locs ∧ lv_has ls 5 [(4, .int z_52), (3, .int v.1), (0, .ref ar), (1, .long a2)]) (fun v H locs ls hI ih_6_99 => ?_) ((0 : Int32), f) ⟨(show (0 : Int) ≤ (0 : Int32).toInt ∧ (0 : Int32).toInt ≤ 300000 from (rg_w (by decide : (0 : Int) ≤ (0 : Int32).toInt ∧ (0 : Int32).toInt ≤ 0) (by decide) (by decide))), hP, hD, hS, lv_sub hl [0, 1, 2, 3] rfl⟩
  obtain ⟨y_56, f_57⟩ := v
  obtain ⟨b_y_56, hP, hD, hS, hl⟩ := hI
  have b_y_56 : (0 : Int) ≤ y_56.toInt ∧ y_56.toInt ≤ 300000 := b_y_56
  have hP : va_P (dC, dI) vwCl [(ar, .inl (cA, n, .inr (.inl f_57)))] H := hP
  have hD : va_D A [(ar, .inl (cA, n, .inr (.inl f_57)))] := hD
  have hl : lv_has ls 5 [(4, .int z_52), (3, .int y_56), (0, .ref ar), (1, .long a2)] := hl
  refine lv_iload_n hx hb dJ7_fill_d0a16_6 rfl (lv_at hl 1 rfl) ?_
  refine lv_iload hx hb dJ7_fill_d0a16_7 (lv_at hl 0 rfl) ?_
  refine lv_icmp_ge (tgt := 22) hx hb dJ7_fill_d0a16_9 (by decide) (fun c_100 => ?_) (fun c_100 => ?_)
  ·
    have n_c_100 : (z_52.toInt : Int) ≤ y_56.toInt := c_ge rfl rfl c_100
    have hP9 := hP.sub (ws' := [(ar, .inl (cA, n, .inr (.inl f_57)))]) [0] rfl
    have hD9 := hD.sub (ws' := [(ar, .inl (cA, n, .inr (.inl f_57)))]) [0] (by decide) rfl
    have hK9 := hK.sub (tys' := [(cA, .long)]) [0] rfl
    exact W.vret hx hb hr (fun t ht hW => ⟨⟨(), rfl, trivial, f_57, by rw [ht]; exact hP9, va_K.moved hW.alike hK9, hD9⟩, hS.F ht⟩) hS.2.2 dJ7_fill_d0a16_22
  ·
    have n_c_100 : (y_56.toInt : Int) < z_52.toInt := c_nge rfl rfl c_100
    have b_y_56 : (0 : Int) ≤ y_56.toInt ∧ y_56.toInt ≤ 299999 := r_lt1 b_y_56 b_z_52 n_c_100 (by decide)
    have b_z_52 : (1 : Int) ≤ z_52.toInt ∧ z_52.toInt ≤ 300000 := r_lt2 b_y_56 b_z_52 n_c_100 (by decide)
    refine lv_aload_n hx hb dJ7_fill_d0a16_12 rfl (lv_at hl 2 rfl) ?_
    refine lv_iload_n hx hb dJ7_fill_d0a16_13 rfl (lv_at hl 1 rfl) ?_
    refine lv_lload_n hx hb dJ7_fill_d0a16_14 rfl (lv_at hl 3 rfl) ?_
    refine va_last hx hb hK hP hD hS 0 0 rfl rfl (vp_in_iff.mpr ⟨by omega, by omega⟩) dJ7_fill_d0a16_15 (fun H locs hP hD hS => ?_)
    have hP : va_P (dC, dI) vwCl [(ar, .inl (cA, n, .inr (.inl (vp_updL f_57 (y_56 : Int32).toNatClampNeg a2))))] H := hP
    have hD : va_D A [(ar, .inl (cA, n, .inr (.inl (vp_updL f_57 (y_56 : Int32).toNatClampNeg a2))))] := hD
    generalize (vp_updL f_57 (y_56 : Int32).toNatClampNeg a2) = f_101 at hP hD
    have hP : va_P (dC, dI) vwCl [(ar, .inl (cA, n, .inr (.inl f_101)))] H := hP
    have hD : va_D A [(ar, .inl (cA, n, .inr (.inl f_101)))] := hD
    obtain ⟨z_102, e_z_102⟩ : ∃ y : Int32, y = y_56 + 1 := ⟨_, rfl⟩
    refine lv_iinc (v := z_102) (lv' := [(3, .int z_102), (4, .int z_52), (0, .ref ar), (1, .long a2)]) hx hb dJ7_fill_d0a16_16 hl (k := 1) rfl (by rw [e_z_102]; rfl) (by decide) rfl (fun ls hl => ?_)
    obtain ⟨q_z_102, b_z_102⟩ := ti_add (lo := 1) (hi := 300000) e_z_102 rfl (by decide : (1 : Int32).toInt = 1) b_y_56 (by decide : (1 : Int) ≤ (1 : Int32).toInt ∧ (1 : Int32).toInt ≤ 1) (by decide)
    refine lv_goto (tgt := 6) hx hb dJ7_fill_d0a16_19 (by decide) ?_
    exact ih_6_99 (z_102, f_101) _ _ _ ⟨(show (0 : Int) ≤ z_102.toInt ∧ z_102.toInt ≤ 300000 from (rg_w b_z_102 (by decide) (by decide))), hP, hD, hS, lv_sub hl [1, 0, 2, 3] rfl⟩ (show (300000 - z_102.toInt).toNat < (300000 - y_56.toInt).toNat by omega)
theorem dJ7_fill_53178_0 : decode cJ7_fill_53178 0 = .ok (.iconst 0, 1) := by decide +kernel
theorem dJ7_fill_53178_1 : decode cJ7_fill_53178 1 = .ok (.istore_n 2, 1) := by decide +kernel
theorem dJ7_fill_53178_2 : decode cJ7_fill_53178 2 = .ok (.aload_n 0, 1) := by decide +kernel
theorem dJ7_fill_53178_3 : decode cJ7_fill_53178 3 = .ok (.arraylength, 1) := by decide +kernel
theorem dJ7_fill_53178_4 : decode cJ7_fill_53178 4 = .ok (.istore_n 3, 1) := by decide +kernel
theorem dJ7_fill_53178_5 : decode cJ7_fill_53178 5 = .ok (.iload_n 2, 1) := by decide +kernel
theorem dJ7_fill_53178_6 : decode cJ7_fill_53178 6 = .ok (.iload_n 3, 1) := by decide +kernel
theorem dJ7_fill_53178_7 : decode cJ7_fill_53178 7 = .ok (.if_icmp .ge 13, 3) := by decide +kernel
theorem dJ7_fill_53178_10 : decode cJ7_fill_53178 10 = .ok (.aload_n 0, 1) := by decide +kernel
theorem dJ7_fill_53178_11 : decode cJ7_fill_53178 11 = .ok (.iload_n 2, 1) := by decide +kernel
theorem dJ7_fill_53178_12 : decode cJ7_fill_53178 12 = .ok (.iload_n 1, 1) := by decide +kernel
theorem dJ7_fill_53178_13 : decode cJ7_fill_53178 13 = .ok (.iastore, 1) := by decide +kernel
theorem dJ7_fill_53178_14 : decode cJ7_fill_53178 14 = .ok (.iinc 2 1, 3) := by decide +kernel
theorem dJ7_fill_53178_17 : decode cJ7_fill_53178 17 = .ok (.goto (-12), 3) := by decide +kernel
theorem dJ7_fill_53178_20 : decode cJ7_fill_53178 20 = .ok (.return_, 1) := by decide +kernel
theorem hd_yJ7_fill_53178 : yJ7_fill_53178.cls = RJ7 ∧ yJ7_fill_53178.cls ≠ "java/lang/invoke/MethodHandle" ∧ yJ7_fill_53178.cls ≠ "java/lang/invoke/VarHandle" ∧ (parseMethodDescriptor yJ7_fill_53178.desc).map (fun d => d.parameters.length) = some 2 := by decide +kernel
def uJ7_fill_53178 : List Cond := List.cons (.code yJ7_fill_53178 cJ7_fill_53178 4 none) ([] : List Cond)
theorem guJ7_fill_53178 : GU uJ7_fill_53178 := gu_cons (gu_all (by decide +kernel))
set_option maxHeartbeats 4000000 in
set_option maxRecDepth 100000 in
theorem kJ7_fill_53178 (l : Launch) (dC : Nat → ClassId) (dI : Nat → Nat → Nat) (ar : Nat) (cA : ClassId) (n : Nat) (f : Nat → Int32) (a2 : Int32) (sz : Nat) (hn : n ≤ 300000) : Met l yJ7_fill_53178 uJ7_fill_53178 ({ frames := 0, cells := 0, slots := 0, locals := 0 }) (va_Pc [.ref ar, .int a2] (hw (dC, dI) vwCl [(ar, .inl (cA, n, .inl f))] [(cA, .int)] sz)) (va_Qv (fun (_ : Unit) => True) (fun (_ : Unit) t => ∃ (o0_ : Nat → Int32), va_P (dC, dI) vwCl [(ar, .inl (cA, n, .inl o0_))] t.heap ∧ va_K (dC, dI) vwCl [(cA, .int)] t ∧ va_D (va_A [(ar, .inl (cA, n, .inl f))] sz) [(ar, .inl (cA, n, .inl o0_))]) (va_A [(ar, .inl (cA, n, .inl f))] sz)) 0 0 (va_A [(ar, .inl (cA, n, .inl f))] sz) := by
  refine Met.ofW (cc := cJ7_fill_53178) (maxL := 4) (ret := none) pn_J7 rfl ?_
  intro p e s m args below meth c s₁ B hml hv
  obtain ⟨rfl, hsz, hP, hK, hD0, hN⟩ := hv
  have hx := B.exec
  have hb := B.bytes
  have hr := B.returns
  have hts := atoms_spec (ws := uJ7_fill_53178) B.pre
  have hown : s.vm.findClass RJ7 = some m.cls := hown_of B.named rfl
  have hlocks := B.notSynchronized
  subst hsz
  have hD := hD0.self (sz := s.heap.size)
  generalize hAe : va_A [(ar, .inl (cA, n, .inl f))] s.heap.size = A at hD ⊢
  have hA : ∀ q : Nat, s.heap.size ≤ q → A q := fun q h => by rw [← hAe]; exact Or.inr h
  have hS : va_S A s.heap s.heap [] := va_S.rf
  have hP : va_P (dC, dI) vwCl [(ar, .inl (cA, n, .inl f))] s.heap := hP
  have hl := lv_entry ([.ref ar, .int a2]) (n := 4) (Nat.le_of_ble_eq_true rfl)
  rw [lg_entry_eq]
  generalize (lg_sl ([.ref ar, .int a2]) ++ List.replicate (4 - (lg_sl ([.ref ar, .int a2])).length) Slot.unset).toArray = ls at hl ⊢
  have hl : lv_has ls 4 [(0, .ref ar), (1, .int a2)] := hl
  refine lv_iconst (v := 0) hx hb dJ7_fill_53178_0 (by decide) ?_
  refine lv_istore_n (lv' := [(2, .int 0), (0, .ref ar), (1, .int a2)]) hx hb dJ7_fill_53178_1 rfl hl (by decide) rfl (fun ls hl => ?_)
  refine lv_aload_n hx hb dJ7_fill_53178_2 rfl (lv_at hl 1 rfl) ?_
  obtain ⟨z_52, e_z_52⟩ : ∃ y : Int32, y = Int32.ofNat n := ⟨_, rfl⟩
  refine va_alen (v := z_52) hx hb hK hP 0 0 rfl rfl e_z_52.symm dJ7_fill_53178_3 ?_
  obtain ⟨q_z_52, b_z_52⟩ := ti_len (hi := 300000) e_z_52 (by omega) (by decide)
  refine lv_istore_n (lv' := [(3, .int z_52), (2, .int 0), (0, .ref ar), (1, .int a2)]) hx hb dJ7_fill_53178_4 rfl hl (by decide) rfl (fun ls hl => ?_)
  refine loopW (σ := Int32 × (Nat → Int32)) (fun v => (300000 - v.1.toInt).toNat) (fun v H locs ls => ((0 : Int) ≤ v.1.toInt ∧ v.1.toInt ≤ 300000) ∧ va_P (dC, dI) vwCl [(ar, .inl (cA, n, .inl v.2))] H ∧ va_D A [(ar, .inl (cA, n, .inl v.2))] ∧ va_S A s.heap H locs ∧ lv_has ls 4 [(3, .int z_52), (2, .int v.1), (0, .ref ar), (1, .int a2)]) (fun v H locs ls hI ih_5_99 => ?_) ((0 : Int32), f) ⟨(show (0 : Int) ≤ (0 : Int32).toInt ∧ (0 : Int32).toInt ≤ 300000 from (rg_w (by decide : (0 : Int) ≤ (0 : Int32).toInt ∧ (0 : Int32).toInt ≤ 0) (by decide) (by decide))), hP, hD, hS, lv_sub hl [0, 1, 2, 3] rfl⟩
  obtain ⟨y_56, f_57⟩ := v
  obtain ⟨b_y_56, hP, hD, hS, hl⟩ := hI
  have b_y_56 : (0 : Int) ≤ y_56.toInt ∧ y_56.toInt ≤ 300000 := b_y_56
  have hP : va_P (dC, dI) vwCl [(ar, .inl (cA, n, .inl f_57))] H := hP
  have hD : va_D A [(ar, .inl (cA, n, .inl f_57))] := hD
  have hl : lv_has ls 4 [(3, .int z_52), (2, .int y_56), (0, .ref ar), (1, .int a2)] := hl
  refine lv_iload_n hx hb dJ7_fill_53178_5 rfl (lv_at hl 1 rfl) ?_
  refine lv_iload_n hx hb dJ7_fill_53178_6 rfl (lv_at hl 0 rfl) ?_
  refine lv_icmp_ge (tgt := 20) hx hb dJ7_fill_53178_7 (by decide) (fun c_100 => ?_) (fun c_100 => ?_)
  ·
    have n_c_100 : (z_52.toInt : Int) ≤ y_56.toInt := c_ge rfl rfl c_100
    have hP9 := hP.sub (ws' := [(ar, .inl (cA, n, .inl f_57))]) [0] rfl
    have hD9 := hD.sub (ws' := [(ar, .inl (cA, n, .inl f_57))]) [0] (by decide) rfl
    have hK9 := hK.sub (tys' := [(cA, .int)]) [0] rfl
    exact W.vret hx hb hr (fun t ht hW => ⟨⟨(), rfl, trivial, f_57, by rw [ht]; exact hP9, va_K.moved hW.alike hK9, hD9⟩, hS.F ht⟩) hS.2.2 dJ7_fill_53178_20
  ·
    have n_c_100 : (y_56.toInt : Int) < z_52.toInt := c_nge rfl rfl c_100
    have b_y_56 : (0 : Int) ≤ y_56.toInt ∧ y_56.toInt ≤ 299999 := r_lt1 b_y_56 b_z_52 n_c_100 (by decide)
    have b_z_52 : (1 : Int) ≤ z_52.toInt ∧ z_52.toInt ≤ 300000 := r_lt2 b_y_56 b_z_52 n_c_100 (by decide)
    refine lv_aload_n hx hb dJ7_fill_53178_10 rfl (lv_at hl 2 rfl) ?_
    refine lv_iload_n hx hb dJ7_fill_53178_11 rfl (lv_at hl 1 rfl) ?_
    refine lv_iload_n hx hb dJ7_fill_53178_12 rfl (lv_at hl 3 rfl) ?_
    refine va_iast hx hb hK hP hD hS 0 0 rfl rfl (vp_in_iff.mpr ⟨by omega, by omega⟩) dJ7_fill_53178_13 (fun H locs hP hD hS => ?_)
    have hP : va_P (dC, dI) vwCl [(ar, .inl (cA, n, .inl (upd f_57 (y_56 : Int32).toNatClampNeg a2)))] H := hP
    have hD : va_D A [(ar, .inl (cA, n, .inl (upd f_57 (y_56 : Int32).toNatClampNeg a2)))] := hD
    generalize (upd f_57 (y_56 : Int32).toNatClampNeg a2) = f_101 at hP hD
    have hP : va_P (dC, dI) vwCl [(ar, .inl (cA, n, .inl f_101))] H := hP
    have hD : va_D A [(ar, .inl (cA, n, .inl f_101))] := hD
    obtain ⟨z_102, e_z_102⟩ : ∃ y : Int32, y = y_56 + 1 := ⟨_, rfl⟩
    refine lv_iinc (v := z_102) (lv' := [(2, .int z_102), (3, .int z_52), (0, .ref ar), (1, .int a2)]) hx hb dJ7_fill_53178_14 hl (k := 1) rfl (by rw [e_z_102]; rfl) (by decide) rfl (fun ls hl => ?_)
    obtain ⟨q_z_102, b_z_102⟩ := ti_add (lo := 1) (hi := 300000) e_z_102 rfl (by decide : (1 : Int32).toInt = 1) b_y_56 (by decide : (1 : Int) ≤ (1 : Int32).toInt ∧ (1 : Int32).toInt ≤ 1) (by decide)
    refine lv_goto (tgt := 5) hx hb dJ7_fill_53178_17 (by decide) ?_
    exact ih_5_99 (z_102, f_101) _ _ _ ⟨(show (0 : Int) ≤ z_102.toInt ∧ z_102.toInt ≤ 300000 from (rg_w b_z_102 (by decide) (by decide))), hP, hD, hS, lv_sub hl [1, 0, 2, 3] rfl⟩ (show (300000 - z_102.toInt).toNat < (300000 - y_56.toInt).toNat by omega)
theorem dJ7_fill_031fb_0 : decode cJ7_fill_031fb 0 = .ok (.iconst 0, 1) := by decide +kernel
theorem dJ7_fill_031fb_1 : decode cJ7_fill_031fb 1 = .ok (.istore_n 2, 1) := by decide +kernel
theorem dJ7_fill_031fb_2 : decode cJ7_fill_031fb 2 = .ok (.aload_n 0, 1) := by decide +kernel
theorem dJ7_fill_031fb_3 : decode cJ7_fill_031fb 3 = .ok (.arraylength, 1) := by decide +kernel
theorem dJ7_fill_031fb_4 : decode cJ7_fill_031fb 4 = .ok (.istore_n 3, 1) := by decide +kernel
theorem dJ7_fill_031fb_5 : decode cJ7_fill_031fb 5 = .ok (.iload_n 2, 1) := by decide +kernel
theorem dJ7_fill_031fb_6 : decode cJ7_fill_031fb 6 = .ok (.iload_n 3, 1) := by decide +kernel
theorem dJ7_fill_031fb_7 : decode cJ7_fill_031fb 7 = .ok (.if_icmp .ge 13, 3) := by decide +kernel
theorem dJ7_fill_031fb_10 : decode cJ7_fill_031fb 10 = .ok (.aload_n 0, 1) := by decide +kernel
theorem dJ7_fill_031fb_11 : decode cJ7_fill_031fb 11 = .ok (.iload_n 2, 1) := by decide +kernel
theorem dJ7_fill_031fb_12 : decode cJ7_fill_031fb 12 = .ok (.iload_n 1, 1) := by decide +kernel
theorem dJ7_fill_031fb_13 : decode cJ7_fill_031fb 13 = .ok (.bastore, 1) := by decide +kernel
theorem dJ7_fill_031fb_14 : decode cJ7_fill_031fb 14 = .ok (.iinc 2 1, 3) := by decide +kernel
theorem dJ7_fill_031fb_17 : decode cJ7_fill_031fb 17 = .ok (.goto (-12), 3) := by decide +kernel
theorem dJ7_fill_031fb_20 : decode cJ7_fill_031fb 20 = .ok (.return_, 1) := by decide +kernel
theorem hd_yJ7_fill_031fb : yJ7_fill_031fb.cls = RJ7 ∧ yJ7_fill_031fb.cls ≠ "java/lang/invoke/MethodHandle" ∧ yJ7_fill_031fb.cls ≠ "java/lang/invoke/VarHandle" ∧ (parseMethodDescriptor yJ7_fill_031fb.desc).map (fun d => d.parameters.length) = some 2 := by decide +kernel
def uJ7_fill_031fb : List Cond := List.cons (.code yJ7_fill_031fb cJ7_fill_031fb 4 none) ([] : List Cond)
theorem guJ7_fill_031fb : GU uJ7_fill_031fb := gu_cons (gu_all (by decide +kernel))
set_option maxHeartbeats 4000000 in
set_option maxRecDepth 100000 in
theorem kJ7_fill_031fb (l : Launch) (dC : Nat → ClassId) (dI : Nat → Nat → Nat) (ar : Nat) (cA : ClassId) (n : Nat) (f : Nat → Int32) (a2 : Int32) (sz : Nat) (hn : n ≤ 300000) : Met l yJ7_fill_031fb uJ7_fill_031fb ({ frames := 0, cells := 0, slots := 0, locals := 0 }) (va_Pc [.ref ar, .int a2] (hw (dC, dI) vwCl [(ar, .inl (cA, n, .inl f))] [(cA, .byte)] sz)) (va_Qv (fun (_ : Unit) => True) (fun (_ : Unit) t => ∃ (o0_ : Nat → Int32), va_P (dC, dI) vwCl [(ar, .inl (cA, n, .inl o0_))] t.heap ∧ va_K (dC, dI) vwCl [(cA, .byte)] t ∧ va_D (va_A [(ar, .inl (cA, n, .inl f))] sz) [(ar, .inl (cA, n, .inl o0_))]) (va_A [(ar, .inl (cA, n, .inl f))] sz)) 0 0 (va_A [(ar, .inl (cA, n, .inl f))] sz) := by
  refine Met.ofW (cc := cJ7_fill_031fb) (maxL := 4) (ret := none) pn_J7 rfl ?_
  intro p e s m args below meth c s₁ B hml hv
  obtain ⟨rfl, hsz, hP, hK, hD0, hN⟩ := hv
  have hx := B.exec
  have hb := B.bytes
  have hr := B.returns
  have hts := atoms_spec (ws := uJ7_fill_031fb) B.pre
  have hown : s.vm.findClass RJ7 = some m.cls := hown_of B.named rfl
  have hlocks := B.notSynchronized
  subst hsz
  have hD := hD0.self (sz := s.heap.size)
  generalize hAe : va_A [(ar, .inl (cA, n, .inl f))] s.heap.size = A at hD ⊢
  have hA : ∀ q : Nat, s.heap.size ≤ q → A q := fun q h => by rw [← hAe]; exact Or.inr h
  have hS : va_S A s.heap s.heap [] := va_S.rf
  have hP : va_P (dC, dI) vwCl [(ar, .inl (cA, n, .inl f))] s.heap := hP
  have hl := lv_entry ([.ref ar, .int a2]) (n := 4) (Nat.le_of_ble_eq_true rfl)
  rw [lg_entry_eq]
  generalize (lg_sl ([.ref ar, .int a2]) ++ List.replicate (4 - (lg_sl ([.ref ar, .int a2])).length) Slot.unset).toArray = ls at hl ⊢
  have hl : lv_has ls 4 [(0, .ref ar), (1, .int a2)] := hl
  refine lv_iconst (v := 0) hx hb dJ7_fill_031fb_0 (by decide) ?_
  refine lv_istore_n (lv' := [(2, .int 0), (0, .ref ar), (1, .int a2)]) hx hb dJ7_fill_031fb_1 rfl hl (by decide) rfl (fun ls hl => ?_)
  refine lv_aload_n hx hb dJ7_fill_031fb_2 rfl (lv_at hl 1 rfl) ?_
  obtain ⟨z_52, e_z_52⟩ : ∃ y : Int32, y = Int32.ofNat n := ⟨_, rfl⟩
  refine va_alen (v := z_52) hx hb hK hP 0 0 rfl rfl e_z_52.symm dJ7_fill_031fb_3 ?_
  obtain ⟨q_z_52, b_z_52⟩ := ti_len (hi := 300000) e_z_52 (by omega) (by decide)
  refine lv_istore_n (lv' := [(3, .int z_52), (2, .int 0), (0, .ref ar), (1, .int a2)]) hx hb dJ7_fill_031fb_4 rfl hl (by decide) rfl (fun ls hl => ?_)
  refine loopW (σ := Int32 × (Nat → Int32)) (fun v => (300000 - v.1.toInt).toNat) (fun v H locs ls => ((0 : Int) ≤ v.1.toInt ∧ v.1.toInt ≤ 300000) ∧ va_P (dC, dI) vwCl [(ar, .inl (cA, n, .inl v.2))] H ∧ va_D A [(ar, .inl (cA, n, .inl v.2))] ∧ va_S A s.heap H locs ∧ lv_has ls 4 [(3, .int z_52), (2, .int v.1), (0, .ref ar), (1, .int a2)]) (fun v H locs ls hI ih_5_99 => ?_) ((0 : Int32), f) ⟨(show (0 : Int) ≤ (0 : Int32).toInt ∧ (0 : Int32).toInt ≤ 300000 from (rg_w (by decide : (0 : Int) ≤ (0 : Int32).toInt ∧ (0 : Int32).toInt ≤ 0) (by decide) (by decide))), hP, hD, hS, lv_sub hl [0, 1, 2, 3] rfl⟩
  obtain ⟨y_56, f_57⟩ := v
  obtain ⟨b_y_56, hP, hD, hS, hl⟩ := hI
  have b_y_56 : (0 : Int) ≤ y_56.toInt ∧ y_56.toInt ≤ 300000 := b_y_56
  have hP : va_P (dC, dI) vwCl [(ar, .inl (cA, n, .inl f_57))] H := hP
  have hD : va_D A [(ar, .inl (cA, n, .inl f_57))] := hD
  have hl : lv_has ls 4 [(3, .int z_52), (2, .int y_56), (0, .ref ar), (1, .int a2)] := hl
  refine lv_iload_n hx hb dJ7_fill_031fb_5 rfl (lv_at hl 1 rfl) ?_
  refine lv_iload_n hx hb dJ7_fill_031fb_6 rfl (lv_at hl 0 rfl) ?_
  refine lv_icmp_ge (tgt := 20) hx hb dJ7_fill_031fb_7 (by decide) (fun c_100 => ?_) (fun c_100 => ?_)
  ·
    have n_c_100 : (z_52.toInt : Int) ≤ y_56.toInt := c_ge rfl rfl c_100
    have hP9 := hP.sub (ws' := [(ar, .inl (cA, n, .inl f_57))]) [0] rfl
    have hD9 := hD.sub (ws' := [(ar, .inl (cA, n, .inl f_57))]) [0] (by decide) rfl
    have hK9 := hK.sub (tys' := [(cA, .byte)]) [0] rfl
    exact W.vret hx hb hr (fun t ht hW => ⟨⟨(), rfl, trivial, f_57, by rw [ht]; exact hP9, va_K.moved hW.alike hK9, hD9⟩, hS.F ht⟩) hS.2.2 dJ7_fill_031fb_20
  ·
    have n_c_100 : (y_56.toInt : Int) < z_52.toInt := c_nge rfl rfl c_100
    have b_y_56 : (0 : Int) ≤ y_56.toInt ∧ y_56.toInt ≤ 299999 := r_lt1 b_y_56 b_z_52 n_c_100 (by decide)
    have b_z_52 : (1 : Int) ≤ z_52.toInt ∧ z_52.toInt ≤ 300000 := r_lt2 b_y_56 b_z_52 n_c_100 (by decide)
    refine lv_aload_n hx hb dJ7_fill_031fb_10 rfl (lv_at hl 2 rfl) ?_
    refine lv_iload_n hx hb dJ7_fill_031fb_11 rfl (lv_at hl 1 rfl) ?_
    refine lv_iload_n hx hb dJ7_fill_031fb_12 rfl (lv_at hl 3 rfl) ?_
    refine va_bast hx hb hK hP hD hS 0 0 rfl rfl (vp_in_iff.mpr ⟨by omega, by omega⟩) dJ7_fill_031fb_13 (fun H locs hP hD hS => ?_)
    have hP : va_P (dC, dI) vwCl [(ar, .inl (cA, n, .inl (upd f_57 (y_56 : Int32).toNatClampNeg (vp_nar .byte a2))))] H := hP
    have hD : va_D A [(ar, .inl (cA, n, .inl (upd f_57 (y_56 : Int32).toNatClampNeg (vp_nar .byte a2))))] := hD
    generalize (upd f_57 (y_56 : Int32).toNatClampNeg (vp_nar .byte a2)) = f_101 at hP hD
    have hP : va_P (dC, dI) vwCl [(ar, .inl (cA, n, .inl f_101))] H := hP
    have hD : va_D A [(ar, .inl (cA, n, .inl f_101))] := hD
    obtain ⟨z_102, e_z_102⟩ : ∃ y : Int32, y = y_56 + 1 := ⟨_, rfl⟩
    refine lv_iinc (v := z_102) (lv' := [(2, .int z_102), (3, .int z_52), (0, .ref ar), (1, .int a2)]) hx hb dJ7_fill_031fb_14 hl (k := 1) rfl (by rw [e_z_102]; rfl) (by decide) rfl (fun ls hl => ?_)
    obtain ⟨q_z_102, b_z_102⟩ := ti_add (lo := 1) (hi := 300000) e_z_102 rfl (by decide : (1 : Int32).toInt = 1) b_y_56 (by decide : (1 : Int) ≤ (1 : Int32).toInt ∧ (1 : Int32).toInt ≤ 1) (by decide)
    refine lv_goto (tgt := 5) hx hb dJ7_fill_031fb_17 (by decide) ?_
    exact ih_5_99 (z_102, f_101) _ _ _ ⟨(show (0 : Int) ≤ z_102.toInt ∧ z_102.toInt ≤ 300000 from (rg_w b_z_102 (by decide) (by decide))), hP, hD, hS, lv_sub hl [1, 0, 2, 3] rfl⟩ (show (300000 - z_102.toInt).toNat < (300000 - y_56.toInt).toNat by omega)
theorem dX3_begin_0 : decode cX3_begin 0 = .ok (.aload_n 0, 1) := by decide +kernel
theorem dX3_begin_1 : decode cX3_begin 1 = .ok (.iload_n 1, 1) := by decide +kernel
theorem dX3_begin_2 : decode cX3_begin 2 = .ok (.putfield 9, 3) := by decide +kernel
theorem dX3_begin_5 : decode cX3_begin 5 = .ok (.aload_n 0, 1) := by decide +kernel
theorem dX3_begin_6 : decode cX3_begin 6 = .ok (.iload_n 2, 1) := by decide +kernel
theorem dX3_begin_7 : decode cX3_begin 7 = .ok (.putfield 19, 3) := by decide +kernel
theorem dX3_begin_10 : decode cX3_begin 10 = .ok (.aload_n 0, 1) := by decide +kernel
theorem dX3_begin_11 : decode cX3_begin 11 = .ok (.getfield 15, 3) := by decide +kernel
theorem dX3_begin_14 : decode cX3_begin 14 = .ok (.lconst 0, 1) := by decide +kernel
theorem dX3_begin_15 : decode cX3_begin 15 = .ok (.invokestatic 22, 3) := by decide +kernel
theorem dX3_begin_18 : decode cX3_begin 18 = .ok (.return_, 1) := by decide +kernel
theorem hd_yX3_begin : yX3_begin.cls = RX3 ∧ yX3_begin.cls ≠ "java/lang/invoke/MethodHandle" ∧ yX3_begin.cls ≠ "java/lang/invoke/VarHandle" ∧ (parseMethodDescriptor yX3_begin.desc).map (fun d => d.parameters.length) = some 2 := by decide +kernel
def uX3_begin : List Cond := List.cons (.code yX3_begin cX3_begin 3 none) (HAppend.hAppend ([.fieldLink RX3 9 "LuckyTicket$Row" "width" "I", .fieldLink RX3 19 "LuckyTicket$Row" "size" "I", .fieldLink RX3 15 "LuckyTicket$Row" "numbers" "[J", .methodLink RX3 22 yJ7_fill_d0a16, .static yJ7_fill_d0a16, .initialized RJ7] : List Cond) (HAppend.hAppend uJ7_fill_d0a16 wsX30))
theorem iX3_begin_X3 : ∀ w ∈ wsX30, w ∈ uX3_begin := fun _ h => (List.mem_cons_of_mem _ (List.mem_append_right _ (List.mem_append_right _ h)))
theorem guX3_begin : GU uX3_begin := gu_cons (gu_app (by decide +kernel) (gu_ap guJ7_fill_d0a16 gws_X3))
theorem gX3_begin__J7_fill_d0a16_S22 : GoodIn uX3_begin (va_wsS RX3 22 yJ7_fill_d0a16 uJ7_fill_d0a16) := gin_S (List.mem_of_getElem? (i := 4) rfl) (List.mem_of_getElem? (i := 5) rfl) (List.mem_of_getElem? (i := 6) rfl) (fun _ h => (List.mem_cons_of_mem _ (List.mem_append_right _ (List.mem_append_left _ h)))) guJ7_fill_d0a16
set_option maxHeartbeats 4000000 in
set_option maxRecDepth 100000 in
theorem kX3_begin (l : Launch) (dC : Nat → ClassId) (dI : Nat → Nat → Nat) (rw : Nat) (wd : Int32) (rz : Int32) (nu : Nat) (cN : ClassId) (fn : Nat → Int64) (a1 : Int32) (a2 : Int32) (sz : Nat) (b_wd : (-1 : Int) ≤ wd.toInt ∧ wd.toInt ≤ 3) (b_rz : (0 : Int) ≤ rz.toInt ∧ rz.toInt ≤ 60) (b_a1 : (0 : Int) ≤ a1.toInt ∧ a1.toInt ≤ 3) (b_a2 : (0 : Int) ≤ a2.toInt ∧ a2.toInt ≤ 60) : Met l yX3_begin uX3_begin ({ frames := 1, cells := 0, slots := 0, locals := 24 }) (va_Pc [.ref rw, .int a1, .int a2] (hw (dC, dI) vwCl [(rw, .inr (2, [.int wd, .int rz, .ref nu])), (nu, .inl (cN, 60, .inr (.inl fn)))] [(cN, .long)] sz)) (va_Qv (fun (_ : Unit) => True) (fun (_ : Unit) t => ∃ (o2_ : Nat → Int64), va_P (dC, dI) vwCl [(rw, .inr (2, [.int a1, .int a2, .ref nu])), (nu, .inl (cN, 60, .inr (.inl o2_)))] t.heap ∧ va_K (dC, dI) vwCl [(cN, .long)] t ∧ va_D (va_A [(rw, .inr (2, [.int wd, .int rz, .ref nu])), (nu, .inl (cN, 60, .inr (.inl fn)))] sz) [(rw, .inr (2, [.int a1, .int a2, .ref nu])), (nu, .inl (cN, 60, .inr (.inl o2_)))]) (va_A [(rw, .inr (2, [.int wd, .int rz, .ref nu])), (nu, .inl (cN, 60, .inr (.inl fn)))] sz)) 0 0 (va_A [(rw, .inr (2, [.int wd, .int rz, .ref nu])), (nu, .inl (cN, 60, .inr (.inl fn)))] sz) := by
  refine Met.ofW (cc := cX3_begin) (maxL := 3) (ret := none) pn_X3 rfl ?_
  intro p e s m args below meth c s₁ B hml hv
  obtain ⟨rfl, hsz, hP, hK, hD0, hN⟩ := hv
  have hx := B.exec
  have hb := B.bytes
  have hr := B.returns
  have hts := atoms_spec (ws := uX3_begin) B.pre
  have hown : s.vm.findClass RX3 = some m.cls := hown_of B.named rfl
  have hlocks := B.notSynchronized
  subst hsz
  have hD := hD0.self (sz := s.heap.size)
  generalize hAe : va_A [(rw, .inr (2, [.int wd, .int rz, .ref nu])), (nu, .inl (cN, 60, .inr (.inl fn)))] s.heap.size = A at hD ⊢
  have hA : ∀ q : Nat, s.heap.size ≤ q → A q := fun q h => by rw [← hAe]; exact Or.inr h
  have hS : va_S A s.heap s.heap [] := va_S.rf
  have hP : va_P (dC, dI) vwCl [(rw, .inr (2, [.int wd, .int rz, .ref nu])), (nu, .inl (cN, 60, .inr (.inl fn)))] s.heap := hP
  have hl := lv_entry ([.ref rw, .int a1, .int a2]) (n := 3) (Nat.le_of_ble_eq_true rfl)
  rw [lg_entry_eq]
  generalize (lg_sl ([.ref rw, .int a1, .int a2]) ++ List.replicate (3 - (lg_sl ([.ref rw, .int a1, .int a2])).length) Slot.unset).toArray = ls at hl ⊢
  have hl : lv_has ls 3 [(0, .ref rw), (1, .int a1), (2, .int a2)] := hl
  refine lv_aload_n hx hb dX3_begin_0 rfl (lv_at hl 0 rfl) ?_
  refine lv_iload_n hx hb dX3_begin_1 rfl (lv_at hl 1 rfl) ?_
  refine va_put (D := (dC, dI)) (ci := 2) (v := .int a1) (ty := .int) (C := RX3) (T := TX3) (N := 3) hx hb hts iX3_begin_X3 tyX3 tyX3_ok nmX3 hown hK hP hD hS 0 rfl rfl 0 (by decide) (hts (.fieldLink RX3 9 "LuckyTicket$Row" "width" "I") (List.mem_of_getElem? (i := 1) rfl)) (fun _ h9 => h9) rfl (by decide +kernel) rfl rfl (Nat.le_of_ble_eq_true rfl) dX3_begin_2 (fun H locs hP hD hS => ?_)
  have hP : va_P (dC, dI) vwCl [(rw, .inr (2, [.int a1, .int rz, .ref nu])), (nu, .inl (cN, 60, .inr (.inl fn)))] H := hP
  have hD : va_D A [(rw, .inr (2, [.int a1, .int rz, .ref nu])), (nu, .inl (cN, 60, .inr (.inl fn)))] := hD
  refine lv_aload_n hx hb dX3_begin_5 rfl (lv_at hl 0 rfl) ?_
  refine lv_iload_n hx hb dX3_begin_6 rfl (lv_at hl 2 rfl) ?_
  refine va_put (D := (dC, dI)) (ci := 2) (v := .int a2) (ty := .int) (C := RX3) (T := TX3) (N := 3) hx hb hts iX3_begin_X3 tyX3 tyX3_ok nmX3 hown hK hP hD hS 0 rfl rfl 1 (by decide) (hts (.fieldLink RX3 19 "LuckyTicket$Row" "size" "I") (List.mem_of_getElem? (i := 2) rfl)) (fun _ h9 => h9) rfl (by decide +kernel) rfl rfl (Nat.le_of_ble_eq_true rfl) dX3_begin_7 (fun H locs hP hD hS => ?_)
  have hP : va_P (dC, dI) vwCl [(rw, .inr (2, [.int a1, .int a2, .ref nu])), (nu, .inl (cN, 60, .inr (.inl fn)))] H := hP
  have hD : va_D A [(rw, .inr (2, [.int a1, .int a2, .ref nu])), (nu, .inl (cN, 60, .inr (.inl fn)))] := hD
  refine lv_aload_n hx hb dX3_begin_10 rfl (lv_at hl 0 rfl) ?_
  refine va_get (D := (dC, dI)) (ci := 2) (v := .ref nu) (C := RX3) (T := TX3) (N := 3) hx hb hts iX3_begin_X3 hown hK hP 0 rfl rfl 2 (by decide) (hts (.fieldLink RX3 15 "LuckyTicket$Row" "numbers" "[J") (List.mem_of_getElem? (i := 3) rfl)) (fun _ h9 => h9) rfl dX3_begin_11 ?_
  refine lv_lconst (v := 0) hx hb dX3_begin_14 (by decide) ?_
  have hFc := va_free (wc := [(nu, .inl (cN, 60, .inr (.inl fn)))]) hD hS hA [1] rfl
  refine va_callv (va_runS (As := [.ref nu, .long 0]) (rest := []) ⟨hx, hb, hml, hown, hts⟩ (kJ7_fill_d0a16 l dC dI nu cN 60 fn 0 (H.size) (by omega)) (va_cwS 2 hts gX3_begin__J7_fill_d0a16_S22 rfl rfl rfl hd_yJ7_fill_d0a16.2 ⟨lel 1 1 rfl, lel 24 24 rfl⟩) ⟨hw_fb, (hw_use hP hD hK hN [1] rfl (by decide) rfl [0] rfl)⟩ rfl rfl hl.1 rfl (lv_room (Nat.le_of_ble_eq_true rfl)) dX3_begin_15 ⟨lel 0 0 rfl, lel 0 0 rfl⟩) hS (fun q _ h => hFc q h) hFc (fun u_5 t H1 locs ht hvm hw_r_4 hB hz1 hk1 hS => ?_)
  obtain ⟨o0_6, hP1, hK1, hD1⟩ := hB
  rw [ht] at hP1
  have hK1 := va_K.moved hvm.symm hK1
  obtain ⟨hP, hD⟩ := va_join (wr := [(rw, .inr (2, [.int a1, .int a2, .ref nu]))]) (w1 := [(nu, .inl (cN, 60, .inr (.inl o0_6)))]) hP hD [1] [0] rfl rfl (by decide) (by decide) hk1 hFc hP1 hD1
  have hK := (hK.sub (tys' := []) [] rfl).app hK1
  generalize H1 = H at hP hS ⊢
  have hP : va_P (dC, dI) vwCl [(rw, .inr (2, [.int a1, .int a2, .ref nu])), (nu, .inl (cN, 60, .inr (.inl o0_6)))] H := hP
  have hD : va_D A [(rw, .inr (2, [.int a1, .int a2, .ref nu])), (nu, .inl (cN, 60, .inr (.inl o0_6)))] := hD
  have hK : va_K (dC, dI) vwCl [(cN, .long)] s := hK
  have hP9 := hP.sub (ws' := [(rw, .inr (2, [.int a1, .int a2, .ref nu])), (nu, .inl (cN, 60, .inr (.inl o0_6)))]) [0, 1] rfl
  have hD9 := hD.sub (ws' := [(rw, .inr (2, [.int a1, .int a2, .ref nu])), (nu, .inl (cN, 60, .inr (.inl o0_6)))]) [0, 1] (by decide) rfl
  have hK9 := hK.sub (tys' := [(cN, .long)]) [0] rfl
  exact W.vret hx hb hr (fun t ht hW => ⟨⟨(), rfl, trivial, o0_6, by rw [ht]; exact hP9, va_K.moved hW.alike hK9, hD9⟩, hS.F ht⟩) hS.2.2 dX3_begin_18
theorem dX3_put_0 : decode cX3_put 0 = .ok (.iload_n 1, 1) := by decide +kernel
theorem dX3_put_1 : decode cX3_put 1 = .ok (.ifCond .lt 28, 3) := by decide +kernel
theorem dX3_put_4 : decode cX3_put 4 = .ok (.iload_n 1, 1) := by decide +kernel
theorem dX3_put_5 : decode cX3_put 5 = .ok (.aload_n 0, 1) := by decide +kernel
theorem dX3_put_6 : decode cX3_put 6 = .ok (.getfield 19, 3) := by decide +kernel
theorem dX3_put_9 : decode cX3_put 9 = .ok (.if_icmp .ge 20, 3) := by decide +kernel
theorem dX3_put_12 : decode cX3_put 12 = .ok (.iload_n 1, 1) := by decide +kernel
theorem dX3_put_13 : decode cX3_put 13 = .ok (.bipush 60, 2) := by decide +kernel
theorem dX3_put_15 : decode cX3_put 15 = .ok (.if_icmp .ge 14, 3) := by decide +kernel
theorem dX3_put_18 : decode cX3_put 18 = .ok (.aload_n 0, 1) := by decide +kernel
theorem dX3_put_19 : decode cX3_put 19 = .ok (.getfield 15, 3) := by decide +kernel
theorem dX3_put_22 : decode cX3_put 22 = .ok (.iload_n 1, 1) := by decide +kernel
theorem dX3_put_23 : decode cX3_put 23 = .ok (.aload_n 0, 1) := by decide +kernel
theorem dX3_put_24 : decode cX3_put 24 = .ok (.lload_n 2, 1) := by decide +kernel
theorem dX3_put_25 : decode cX3_put 25 = .ok (.invokevirtual 30, 3) := by decide +kernel
theorem dX3_put_28 : decode cX3_put 28 = .ok (.lastore, 1) := by decide +kernel
theorem dX3_put_29 : decode cX3_put 29 = .ok (.return_, 1) := by decide +kernel
theorem hd_yX3_put : yX3_put.cls = RX3 ∧ yX3_put.cls ≠ "java/lang/invoke/MethodHandle" ∧ yX3_put.cls ≠ "java/lang/invoke/VarHandle" ∧ (parseMethodDescriptor yX3_put.desc).map (fun d => d.parameters.length) = some 2 := by decide +kernel
def uX3_put : List Cond := List.cons (.code yX3_put cX3_put 4 none) (HAppend.hAppend ([.fieldLink RX3 19 "LuckyTicket$Row" "size" "I", .fieldLink RX3 15 "LuckyTicket$Row" "numbers" "[J", .methodLink RX3 30 yX3_cut, .instanceMethod yX3_cut, .selects RX3 yX3_cut yX3_cut, .initialized RX3] : List Cond) (HAppend.hAppend uX3_cut wsX30))
theorem iX3_put_X3 : ∀ w ∈ wsX30, w ∈ uX3_put := fun _ h => (List.mem_cons_of_mem _ (List.mem_append_right _ (List.mem_append_right _ h)))
theorem guX3_put : GU uX3_put := gu_cons (gu_app (by decide +kernel) (gu_ap guX3_cut gws_X3))
theorem gX3_put__X3_cut_V30 : GoodIn uX3_put (wsV RX3 30 RX3 yX3_cut uX3_cut) := gin_V (List.mem_of_getElem? (i := 3) rfl) (List.mem_of_getElem? (i := 4) rfl) (List.mem_of_getElem? (i := 5) rfl) (List.mem_of_getElem? (i := 6) rfl) (fun _ h => (List.mem_cons_of_mem _ (List.mem_append_right _ (List.mem_append_left _ h)))) guX3_cut
set_option maxHeartbeats 4000000 in
set_option maxRecDepth 100000 in
theorem kX3_put (l : Launch) (dC : Nat → ClassId) (dI : Nat → Nat → Nat) (rw : Nat) (wd : Int32) (rz : Int32) (nu : Nat) (cN : ClassId) (fn : Nat → Int64) (a1 : Int32) (a2 : Int64) (sz : Nat) (b_wd : (-1 : Int) ≤ wd.toInt ∧ wd.toInt ≤ 3) (b_rz : (0 : Int) ≤ rz.toInt ∧ rz.toInt ≤ 60) : Met l yX3_put uX3_put ({ frames := 1, cells := 0, slots := 0, locals := 22 }) (va_Pc [.ref rw, .int a1, .long a2] (hw (dC, dI) vwCl [(rw, .inr (2, [.int wd, .int rz, .ref nu])), (nu, .inl (cN, 60, .inr (.inl fn)))] [(cN, .long)] sz)) (va_Qv (fun (_ : Unit) => True) (fun (_ : Unit) t => ∃ (o0_ : Nat → Int64), va_P (dC, dI) vwCl [(rw, .inr (2, [.int wd, .int rz, .ref nu])), (nu, .inl (cN, 60, .inr (.inl o0_)))] t.heap ∧ va_K (dC, dI) vwCl [(cN, .long)] t ∧ va_D (va_A [(rw, .inr (2, [.int wd, .int rz, .ref nu])), (nu, .inl (cN, 60, .inr (.inl fn)))] sz) [(rw, .inr (2, [.int wd, .int rz, .ref nu])), (nu, .inl (cN, 60, .inr (.inl o0_)))]) (va_A [(rw, .inr (2, [.int wd, .int rz, .ref nu])), (nu, .inl (cN, 60, .inr (.inl fn)))] sz)) 0 0 (va_A [(rw, .inr (2, [.int wd, .int rz, .ref nu])), (nu, .inl (cN, 60, .inr (.inl fn)))] sz) := by
  refine Met.ofW (cc := cX3_put) (maxL := 4) (ret := none) pn_X3 rfl ?_
  intro p e s m args below meth c s₁ B hml hv
  obtain ⟨rfl, hsz, hP, hK, hD0, hN⟩ := hv
  have hx := B.exec
  have hb := B.bytes
  have hr := B.returns
  have hts := atoms_spec (ws := uX3_put) B.pre
  have hown : s.vm.findClass RX3 = some m.cls := hown_of B.named rfl
  have hlocks := B.notSynchronized
  subst hsz
  have hD := hD0.self (sz := s.heap.size)
  generalize hAe : va_A [(rw, .inr (2, [.int wd, .int rz, .ref nu])), (nu, .inl (cN, 60, .inr (.inl fn)))] s.heap.size = A at hD ⊢
  have hA : ∀ q : Nat, s.heap.size ≤ q → A q := fun q h => by rw [← hAe]; exact Or.inr h
  have hS : va_S A s.heap s.heap [] := va_S.rf
  have hP : va_P (dC, dI) vwCl [(rw, .inr (2, [.int wd, .int rz, .ref nu])), (nu, .inl (cN, 60, .inr (.inl fn)))] s.heap := hP
  have hl := lv_entry ([.ref rw, .int a1, .long a2]) (n := 4) (Nat.le_of_ble_eq_true rfl)
  rw [lg_entry_eq]
  generalize (lg_sl ([.ref rw, .int a1, .long a2]) ++ List.replicate (4 - (lg_sl ([.ref rw, .int a1, .long a2])).length) Slot.unset).toArray = ls at hl ⊢
  have hl : lv_has ls 4 [(0, .ref rw), (1, .int a1), (2, .long a2)] := hl
  refine lv_iload_n hx hb dX3_put_0 rfl (lv_at hl 1 rfl) ?_
  refine lv_if_lt (tgt := 29) hx hb dX3_put_1 (by decide) (fun c_6 => ?_) (fun c_6 => ?_)
  ·
    have n_c_6 : (a1.toInt : Int) < 0 := c_lt rfl (by decide) c_6
    have b_a1 : (-2147483648 : Int) ≤ a1.toInt ∧ a1.toInt ≤ -1 := r_lt1 (ti_rng a1) (by decide : (0 : Int) ≤ (0 : Int32).toInt ∧ (0 : Int32).toInt ≤ 0) n_c_6 (by decide)
    have hP9 := hP.sub (ws' := [(rw, .inr (2, [.int wd, .int rz, .ref nu])), (nu, .inl (cN, 60, .inr (.inl fn)))]) [0, 1] rfl
    have hD9 := hD.sub (ws' := [(rw, .inr (2, [.int wd, .int rz, .ref nu])), (nu, .inl (cN, 60, .inr (.inl fn)))]) [0, 1] (by decide) rfl
    have hK9 := hK.sub (tys' := [(cN, .long)]) [0] rfl
    exact W.vret hx hb hr (fun t ht hW => ⟨⟨(), rfl, trivial, fn, by rw [ht]; exact hP9, va_K.moved hW.alike hK9, hD9⟩, hS.F ht⟩) hS.2.2 dX3_put_29
  ·
    have n_c_6 : (0 : Int) ≤ a1.toInt := c_nlt rfl (by decide) c_6
    have b_a1 : (0 : Int) ≤ a1.toInt ∧ a1.toInt ≤ 2147483647 := r_le2 (by decide : (0 : Int) ≤ (0 : Int32).toInt ∧ (0 : Int32).toInt ≤ 0) (ti_rng a1) n_c_6 (by decide)
    refine lv_iload_n hx hb dX3_put_4 rfl (lv_at hl 1 rfl) ?_
    refine lv_aload_n hx hb dX3_put_5 rfl (lv_at hl 0 rfl) ?_
    refine va_get (D := (dC, dI)) (ci := 2) (v := .int rz) (C := RX3) (T := TX3) (N := 3) hx hb hts iX3_put_X3 hown hK hP 0 rfl rfl 1 (by decide) (hts (.fieldLink RX3 19 "LuckyTicket$Row" "size" "I") (List.mem_of_getElem? (i := 1) rfl)) (fun _ h9 => h9) rfl dX3_put_6 ?_
    refine lv_icmp_ge (tgt := 29) hx hb dX3_put_9 (by decide) (fun c_7 => ?_) (fun c_7 => ?_)
    ·
      have n_c_7 : (rz.toInt : Int) ≤ a1.toInt := c_ge rfl rfl c_7
      have hP9 := hP.sub (ws' := [(rw, .inr (2, [.int wd, .int rz, .ref nu])), (nu, .inl (cN, 60, .inr (.inl fn)))]) [0, 1] rfl
      have hD9 := hD.sub (ws' := [(rw, .inr (2, [.int wd, .int rz, .ref nu])), (nu, .inl (cN, 60, .inr (.inl fn)))]) [0, 1] (by decide) rfl
      have hK9 := hK.sub (tys' := [(cN, .long)]) [0] rfl
      exact W.vret hx hb hr (fun t ht hW => ⟨⟨(), rfl, trivial, fn, by rw [ht]; exact hP9, va_K.moved hW.alike hK9, hD9⟩, hS.F ht⟩) hS.2.2 dX3_put_29
    ·
      have n_c_7 : (a1.toInt : Int) < rz.toInt := c_nge rfl rfl c_7
      have b_a1 : (0 : Int) ≤ a1.toInt ∧ a1.toInt ≤ 59 := r_lt1 b_a1 b_rz n_c_7 (by decide)
      have b_rz : (1 : Int) ≤ rz.toInt ∧ rz.toInt ≤ 60 := r_lt2 b_a1 b_rz n_c_7 (by decide)
      refine lv_iload_n hx hb dX3_put_12 rfl (lv_at hl 1 rfl) ?_
      refine lv_bipush (v := 60) hx hb dX3_put_13 (by decide) ?_
      refine lv_icmp_ge (tgt := 29) hx hb dX3_put_15 (by decide) (fun c_8 => absurd (show (60 : Int) ≤ a1.toInt from c_ge rfl (by decide) c_8) (by have q1 := b_a1; have q2 := (by decide : (60 : Int) ≤ (60 : Int32).toInt ∧ (60 : Int32).toInt ≤ 60); omega)) (fun c_8 => ?_)
      refine lv_aload_n hx hb dX3_put_18 rfl (lv_at hl 0 rfl) ?_
      refine va_get (D := (dC, dI)) (ci := 2) (v := .ref nu) (C := RX3) (T := TX3) (N := 3) hx hb hts iX3_put_X3 hown hK hP 0 rfl rfl 2 (by decide) (hts (.fieldLink RX3 15 "LuckyTicket$Row" "numbers" "[J") (List.mem_of_getElem? (i := 2) rfl)) (fun _ h9 => h9) rfl dX3_put_19 ?_
      refine lv_iload_n hx hb dX3_put_22 rfl (lv_at hl 1 rfl) ?_
      refine lv_aload_n hx hb dX3_put_23 rfl (lv_at hl 0 rfl) ?_
      refine lv_lload_n hx hb dX3_put_24 rfl (lv_at hl 2 rfl) ?_
      refine vp_callSl (W.runV (As := [.long a2]) (rest := [.int a1, .ref nu]) ⟨hx, hb, hml, hown, hts⟩ (kX3_cut l dC dI rw wd rz nu a2 b_wd (rg_w b_rz (by decide) (by decide))) (cwV 1 hts gX3_put__X3_cut_V30 rfl rfl rfl hd_yX3_cut ⟨lel 1 1 rfl, lel 22 22 rfl⟩) ⟨pw_fb, rcv_X3 hK hP (q0 := 0) rfl, (pw_use hP hK hN [0] rfl [] rfl)⟩ rfl rfl hl.1 rfl (lv_room (Nat.le_of_ble_eq_true rfl)) dX3_put_25 ⟨lel 0 0 rfl, lel 0 0 rfl⟩) (fun r_9 h_r_9 => ?_)
      refine va_last hx hb hK hP hD hS 1 0 rfl rfl (vp_in_b b_a1 (by decide) (by decide)) dX3_put_28 (fun H locs hP hD hS => ?_)
      have hP : va_P (dC, dI) vwCl [(rw, .inr (2, [.int wd, .int rz, .ref nu])), (nu, .inl (cN, 60, .inr (.inl (vp_updL fn (a1 : Int32).toNatClampNeg r_9))))] H := hP
      have hD : va_D A [(rw, .inr (2, [.int wd, .int rz, .ref nu])), (nu, .inl (cN, 60, .inr (.inl (vp_updL fn (a1 : Int32).toNatClampNeg r_9))))] := hD
      generalize (vp_updL fn (a1 : Int32).toNatClampNeg r_9) = f_10 at hP hD
      have hP : va_P (dC, dI) vwCl [(rw, .inr (2, [.int wd, .int rz, .ref nu])), (nu, .inl (cN, 60, .inr (.inl f_10)))] H := hP
      have hD : va_D A [(rw, .inr (2, [.int wd, .int rz, .ref nu])), (nu, .inl (cN, 60, .inr (.inl f_10)))] := hD
      have hP9 := hP.sub (ws' := [(rw, .inr (2, [.int wd, .int rz, .ref nu])), (nu, .inl (cN, 60, .inr (.inl f_10)))]) [0, 1] rfl
      have hD9 := hD.sub (ws' := [(rw, .inr (2, [.int wd, .int rz, .ref nu])), (nu, .inl (cN, 60, .inr (.inl f_10)))]) [0, 1] (by decide) rfl
      have hK9 := hK.sub (tys' := [(cN, .long)]) [0] rfl
      exact W.vret hx hb hr (fun t ht hW => ⟨⟨(), rfl, trivial, f_10, by rw [ht]; exact hP9, va_K.moved hW.alike hK9, hD9⟩, hS.F ht⟩) hS.2.2 dX3_put_29
