def uX9_powerF : List Cond := List.cons (.code yX9_power cX9_power 4 (some .int)) ([] : List Cond)
theorem guX9_powerF : GU uX9_powerF := gu_cons (gu_all (by decide +kernel))
set_option maxHeartbeats 4000000 in
set_option maxRecDepth 100000 in
theorem kX9_powerF (l : Launch) (dC : Nat → ClassId) (dI : Nat → Nat → Nat) (a1 : Int32) (a2 : Int32) (b_a1 : (0 : Int) ≤ a1.toInt ∧ a1.toInt ≤ 16) (b_a2 : (0 : Int) ≤ a2.toInt ∧ a2.toInt ≤ 12) : Met l yX9_power uX9_powerF ({ frames := 0, cells := 0, slots := 0, locals := 0 }) (va_Pc [.int a1, .int a2] (fun _ => True)) (vp_Si (fun r => ((0 : Int) ≤ r.toInt ∧ r.toInt ≤ 320000) ∧ (pwr a1 a2 r))) 0 0 (fun _ => False) := by
  refine Met.ofW (cc := cX9_power) (maxL := 4) (ret := (some .int)) pn_X9 rfl ?_
  intro p e s m args below meth c s₁ B hml hv
  obtain ⟨rfl, _⟩ := hv
  have hx := B.exec
  have hb := B.bytes
  have hr := B.returns
  have hts := atoms_spec (ws := uX9_powerF) B.pre
  have hown : s.vm.findClass RX9 = some m.cls := hown_of B.named rfl
  have hlocks := B.notSynchronized
  have hl := lv_entry ([.int a1, .int a2]) (n := 4) (Nat.le_of_ble_eq_true rfl)
  rw [lg_entry_eq]
  generalize (lg_sl ([.int a1, .int a2]) ++ List.replicate (4 - (lg_sl ([.int a1, .int a2])).length) Slot.unset).toArray = ls at hl ⊢
  have hl : lv_has ls 4 [(0, .int a1), (1, .int a2)] := hl
  refine lv_iconst (v := 1) hx hb dX9_power_0 (by decide) ?_
  refine lv_istore_n (lv' := [(2, .int 1), (0, .int a1), (1, .int a2)]) hx hb dX9_power_1 rfl hl (by decide) rfl (fun ls hl => ?_)
  refine lv_iconst (v := 0) hx hb dX9_power_2 (by decide) ?_
  refine lv_istore_n (lv' := [(3, .int 0), (2, .int 1), (0, .int a1), (1, .int a2)]) hx hb dX9_power_3 rfl hl (by decide) rfl (fun ls hl => ?_)
  refine loopP (σ := Int32 × Int32) (fun v => (12 - v.1.toInt).toNat) (fun v ls => ((0 : Int) ≤ v.1.toInt ∧ v.1.toInt ≤ 12) ∧ ((0 : Int) ≤ v.2.toInt ∧ v.2.toInt ≤ 320000) ∧ (v.2.toInt = ((a1.toInt.toNat ^ v.1.toInt.toNat : Nat) : Int)) ∧ (v.1.toInt ≤ a2.toInt) ∧ lv_has ls 4 [(3, .int v.1), (2, .int v.2), (0, .int a1), (1, .int a2)]) (fun v ls hI ih_4_40 => ?_) ((0 : Int32), (1 : Int32)) ⟨(show (0 : Int) ≤ (0 : Int32).toInt ∧ (0 : Int32).toInt ≤ 12 from (rg_w (by decide : (0 : Int) ≤ (0 : Int32).toInt ∧ (0 : Int32).toInt ≤ 0) (by decide) (by decide))), (show (0 : Int) ≤ (1 : Int32).toInt ∧ (1 : Int32).toInt ≤ 320000 from (rg_w (by decide : (1 : Int) ≤ (1 : Int32).toInt ∧ (1 : Int32).toInt ≤ 1) (by decide) (by decide))), (show (1 : Int32).toInt = ((a1.toInt.toNat ^ (0 : Int32).toInt.toNat : Nat) : Int) from (by have zl : (0 : Int32).toInt = 0 := (by decide); have zl : (1 : Int32).toInt = 1 := (by decide); rfl)), (show (0 : Int32).toInt ≤ a2.toInt from (by have zl : (0 : Int32).toInt = 0 := (by decide); have zl : (1 : Int32).toInt = 1 := (by decide); omega)), lv_sub hl [0, 1, 2, 3] rfl⟩
  obtain ⟨y_27, y_28⟩ := v
  obtain ⟨b_y_27, b_y_28, hpw, hpi, hl⟩ := hI
  have b_y_27 : (0 : Int) ≤ y_27.toInt ∧ y_27.toInt ≤ 12 := b_y_27
  have b_y_28 : (0 : Int) ≤ y_28.toInt ∧ y_28.toInt ≤ 320000 := b_y_28
  have hpw : y_28.toInt = ((a1.toInt.toNat ^ y_27.toInt.toNat : Nat) : Int) := hpw
  have hpi : y_27.toInt ≤ a2.toInt := hpi
  have hl : lv_has ls 4 [(3, .int y_27), (2, .int y_28), (0, .int a1), (1, .int a2)] := hl
  refine lv_iload_n hx hb dX9_power_4 rfl (lv_at hl 0 rfl) ?_
  refine lv_iload_n hx hb dX9_power_5 rfl (lv_at hl 3 rfl) ?_
  refine lv_icmp_ge (tgt := 26) hx hb dX9_power_6 (by decide) (fun c_41 => ?_) (fun c_41 => ?_)
  ·
    have n_c_41 : (a2.toInt : Int) ≤ y_27.toInt := c_ge rfl rfl c_41
    refine lv_iload_n hx hb dX9_power_26 rfl (lv_at hl 1 rfl) ?_
    exact W.iret (v := y_28) hx hb hr (fun t ht hW => ⟨y_28, rfl, ⟨b_y_28, (pwr_end hpw (by omega) (by omega) (by omega))⟩, ht⟩) t_nil dX9_power_27
  ·
    have n_c_41 : (y_27.toInt : Int) < a2.toInt := c_nge rfl rfl c_41
    have b_y_27 : (0 : Int) ≤ y_27.toInt ∧ y_27.toInt ≤ 11 := r_lt1 b_y_27 b_a2 n_c_41 (by decide)
    have b_a2 : (1 : Int) ≤ a2.toInt ∧ a2.toInt ≤ 12 := r_lt2 b_y_27 b_a2 n_c_41 (by decide)
    refine lv_iload_n hx hb dX9_power_9 rfl (lv_at hl 1 rfl) ?_
    refine lv_sipush (v := 20000) hx hb dX9_power_10 (by decide) ?_
    refine lv_icmp_gt (tgt := 26) hx hb dX9_power_13 (by decide) (fun c_42 => ?_) (fun c_42 => ?_)
    ·
      have n_c_42 : (20000 : Int) < y_28.toInt := c_gt rfl (by decide) c_42
      have b_y_28 : (20001 : Int) ≤ y_28.toInt ∧ y_28.toInt ≤ 320000 := r_lt2 (by decide : (20000 : Int) ≤ (20000 : Int32).toInt ∧ (20000 : Int32).toInt ≤ 20000) b_y_28 n_c_42 (by decide)
      refine lv_iload_n hx hb dX9_power_26 rfl (lv_at hl 1 rfl) ?_
      exact W.iret (v := y_28) hx hb hr (fun t ht hW => ⟨y_28, rfl, ⟨(rg_w b_y_28 (by decide) (by decide)), (pwr_end hpw (by omega) (by omega) (by omega))⟩, ht⟩) t_nil dX9_power_27
    ·
      have n_c_42 : (y_28.toInt : Int) ≤ 20000 := c_ngt rfl (by decide) c_42
      have b_y_28 : (0 : Int) ≤ y_28.toInt ∧ y_28.toInt ≤ 20000 := r_le1 b_y_28 (by decide : (20000 : Int) ≤ (20000 : Int32).toInt ∧ (20000 : Int32).toInt ≤ 20000) n_c_42 (by decide)
      refine lv_iload_n hx hb dX9_power_16 rfl (lv_at hl 1 rfl) ?_
      refine lv_iload_n hx hb dX9_power_17 rfl (lv_at hl 2 rfl) ?_
      refine lv_imul hx hb dX9_power_18 ?_
      refine lv_topi (fun z_43 e_z_43 => ?_)
      obtain ⟨q_z_43, b_z_43⟩ := ti_mul (lo := 0) (hi := 320000) e_z_43 rfl rfl b_y_28 b_a1 (by decide)
      refine lv_istore_n (lv' := [(2, .int z_43), (3, .int y_27), (0, .int a1), (1, .int a2)]) hx hb dX9_power_19 rfl hl (by decide) rfl (fun ls hl => ?_)
      obtain ⟨z_44, e_z_44⟩ : ∃ y : Int32, y = y_27 + 1 := ⟨_, rfl⟩
      refine lv_iinc (v := z_44) (lv' := [(3, .int z_44), (2, .int z_43), (0, .int a1), (1, .int a2)]) hx hb dX9_power_20 hl (k := 1) rfl (by rw [e_z_44]; rfl) (by decide) rfl (fun ls hl => ?_)
      obtain ⟨q_z_44, b_z_44⟩ := ti_add (lo := 1) (hi := 12) e_z_44 rfl (by decide : (1 : Int32).toInt = 1) b_y_27 (by decide : (1 : Int) ≤ (1 : Int32).toInt ∧ (1 : Int32).toInt ≤ 1) (by decide)
      refine lv_goto (tgt := 4) hx hb dX9_power_23 (by decide) ?_
      exact ih_4_40 (z_44, z_43) _ ⟨(show (0 : Int) ≤ z_44.toInt ∧ z_44.toInt ≤ 12 from (rg_w b_z_44 (by decide) (by decide))), (show (0 : Int) ≤ z_43.toInt ∧ z_43.toInt ≤ 320000 from b_z_43), (show z_43.toInt = ((a1.toInt.toNat ^ z_44.toInt.toNat : Nat) : Int) from (pwr_step hpw q_z_43 (by omega) (by omega) q_z_44)), (show z_44.toInt ≤ a2.toInt from (by omega)), lv_sub hl [0, 1, 2, 3] rfl⟩ (show (12 - z_44.toInt).toNat < (12 - y_27.toInt).toNat by omega)
theorem dX1_greatestBase_0 : decode cX1_greatestBase 0 = .ok (.bipush 16, 2) := by decide +kernel
theorem dX1_greatestBase_2 : decode cX1_greatestBase 2 = .ok (.istore_n 1, 1) := by decide +kernel
theorem dX1_greatestBase_3 : decode cX1_greatestBase 3 = .ok (.iload_n 1, 1) := by decide +kernel
theorem dX1_greatestBase_4 : decode cX1_greatestBase 4 = .ok (.iconst 2, 1) := by decide +kernel
theorem dX1_greatestBase_5 : decode cX1_greatestBase 5 = .ok (.if_icmp .le 20, 3) := by decide +kernel
theorem dX1_greatestBase_8 : decode cX1_greatestBase 8 = .ok (.iload_n 1, 1) := by decide +kernel
theorem dX1_greatestBase_9 : decode cX1_greatestBase 9 = .ok (.iload_n 0, 1) := by decide +kernel
theorem dX1_greatestBase_10 : decode cX1_greatestBase 10 = .ok (.invokestatic 84, 3) := by decide +kernel
theorem dX1_greatestBase_13 : decode cX1_greatestBase 13 = .ok (.sipush 20000, 3) := by decide +kernel
theorem dX1_greatestBase_16 : decode cX1_greatestBase 16 = .ok (.if_icmp .le 9, 3) := by decide +kernel
theorem dX1_greatestBase_19 : decode cX1_greatestBase 19 = .ok (.iinc 1 (-1), 3) := by decide +kernel
theorem dX1_greatestBase_22 : decode cX1_greatestBase 22 = .ok (.goto (-19), 3) := by decide +kernel
theorem dX1_greatestBase_25 : decode cX1_greatestBase 25 = .ok (.iload_n 1, 1) := by decide +kernel
theorem dX1_greatestBase_26 : decode cX1_greatestBase 26 = .ok (.ireturn, 1) := by decide +kernel
theorem hd_yX1_greatestBase : yX1_greatestBase.cls = RX1 ∧ yX1_greatestBase.cls ≠ "java/lang/invoke/MethodHandle" ∧ yX1_greatestBase.cls ≠ "java/lang/invoke/VarHandle" ∧ (parseMethodDescriptor yX1_greatestBase.desc).map (fun d => d.parameters.length) = some 1 := by decide +kernel
def uX1_greatestBase : List Cond := List.cons (.code yX1_greatestBase cX1_greatestBase 2 (some .int)) (HAppend.hAppend ([.static yX9_power, .initialized RX9] : List Cond) uX9_powerF)
theorem guX1_greatestBase : GU uX1_greatestBase := gu_cons (gu_app (by decide +kernel) guX9_powerF)
theorem gX1_greatestBase__X9_powerF_N84 : GoodIn uX1_greatestBase (uX9_powerF) := gin_U  (fun _ h => (List.mem_cons_of_mem _ (List.mem_append_right _ h))) guX9_powerF
set_option maxHeartbeats 4000000 in
set_option maxRecDepth 100000 in
theorem kX1_greatestBase (l : Launch) (dC : Nat → ClassId) (dI : Nat → Nat → Nat) (a1 : Int32) (b_a1 : (0 : Int) ≤ a1.toInt ∧ a1.toInt ≤ 12) : Met l yX1_greatestBase uX1_greatestBase ({ frames := 1, cells := 0, slots := 0, locals := 23 }) (va_Pc [.int a1] (pw (dC, dI) vwCl [] [])) (vp_Si (fun r => ((2 : Int) ≤ r.toInt ∧ r.toInt ≤ 16) ∧ (2 ≤ r.toInt ∧ r.toInt.toNat ^ a1.toInt.toNat ≤ 20000))) 0 0 (fun _ => False) := by
  refine Met.ofW (cc := cX1_greatestBase) (maxL := 2) (ret := (some .int)) pn_X1 rfl ?_
  intro p e s m args below meth c s₁ B hml hv
  obtain ⟨rfl, hP, hK, hN⟩ := hv
  have hx := B.exec
  have hb := B.bytes
  have hr := B.returns
  have hts := atoms_spec (ws := uX1_greatestBase) B.pre
  have hown : s.vm.findClass RX1 = some m.cls := hown_of B.named rfl
  have hlocks := B.notSynchronized
  have hl := lv_entry ([.int a1]) (n := 2) (Nat.le_of_ble_eq_true rfl)
  rw [lg_entry_eq]
  generalize (lg_sl ([.int a1]) ++ List.replicate (2 - (lg_sl ([.int a1])).length) Slot.unset).toArray = ls at hl ⊢
  have hl : lv_has ls 2 [(0, .int a1)] := hl
  refine lv_bipush (v := 16) hx hb dX1_greatestBase_0 (by decide) ?_
  refine lv_istore_n (lv' := [(1, .int 16), (0, .int a1)]) hx hb dX1_greatestBase_2 rfl hl (by decide) rfl (fun ls hl => ?_)
  refine loopP (σ := Int32) (fun v => (v.toInt - 2).toNat) (fun v ls => ((2 : Int) ≤ v.toInt ∧ v.toInt ≤ 16) ∧ lv_has ls 2 [(1, .int v), (0, .int a1)]) (fun v ls hI ih_3_30 => ?_) (16 : Int32) ⟨(show (2 : Int) ≤ (16 : Int32).toInt ∧ (16 : Int32).toInt ≤ 16 from (rg_w (by decide : (16 : Int) ≤ (16 : Int32).toInt ∧ (16 : Int32).toInt ≤ 16) (by decide) (by decide))), lv_sub hl [0, 1] rfl⟩
  obtain ⟨y_22, rfl⟩ : ∃ z, z = v := ⟨_, rfl⟩
  obtain ⟨b_y_22, hl⟩ := hI
  have b_y_22 : (2 : Int) ≤ y_22.toInt ∧ y_22.toInt ≤ 16 := b_y_22
  have hl : lv_has ls 2 [(1, .int y_22), (0, .int a1)] := hl
  refine lv_iload_n hx hb dX1_greatestBase_3 rfl (lv_at hl 0 rfl) ?_
  refine lv_iconst (v := 2) hx hb dX1_greatestBase_4 (by decide) ?_
  refine lv_icmp_le (tgt := 25) hx hb dX1_greatestBase_5 (by decide) (fun c_31 => ?_) (fun c_31 => ?_)
  ·
    have n_c_31 : (y_22.toInt : Int) ≤ 2 := c_le rfl (by decide) c_31
    have b_y_22 : (2 : Int) ≤ y_22.toInt ∧ y_22.toInt ≤ 2 := r_le1 b_y_22 (by decide : (2 : Int) ≤ (2 : Int32).toInt ∧ (2 : Int32).toInt ≤ 2) n_c_31 (by decide)
    refine lv_iload_n hx hb dX1_greatestBase_25 rfl (lv_at hl 0 rfl) ?_
    exact W.iret (v := y_22) hx hb hr (fun t ht hW => ⟨y_22, rfl, ⟨(rg_w b_y_22 (by decide) (by decide)), (⟨by omega, by first | exact gb_2 (by omega) (by omega) | exact gb_1 (by assumption) (by omega)⟩)⟩, ht⟩) t_nil dX1_greatestBase_26
  ·
    have n_c_31 : (2 : Int) < y_22.toInt := c_nle rfl (by decide) c_31
    have b_y_22 : (3 : Int) ≤ y_22.toInt ∧ y_22.toInt ≤ 16 := r_lt2 (by decide : (2 : Int) ≤ (2 : Int32).toInt ∧ (2 : Int32).toInt ≤ 2) b_y_22 n_c_31 (by decide)
    refine lv_iload_n hx hb dX1_greatestBase_8 rfl (lv_at hl 0 rfl) ?_
    refine lv_iload_n hx hb dX1_greatestBase_9 rfl (lv_at hl 1 rfl) ?_
    refine vp_callSi (run_of (va_runSN (As := [.int y_22, .int a1]) (rest := []) ⟨hx, hb, hml, hown, hts⟩ (kX9_powerF l dC dI y_22 a1 (rg_w b_y_22 (by decide) (by decide)) b_a1) ⟨va_cnB (host := "LuckyTicket") 2 hts gX1_greatestBase__X9_powerF_N84 rfl rfl rfl (hN _ (List.mem_of_getElem? (i := 29) rfl)) (hts (.initialized RX9) (List.mem_of_getElem? (i := 2) rfl)) (by decide +kernel) ⟨lel 1 1 rfl, lel 23 23 rfl⟩, (hts (.static yX9_power) (List.mem_of_getElem? (i := 1) rfl)), trivial⟩ ⟨pn_fb, pn_use⟩ rfl rfl hl.1 rfl (lv_room (Nat.le_of_ble_eq_true rfl)) dX1_greatestBase_10 ⟨lel 0 0 rfl, lel 0 0 rfl⟩)) (fun r_32 h_r_32 => ?_)
    obtain ⟨b_r_32, pr_r_32⟩ := h_r_32
    have b_r_32 : (0 : Int) ≤ r_32.toInt ∧ r_32.toInt ≤ 320000 := b_r_32
    refine lv_sipush (v := 20000) hx hb dX1_greatestBase_13 (by decide) ?_
    refine lv_icmp_le (tgt := 25) hx hb dX1_greatestBase_16 (by decide) (fun c_33 => ?_) (fun c_33 => ?_)
    ·
      have n_c_33 : (r_32.toInt : Int) ≤ 20000 := c_le rfl (by decide) c_33
      have b_r_32 : (0 : Int) ≤ r_32.toInt ∧ r_32.toInt ≤ 20000 := r_le1 b_r_32 (by decide : (20000 : Int) ≤ (20000 : Int32).toInt ∧ (20000 : Int32).toInt ≤ 20000) n_c_33 (by decide)
      refine lv_iload_n hx hb dX1_greatestBase_25 rfl (lv_at hl 0 rfl) ?_
      exact W.iret (v := y_22) hx hb hr (fun t ht hW => ⟨y_22, rfl, ⟨(rg_w b_y_22 (by decide) (by decide)), (⟨by omega, by first | exact gb_2 (by omega) (by omega) | exact gb_1 (by assumption) (by omega)⟩)⟩, ht⟩) t_nil dX1_greatestBase_26
    ·
      have n_c_33 : (20000 : Int) < r_32.toInt := c_nle rfl (by decide) c_33
      have b_r_32 : (20001 : Int) ≤ r_32.toInt ∧ r_32.toInt ≤ 320000 := r_lt2 (by decide : (20000 : Int) ≤ (20000 : Int32).toInt ∧ (20000 : Int32).toInt ≤ 20000) b_r_32 n_c_33 (by decide)
      obtain ⟨z_34, e_z_34⟩ : ∃ y : Int32, y = y_22 + (-1) := ⟨_, rfl⟩
      refine lv_iinc (v := z_34) (lv' := [(1, .int z_34), (0, .int a1)]) hx hb dX1_greatestBase_19 hl (k := 0) rfl (by rw [e_z_34]; rfl) (by decide) rfl (fun ls hl => ?_)
      obtain ⟨q_z_34, b_z_34⟩ := ti_add (lo := 2) (hi := 15) e_z_34 rfl (by decide : ((-1) : Int32).toInt = -1) b_y_22 (by decide : (-1 : Int) ≤ ((-1) : Int32).toInt ∧ ((-1) : Int32).toInt ≤ -1) (by decide)
      refine lv_goto (tgt := 3) hx hb dX1_greatestBase_22 (by decide) ?_
      exact ih_3_30 z_34 _ ⟨(show (2 : Int) ≤ z_34.toInt ∧ z_34.toInt ≤ 16 from (rg_w b_z_34 (by decide) (by decide))), lv_sub hl [0, 1] rfl⟩ (show (z_34.toInt - 2).toNat < (y_22.toInt - 2).toNat by omega)
theorem dX1_readMeasures_0 : decode cX1_readMeasures 0 = .ok (.aload_n 0, 1) := by decide +kernel
theorem dX1_readMeasures_1 : decode cX1_readMeasures 1 = .ok (.ldc 62, 2) := by decide +kernel
theorem dX1_readMeasures_3 : decode cX1_readMeasures 3 = .ok (.invokevirtual 64, 3) := by decide +kernel
theorem dX1_readMeasures_6 : decode cX1_readMeasures 6 = .ok (.aload_n 0, 1) := by decide +kernel
theorem dX1_readMeasures_7 : decode cX1_readMeasures 7 = .ok (.ldc 68, 2) := by decide +kernel
theorem dX1_readMeasures_9 : decode cX1_readMeasures 9 = .ok (.invokevirtual 64, 3) := by decide +kernel
theorem dX1_readMeasures_12 : decode cX1_readMeasures 12 = .ok (.aload_n 0, 1) := by decide +kernel
theorem dX1_readMeasures_13 : decode cX1_readMeasures 13 = .ok (.getfield 19, 3) := by decide +kernel
theorem dX1_readMeasures_16 : decode cX1_readMeasures 16 = .ok (.aload_n 0, 1) := by decide +kernel
theorem dX1_readMeasures_17 : decode cX1_readMeasures 17 = .ok (.iconst 1, 1) := by decide +kernel
theorem dX1_readMeasures_18 : decode cX1_readMeasures 18 = .ok (.bipush 12, 2) := by decide +kernel
theorem dX1_readMeasures_20 : decode cX1_readMeasures 20 = .ok (.invokevirtual 70, 3) := by decide +kernel
theorem dX1_readMeasures_23 : decode cX1_readMeasures 23 = .ok (.putfield 74, 3) := by decide +kernel
theorem dX1_readMeasures_26 : decode cX1_readMeasures 26 = .ok (.aload_n 0, 1) := by decide +kernel
theorem dX1_readMeasures_27 : decode cX1_readMeasures 27 = .ok (.ldc 76, 2) := by decide +kernel
theorem dX1_readMeasures_29 : decode cX1_readMeasures 29 = .ok (.invokevirtual 64, 3) := by decide +kernel
theorem dX1_readMeasures_32 : decode cX1_readMeasures 32 = .ok (.aload_n 0, 1) := by decide +kernel
theorem dX1_readMeasures_33 : decode cX1_readMeasures 33 = .ok (.getfield 19, 3) := by decide +kernel
theorem dX1_readMeasures_36 : decode cX1_readMeasures 36 = .ok (.aload_n 0, 1) := by decide +kernel
theorem dX1_readMeasures_37 : decode cX1_readMeasures 37 = .ok (.iconst 2, 1) := by decide +kernel
theorem dX1_readMeasures_38 : decode cX1_readMeasures 38 = .ok (.aload_n 0, 1) := by decide +kernel
theorem dX1_readMeasures_39 : decode cX1_readMeasures 39 = .ok (.getfield 19, 3) := by decide +kernel
theorem dX1_readMeasures_42 : decode cX1_readMeasures 42 = .ok (.getfield 74, 3) := by decide +kernel
theorem dX1_readMeasures_45 : decode cX1_readMeasures 45 = .ok (.invokestatic 78, 3) := by decide +kernel
theorem dX1_readMeasures_48 : decode cX1_readMeasures 48 = .ok (.invokevirtual 70, 3) := by decide +kernel
theorem dX1_readMeasures_51 : decode cX1_readMeasures 51 = .ok (.putfield 82, 3) := by decide +kernel
theorem dX1_readMeasures_54 : decode cX1_readMeasures 54 = .ok (.return_, 1) := by decide +kernel
theorem hd_yX1_readMeasures : yX1_readMeasures.cls = RX1 ∧ yX1_readMeasures.cls ≠ "java/lang/invoke/MethodHandle" ∧ yX1_readMeasures.cls ≠ "java/lang/invoke/VarHandle" ∧ (parseMethodDescriptor yX1_readMeasures.desc).map (fun d => d.parameters.length) = some 0 := by decide +kernel
def uX1_readMeasures : List Cond := List.cons (.code yX1_readMeasures cX1_readMeasures 1 none) (HAppend.hAppend ([.methodLink RX1 64 yX1_passWord, .instanceMethod yX1_passWord, .selects RX1 yX1_passWord yX1_passWord, .initialized RX1, .fieldLink RX1 19 "LuckyTicket$Reader" "script" "LLuckyTicket$Script;", .methodLink RX1 70 yX1_passNumber, .instanceMethod yX1_passNumber, .selects RX1 yX1_passNumber yX1_passNumber, .methodLink RX1 78 yX1_greatestBase, .static yX1_greatestBase] : List Cond) (HAppend.hAppend uX1_passWord (HAppend.hAppend uX1_passNumber (HAppend.hAppend uX1_greatestBase (HAppend.hAppend wsX10 wsX40)))))
theorem iX1_readMeasures_X1 : ∀ w ∈ wsX10, w ∈ uX1_readMeasures := fun _ h => (List.mem_cons_of_mem _ (List.mem_append_right _ (List.mem_append_right _ (List.mem_append_right _ (List.mem_append_right _ (List.mem_append_left _ h))))))
theorem iX1_readMeasures_X4 : ∀ w ∈ wsX40, w ∈ uX1_readMeasures := fun _ h => (List.mem_cons_of_mem _ (List.mem_append_right _ (List.mem_append_right _ (List.mem_append_right _ (List.mem_append_right _ (List.mem_append_right _ h))))))
theorem guX1_readMeasures : GU uX1_readMeasures := gu_cons (gu_app (by decide +kernel) (gu_ap guX1_passWord (gu_ap guX1_passNumber (gu_ap guX1_greatestBase (gu_ap gws_X1 gws_X4)))))
theorem gX1_readMeasures__X1_passWord_V64 : GoodIn uX1_readMeasures (wsV RX1 64 RX1 yX1_passWord uX1_passWord) := gin_V (List.mem_of_getElem? (i := 1) rfl) (List.mem_of_getElem? (i := 2) rfl) (List.mem_of_getElem? (i := 3) rfl) (List.mem_of_getElem? (i := 4) rfl) (fun _ h => (List.mem_cons_of_mem _ (List.mem_append_right _ (List.mem_append_left _ h)))) guX1_passWord
theorem gX1_readMeasures__X1_passNumber_V70 : GoodIn uX1_readMeasures (wsV RX1 70 RX1 yX1_passNumber uX1_passNumber) := gin_V (List.mem_of_getElem? (i := 6) rfl) (List.mem_of_getElem? (i := 7) rfl) (List.mem_of_getElem? (i := 8) rfl) (List.mem_of_getElem? (i := 4) rfl) (fun _ h => (List.mem_cons_of_mem _ (List.mem_append_right _ (List.mem_append_right _ (List.mem_append_left _ h))))) guX1_passNumber
theorem gX1_readMeasures__X1_greatestBase_S78 : GoodIn uX1_readMeasures (va_wsS RX1 78 yX1_greatestBase uX1_greatestBase) := gin_S (List.mem_of_getElem? (i := 9) rfl) (List.mem_of_getElem? (i := 10) rfl) (List.mem_of_getElem? (i := 4) rfl) (fun _ h => (List.mem_cons_of_mem _ (List.mem_append_right _ (List.mem_append_right _ (List.mem_append_right _ (List.mem_append_left _ h)))))) guX1_greatestBase
set_option maxHeartbeats 4000000 in
set_option maxRecDepth 100000 in
theorem kX1_readMeasures (l : Launch) (dC : Nat → ClassId) (dI : Nat → Nat → Nat) (rd : Nat) (xf : Int32) (xp : Int32) (xt : Int32) (xa : Int32) (xo : Int32) (xv : Int32) (xj : Int32) (tp : Nat) (tb : Nat) (ts : Int32) (cB : ClassId) (fb : Nat → Int32) (sc : Nat) (sn : Int32) (sb : Int32) (si : Int32) (sw : Int32) (ss : Int32) (en : Nat) (ki : Nat) (on : Nat) (ot : Nat) (cK : ClassId) (fk : Nat → Int32) (cO : ClassId) (fo : Nat → Int64) (cT : ClassId) (ft : Nat → Int64) (n0 : Nat) (sz : Nat) (b_xf : (0 : Int) ≤ xf.toInt ∧ xf.toInt ≤ 3) (b_xp : (-1 : Int) ≤ xp.toInt ∧ xp.toInt ≤ 1200) (b_xt : (0 : Int) ≤ xt.toInt ∧ xt.toInt ≤ 4) (b_xa : (0 : Int) ≤ xa.toInt ∧ xa.toInt ≤ 1200) (b_xo : (0 : Int) ≤ xo.toInt ∧ xo.toInt ≤ 1200) (b_ts : (0 : Int) ≤ ts.toInt ∧ ts.toInt ≤ 1200) (b_sn : (0 : Int) ≤ sn.toInt ∧ sn.toInt ≤ 12) (b_sb : (0 : Int) ≤ sb.toInt ∧ sb.toInt ≤ 16) (b_si : (0 : Int) ≤ si.toInt ∧ si.toInt ≤ 1300) (b_sw : (0 : Int) ≤ sw.toInt ∧ sw.toInt ≤ 9) (b_ss : (0 : Int) ≤ ss.toInt ∧ ss.toInt ≤ 600) (hrd : xa.toInt ≤ xo.toInt) : Met l yX1_readMeasures uX1_readMeasures ({ frames := 6, cells := 0, slots := 0, locals := 128 }) (va_Pc [.ref rd] (hx_ (dC, dI) vwCl [(rd, .inr (0, [.ref tp, .ref sc, .int xf, .int xp, .int xt, .int xa, .int xo, .int xv, .int xj])), (tp, .inr (6, [.ref tb, .int ts])), (tb, .inl (cB, 1200, .inl fb)), (sc, .inr (3, [.int sn, .int sb, .int si, .int sw, .int ss, .ref en, .ref ki, .ref on, .ref ot])), (ki, .inl (cK, 600, .inl fk)), (on, .inl (cO, 600, .inr (.inl fo))), (ot, .inl (cT, 600, .inr (.inl ft)))] [(cB, .byte), (cK, .int), (cO, .long), (cT, .long)] sz n0 [])) (va_Qv (fun (_ : Unit) => True) (fun (_ : Unit) t => ∃ (o0_ : Int32) (o1_ : Int32) (o2_ : Int32) (o3_ : Int32) (o4_ : Int32) (o5_ : Int32) (o6_ : Int32) (o7_ : Int32), ((0 : Int) ≤ o0_.toInt ∧ o0_.toInt ≤ 3) ∧ ((-1 : Int) ≤ o1_.toInt ∧ o1_.toInt ≤ 1200) ∧ ((0 : Int) ≤ o2_.toInt ∧ o2_.toInt ≤ 4) ∧ ((0 : Int) ≤ o3_.toInt ∧ o3_.toInt ≤ 1200) ∧ ((0 : Int) ≤ o4_.toInt ∧ o4_.toInt ≤ 1200) ∧ ((0 : Int) ≤ o6_.toInt ∧ o6_.toInt ≤ 12) ∧ ((0 : Int) ≤ o7_.toInt ∧ o7_.toInt ≤ 16) ∧ (o3_.toInt ≤ o4_.toInt) ∧ (o0_.toInt = 0 → GM o6_ o7_) ∧ va_P (dC, dI) vwCl [(rd, .inr (0, [.ref tp, .ref sc, .int o0_, .int o1_, .int o2_, .int o3_, .int o4_, .int o5_, .int xj])), (tp, .inr (6, [.ref tb, .int ts])), (tb, .inl (cB, 1200, .inl fb)), (sc, .inr (3, [.int o6_, .int o7_, .int si, .int sw, .int ss, .ref en, .ref ki, .ref on, .ref ot])), (ki, .inl (cK, 600, .inl fk)), (on, .inl (cO, 600, .inr (.inl fo))), (ot, .inl (cT, 600, .inr (.inl ft)))] t.heap ∧ va_K (dC, dI) vwCl [(cB, .byte), (cK, .int), (cO, .long), (cT, .long)] t ∧ va_D (va_A [(rd, .inr (0, [.ref tp, .ref sc, .int xf, .int xp, .int xt, .int xa, .int xo, .int xv, .int xj])), (tp, .inr (6, [.ref tb, .int ts])), (tb, .inl (cB, 1200, .inl fb)), (sc, .inr (3, [.int sn, .int sb, .int si, .int sw, .int ss, .ref en, .ref ki, .ref on, .ref ot])), (ki, .inl (cK, 600, .inl fk)), (on, .inl (cO, 600, .inr (.inl fo))), (ot, .inl (cT, 600, .inr (.inl ft)))] sz) [(rd, .inr (0, [.ref tp, .ref sc, .int o0_, .int o1_, .int o2_, .int o3_, .int o4_, .int o5_, .int xj])), (tp, .inr (6, [.ref tb, .int ts])), (tb, .inl (cB, 1200, .inl fb)), (sc, .inr (3, [.int o6_, .int o7_, .int si, .int sw, .int ss, .ref en, .ref ki, .ref on, .ref ot])), (ki, .inl (cK, 600, .inl fk)), (on, .inl (cO, 600, .inr (.inl fo))), (ot, .inl (cT, 600, .inr (.inl ft)))]) (va_A [(rd, .inr (0, [.ref tp, .ref sc, .int xf, .int xp, .int xt, .int xa, .int xo, .int xv, .int xj])), (tp, .inr (6, [.ref tb, .int ts])), (tb, .inl (cB, 1200, .inl fb)), (sc, .inr (3, [.int sn, .int sb, .int si, .int sw, .int ss, .ref en, .ref ki, .ref on, .ref ot])), (ki, .inl (cK, 600, .inl fk)), (on, .inl (cO, 600, .inr (.inl fo))), (ot, .inl (cT, 600, .inr (.inl ft)))] sz)) 0 0 (va_A [(rd, .inr (0, [.ref tp, .ref sc, .int xf, .int xp, .int xt, .int xa, .int xo, .int xv, .int xj])), (tp, .inr (6, [.ref tb, .int ts])), (tb, .inl (cB, 1200, .inl fb)), (sc, .inr (3, [.int sn, .int sb, .int si, .int sw, .int ss, .ref en, .ref ki, .ref on, .ref ot])), (ki, .inl (cK, 600, .inl fk)), (on, .inl (cO, 600, .inr (.inl fo))), (ot, .inl (cT, 600, .inr (.inl ft)))] sz) := by
  refine Met.ofW (cc := cX1_readMeasures) (maxL := 1) (ret := none) pn_X1 rfl ?_
  intro p e s m args below meth c s₁ B hml hv
  obtain ⟨rfl, ⟨hsz, hP, hK, hD0, hN⟩, hn0, hDn, hX, hTx⟩ := hv
  have hx := B.exec
  have hb := B.bytes
  have hr := B.returns
  have hts := atoms_spec (ws := uX1_readMeasures) B.pre
  have hown : s.vm.findClass RX1 = some m.cls := hown_of B.named rfl
  have hlocks := B.notSynchronized
  subst hsz
  have hD := hD0.self (sz := s.heap.size)
  have hAn : ∀ q, va_A [(rd, .inr (0, [.ref tp, .ref sc, .int xf, .int xp, .int xt, .int xa, .int xo, .int xv, .int xj])), (tp, .inr (6, [.ref tb, .int ts])), (tb, .inl (cB, 1200, .inl fb)), (sc, .inr (3, [.int sn, .int sb, .int si, .int sw, .int ss, .ref en, .ref ki, .ref on, .ref ot])), (ki, .inl (cK, 600, .inl fk)), (on, .inl (cO, 600, .inr (.inl fo))), (ot, .inl (cT, 600, .inr (.inl ft)))] s.heap.size q → n0 ≤ q := fun q h => h.elim (fun ⟨k, e, hk⟩ => hDn.2 k (q, e) hk) (fun h => Nat.le_trans hn0 h)
  generalize hAe : va_A [(rd, .inr (0, [.ref tp, .ref sc, .int xf, .int xp, .int xt, .int xa, .int xo, .int xv, .int xj])), (tp, .inr (6, [.ref tb, .int ts])), (tb, .inl (cB, 1200, .inl fb)), (sc, .inr (3, [.int sn, .int sb, .int si, .int sw, .int ss, .ref en, .ref ki, .ref on, .ref ot])), (ki, .inl (cK, 600, .inl fk)), (on, .inl (cO, 600, .inr (.inl fo))), (ot, .inl (cT, 600, .inr (.inl ft)))] s.heap.size = A at hD hAn ⊢
  have hA : ∀ q : Nat, s.heap.size ≤ q → A q := fun q h => by rw [← hAe]; exact Or.inr h
  have hS : va_S A s.heap s.heap [] := va_S.rf
  have hP : va_P (dC, dI) vwCl [(rd, .inr (0, [.ref tp, .ref sc, .int xf, .int xp, .int xt, .int xa, .int xo, .int xv, .int xj])), (tp, .inr (6, [.ref tb, .int ts])), (tb, .inl (cB, 1200, .inl fb)), (sc, .inr (3, [.int sn, .int sb, .int si, .int sw, .int ss, .ref en, .ref ki, .ref on, .ref ot])), (ki, .inl (cK, 600, .inl fk)), (on, .inl (cO, 600, .inr (.inl fo))), (ot, .inl (cT, 600, .inr (.inl ft)))] s.heap := hP
  obtain ⟨tq_62, tf_62, hR_62, ht_62⟩ := hX.2.2.1 (RX1, 62, "roll", 4) (List.mem_of_getElem? (i := 0) rfl)
  have hR_62 : vk_R RX1 62 "roll" tq_62 s := hR_62
  have ht_62 : txt n0 tq_62 4 tf_62 s := ht_62
  obtain ⟨tq_68, tf_68, hR_68, ht_68⟩ := hX.2.2.1 (RX1, 68, "length", 6) (List.mem_of_getElem? (i := 1) rfl)
  have hR_68 : vk_R RX1 68 "length" tq_68 s := hR_68
  have ht_68 : txt n0 tq_68 6 tf_68 s := ht_68
  obtain ⟨tq_76, tf_76, hR_76, ht_76⟩ := hX.2.2.1 (RX1, 76, "base", 4) (List.mem_of_getElem? (i := 2) rfl)
  have hR_76 : vk_R RX1 76 "base" tq_76 s := hR_76
  have ht_76 : txt n0 tq_76 4 tf_76 s := ht_76
  have hl := lv_entry ([.ref rd]) (n := 1) (Nat.le_of_ble_eq_true rfl)
  rw [lg_entry_eq]
  generalize (lg_sl ([.ref rd]) ++ List.replicate (1 - (lg_sl ([.ref rd])).length) Slot.unset).toArray = ls at hl ⊢
  have hl : lv_has ls 1 [(0, .ref rd)] := hl
  refine lv_aload_n hx hb dX1_readMeasures_0 rfl (lv_at hl 0 rfl) ?_
  refine va_ldcS hx hb hown hR_62 dX1_readMeasures_1 ?_
  have hFc := va_free (wc := [(rd, .inr (0, [.ref tp, .ref sc, .int xf, .int xp, .int xt, .int xa, .int xo, .int xv, .int xj])), (tp, .inr (6, [.ref tb, .int ts])), (tb, .inl (cB, 1200, .inl fb))]) hD hS hA [0, 1, 2] rfl
  refine va_callv (va_runV (As := [.ref tq_62]) (rest := []) ⟨hx, hb, hml, hown, hts⟩ (kX1_passWord l dC dI rd xf xp xt xa xo xv xj tp tb ts cB fb sc tq_62 4 tf_62 n0 (s.heap.size) b_xf b_xp b_xt b_xa b_xo b_ts (by omega) (by omega)) (cwV 1 hts gX1_readMeasures__X1_passWord_V64 rfl rfl rfl hd_yX1_passWord ⟨lel 6 6 rfl, lel 128 128 rfl⟩) ⟨hx_fb, rcv_X1 hK hP (q0 := 0) rfl, (hx_use hP hD hK hN hX hS hAn hn0 [0, 1, 2] rfl (by decide) rfl [0] rfl (tts_1 ht_62))⟩ rfl rfl hl.1 rfl (lv_room (Nat.le_of_ble_eq_true rfl)) dX1_readMeasures_3 ⟨lel 0 0 rfl, lel 0 0 rfl⟩) hS (fun q _ h => hFc q h) hFc (fun u_55 t H1 locs ht hvm hw_r_54 hB hz1 hk1 hS => ?_)
  obtain ⟨o0_56, o1_57, o2_58, o3_59, o4_60, o5_61, b_o0_56, b_o1_57, b_o2_58, b_o3_59, b_o4_60, hf_62, hf_63, hP1, hK1, hD1⟩ := hB
  rw [ht] at hP1
  have hK1 := va_K.moved hvm.symm hK1
  obtain ⟨hP, hD⟩ := va_join (wr := [(sc, .inr (3, [.int sn, .int sb, .int si, .int sw, .int ss, .ref en, .ref ki, .ref on, .ref ot])), (ki, .inl (cK, 600, .inl fk)), (on, .inl (cO, 600, .inr (.inl fo))), (ot, .inl (cT, 600, .inr (.inl ft)))]) (w1 := [(rd, .inr (0, [.ref tp, .ref sc, .int o0_56, .int o1_57, .int o2_58, .int o3_59, .int o4_60, .int o5_61, .int xj])), (tp, .inr (6, [.ref tb, .int ts])), (tb, .inl (cB, 1200, .inl fb))]) hP hD [0, 1, 2] [3, 4, 5, 6] rfl rfl (by decide) (by decide) hk1 hFc hP1 hD1
  have hK := (hK.sub (tys' := [(cK, .int), (cO, .long), (cT, .long)]) [1, 2, 3] rfl).app hK1
  generalize H1 = H at hP hS ⊢
  have hP := hP.sub (ws' := [(rd, .inr (0, [.ref tp, .ref sc, .int o0_56, .int o1_57, .int o2_58, .int o3_59, .int o4_60, .int o5_61, .int xj])), (tp, .inr (6, [.ref tb, .int ts])), (tb, .inl (cB, 1200, .inl fb)), (sc, .inr (3, [.int sn, .int sb, .int si, .int sw, .int ss, .ref en, .ref ki, .ref on, .ref ot])), (ki, .inl (cK, 600, .inl fk)), (on, .inl (cO, 600, .inr (.inl fo))), (ot, .inl (cT, 600, .inr (.inl ft)))]) [4, 5, 6, 0, 1, 2, 3] rfl
  have hD := hD.sub (ws' := [(rd, .inr (0, [.ref tp, .ref sc, .int o0_56, .int o1_57, .int o2_58, .int o3_59, .int o4_60, .int o5_61, .int xj])), (tp, .inr (6, [.ref tb, .int ts])), (tb, .inl (cB, 1200, .inl fb)), (sc, .inr (3, [.int sn, .int sb, .int si, .int sw, .int ss, .ref en, .ref ki, .ref on, .ref ot])), (ki, .inl (cK, 600, .inl fk)), (on, .inl (cO, 600, .inr (.inl fo))), (ot, .inl (cT, 600, .inr (.inl ft)))]) [4, 5, 6, 0, 1, 2, 3] (by decide) rfl
  have hK := hK.sub (tys' := [(cB, .byte), (cK, .int), (cO, .long), (cT, .long)]) [3, 0, 1, 2] rfl
  have hP : va_P (dC, dI) vwCl [(rd, .inr (0, [.ref tp, .ref sc, .int o0_56, .int o1_57, .int o2_58, .int o3_59, .int o4_60, .int o5_61, .int xj])), (tp, .inr (6, [.ref tb, .int ts])), (tb, .inl (cB, 1200, .inl fb)), (sc, .inr (3, [.int sn, .int sb, .int si, .int sw, .int ss, .ref en, .ref ki, .ref on, .ref ot])), (ki, .inl (cK, 600, .inl fk)), (on, .inl (cO, 600, .inr (.inl fo))), (ot, .inl (cT, 600, .inr (.inl ft)))] H := hP
  have hD : va_D A [(rd, .inr (0, [.ref tp, .ref sc, .int o0_56, .int o1_57, .int o2_58, .int o3_59, .int o4_60, .int o5_61, .int xj])), (tp, .inr (6, [.ref tb, .int ts])), (tb, .inl (cB, 1200, .inl fb)), (sc, .inr (3, [.int sn, .int sb, .int si, .int sw, .int ss, .ref en, .ref ki, .ref on, .ref ot])), (ki, .inl (cK, 600, .inl fk)), (on, .inl (cO, 600, .inr (.inl fo))), (ot, .inl (cT, 600, .inr (.inl ft)))] := hD
  have hK : va_K (dC, dI) vwCl [(cB, .byte), (cK, .int), (cO, .long), (cT, .long)] s := hK
  refine lv_aload_n hx hb dX1_readMeasures_6 rfl (lv_at hl 0 rfl) ?_
  refine va_ldcS hx hb hown hR_68 dX1_readMeasures_7 ?_
  have hFc := va_free (wc := [(rd, .inr (0, [.ref tp, .ref sc, .int o0_56, .int o1_57, .int o2_58, .int o3_59, .int o4_60, .int o5_61, .int xj])), (tp, .inr (6, [.ref tb, .int ts])), (tb, .inl (cB, 1200, .inl fb))]) hD hS hA [0, 1, 2] rfl
  refine va_callv (va_runV (As := [.ref tq_68]) (rest := []) ⟨hx, hb, hml, hown, hts⟩ (kX1_passWord l dC dI rd o0_56 o1_57 o2_58 o3_59 o4_60 o5_61 xj tp tb ts cB fb sc tq_68 6 tf_68 n0 (H.size) b_o0_56 b_o1_57 b_o2_58 b_o3_59 b_o4_60 b_ts (by omega) (by omega)) (cwV 1 hts gX1_readMeasures__X1_passWord_V64 rfl rfl rfl hd_yX1_passWord ⟨lel 6 6 rfl, lel 128 128 rfl⟩) ⟨hx_fb, rcv_X1 hK hP (q0 := 0) rfl, (hx_use hP hD hK hN hX hS hAn hn0 [0, 1, 2] rfl (by decide) rfl [0] rfl (tts_1 ht_68))⟩ rfl rfl hl.1 rfl (lv_room (Nat.le_of_ble_eq_true rfl)) dX1_readMeasures_9 ⟨lel 0 0 rfl, lel 0 0 rfl⟩) hS (fun q _ h => hFc q h) hFc (fun u_65 t H1 locs ht hvm hw_r_64 hB hz1 hk1 hS => ?_)
  obtain ⟨o0_66, o1_67, o2_68, o3_69, o4_70, o5_71, b_o0_66, b_o1_67, b_o2_68, b_o3_69, b_o4_70, hf_72, hf_73, hP1, hK1, hD1⟩ := hB
  rw [ht] at hP1
  have hK1 := va_K.moved hvm.symm hK1
  obtain ⟨hP, hD⟩ := va_join (wr := [(sc, .inr (3, [.int sn, .int sb, .int si, .int sw, .int ss, .ref en, .ref ki, .ref on, .ref ot])), (ki, .inl (cK, 600, .inl fk)), (on, .inl (cO, 600, .inr (.inl fo))), (ot, .inl (cT, 600, .inr (.inl ft)))]) (w1 := [(rd, .inr (0, [.ref tp, .ref sc, .int o0_66, .int o1_67, .int o2_68, .int o3_69, .int o4_70, .int o5_71, .int xj])), (tp, .inr (6, [.ref tb, .int ts])), (tb, .inl (cB, 1200, .inl fb))]) hP hD [0, 1, 2] [3, 4, 5, 6] rfl rfl (by decide) (by decide) hk1 hFc hP1 hD1
  have hK := (hK.sub (tys' := [(cK, .int), (cO, .long), (cT, .long)]) [1, 2, 3] rfl).app hK1
  generalize H1 = H at hP hS ⊢
  have hP := hP.sub (ws' := [(rd, .inr (0, [.ref tp, .ref sc, .int o0_66, .int o1_67, .int o2_68, .int o3_69, .int o4_70, .int o5_71, .int xj])), (tp, .inr (6, [.ref tb, .int ts])), (tb, .inl (cB, 1200, .inl fb)), (sc, .inr (3, [.int sn, .int sb, .int si, .int sw, .int ss, .ref en, .ref ki, .ref on, .ref ot])), (ki, .inl (cK, 600, .inl fk)), (on, .inl (cO, 600, .inr (.inl fo))), (ot, .inl (cT, 600, .inr (.inl ft)))]) [4, 5, 6, 0, 1, 2, 3] rfl
  have hD := hD.sub (ws' := [(rd, .inr (0, [.ref tp, .ref sc, .int o0_66, .int o1_67, .int o2_68, .int o3_69, .int o4_70, .int o5_71, .int xj])), (tp, .inr (6, [.ref tb, .int ts])), (tb, .inl (cB, 1200, .inl fb)), (sc, .inr (3, [.int sn, .int sb, .int si, .int sw, .int ss, .ref en, .ref ki, .ref on, .ref ot])), (ki, .inl (cK, 600, .inl fk)), (on, .inl (cO, 600, .inr (.inl fo))), (ot, .inl (cT, 600, .inr (.inl ft)))]) [4, 5, 6, 0, 1, 2, 3] (by decide) rfl
  have hK := hK.sub (tys' := [(cB, .byte), (cK, .int), (cO, .long), (cT, .long)]) [3, 0, 1, 2] rfl
  have hP : va_P (dC, dI) vwCl [(rd, .inr (0, [.ref tp, .ref sc, .int o0_66, .int o1_67, .int o2_68, .int o3_69, .int o4_70, .int o5_71, .int xj])), (tp, .inr (6, [.ref tb, .int ts])), (tb, .inl (cB, 1200, .inl fb)), (sc, .inr (3, [.int sn, .int sb, .int si, .int sw, .int ss, .ref en, .ref ki, .ref on, .ref ot])), (ki, .inl (cK, 600, .inl fk)), (on, .inl (cO, 600, .inr (.inl fo))), (ot, .inl (cT, 600, .inr (.inl ft)))] H := hP
  have hD : va_D A [(rd, .inr (0, [.ref tp, .ref sc, .int o0_66, .int o1_67, .int o2_68, .int o3_69, .int o4_70, .int o5_71, .int xj])), (tp, .inr (6, [.ref tb, .int ts])), (tb, .inl (cB, 1200, .inl fb)), (sc, .inr (3, [.int sn, .int sb, .int si, .int sw, .int ss, .ref en, .ref ki, .ref on, .ref ot])), (ki, .inl (cK, 600, .inl fk)), (on, .inl (cO, 600, .inr (.inl fo))), (ot, .inl (cT, 600, .inr (.inl ft)))] := hD
  have hK : va_K (dC, dI) vwCl [(cB, .byte), (cK, .int), (cO, .long), (cT, .long)] s := hK
  refine lv_aload_n hx hb dX1_readMeasures_12 rfl (lv_at hl 0 rfl) ?_
  refine va_get (D := (dC, dI)) (ci := 0) (v := .ref sc) (C := RX1) (T := TX1) (N := 9) hx hb hts iX1_readMeasures_X1 hown hK hP 0 rfl rfl 1 (by decide) (hts (.fieldLink RX1 19 "LuckyTicket$Reader" "script" "LLuckyTicket$Script;") (List.mem_of_getElem? (i := 5) rfl)) (fun _ h9 => h9) rfl dX1_readMeasures_13 ?_
  refine lv_aload_n hx hb dX1_readMeasures_16 rfl (lv_at hl 0 rfl) ?_
  refine lv_iconst (v := 1) hx hb dX1_readMeasures_17 (by decide) ?_
  refine lv_bipush (v := 12) hx hb dX1_readMeasures_18 (by decide) ?_
  have hFc := va_free (wc := [(rd, .inr (0, [.ref tp, .ref sc, .int o0_66, .int o1_67, .int o2_68, .int o3_69, .int o4_70, .int o5_71, .int xj])), (tp, .inr (6, [.ref tb, .int ts])), (tb, .inl (cB, 1200, .inl fb))]) hD hS hA [0, 1, 2] rfl
  refine va_calli (va_runV (As := [.int 1, .int 12]) (rest := [.ref sc]) ⟨hx, hb, hml, hown, hts⟩ (kX1_passNumber l dC dI rd o0_66 o1_67 o2_68 o3_69 o4_70 o5_71 xj tp tb ts cB fb sc 1 12 (H.size) b_o0_66 b_o1_67 b_o2_68 b_o3_69 b_o4_70 b_ts (by omega)) (cwV 2 hts gX1_readMeasures__X1_passNumber_V70 rfl rfl rfl hd_yX1_passNumber ⟨lel 2 6 rfl, lel 45 128 rfl⟩) ⟨hw_fb, rcv_X1 hK hP (q0 := 0) rfl, (hw_use hP hD hK hN [0, 1, 2] rfl (by decide) rfl [0] rfl)⟩ rfl rfl hl.1 rfl (lv_room (Nat.le_of_ble_eq_true rfl)) dX1_readMeasures_20 ⟨lel 0 0 rfl, lel 0 0 rfl⟩) hS (fun q _ h => hFc q h) hFc (fun r_74 u_75 t H1 locs ht hvm hw_r_74 hB hz1 hk1 hS => ?_)
  obtain ⟨hu_r_74, hw_r_74⟩ := hw_r_74
  subst hu_r_74
  obtain ⟨o0_76, o1_77, o2_78, o3_79, o4_80, o5_81, b_o0_76, b_o1_77, b_o2_78, b_o3_79, b_o4_80, hf_82, hf_83, hf_84, hP1, hK1, hD1⟩ := hB
  rw [ht] at hP1
  have hK1 := va_K.moved hvm.symm hK1
  obtain ⟨hP, hD⟩ := va_join (wr := [(sc, .inr (3, [.int sn, .int sb, .int si, .int sw, .int ss, .ref en, .ref ki, .ref on, .ref ot])), (ki, .inl (cK, 600, .inl fk)), (on, .inl (cO, 600, .inr (.inl fo))), (ot, .inl (cT, 600, .inr (.inl ft)))]) (w1 := [(rd, .inr (0, [.ref tp, .ref sc, .int o0_76, .int o1_77, .int o2_78, .int o3_79, .int o4_80, .int o5_81, .int xj])), (tp, .inr (6, [.ref tb, .int ts])), (tb, .inl (cB, 1200, .inl fb))]) hP hD [0, 1, 2] [3, 4, 5, 6] rfl rfl (by decide) (by decide) hk1 hFc hP1 hD1
  have hK := (hK.sub (tys' := [(cK, .int), (cO, .long), (cT, .long)]) [1, 2, 3] rfl).app hK1
  generalize H1 = H at hP hS ⊢
  have hP := hP.sub (ws' := [(rd, .inr (0, [.ref tp, .ref sc, .int o0_76, .int o1_77, .int o2_78, .int o3_79, .int o4_80, .int o5_81, .int xj])), (tp, .inr (6, [.ref tb, .int ts])), (tb, .inl (cB, 1200, .inl fb)), (sc, .inr (3, [.int sn, .int sb, .int si, .int sw, .int ss, .ref en, .ref ki, .ref on, .ref ot])), (ki, .inl (cK, 600, .inl fk)), (on, .inl (cO, 600, .inr (.inl fo))), (ot, .inl (cT, 600, .inr (.inl ft)))]) [4, 5, 6, 0, 1, 2, 3] rfl
  have hD := hD.sub (ws' := [(rd, .inr (0, [.ref tp, .ref sc, .int o0_76, .int o1_77, .int o2_78, .int o3_79, .int o4_80, .int o5_81, .int xj])), (tp, .inr (6, [.ref tb, .int ts])), (tb, .inl (cB, 1200, .inl fb)), (sc, .inr (3, [.int sn, .int sb, .int si, .int sw, .int ss, .ref en, .ref ki, .ref on, .ref ot])), (ki, .inl (cK, 600, .inl fk)), (on, .inl (cO, 600, .inr (.inl fo))), (ot, .inl (cT, 600, .inr (.inl ft)))]) [4, 5, 6, 0, 1, 2, 3] (by decide) rfl
  have hK := hK.sub (tys' := [(cB, .byte), (cK, .int), (cO, .long), (cT, .long)]) [3, 0, 1, 2] rfl
  have hP : va_P (dC, dI) vwCl [(rd, .inr (0, [.ref tp, .ref sc, .int o0_76, .int o1_77, .int o2_78, .int o3_79, .int o4_80, .int o5_81, .int xj])), (tp, .inr (6, [.ref tb, .int ts])), (tb, .inl (cB, 1200, .inl fb)), (sc, .inr (3, [.int sn, .int sb, .int si, .int sw, .int ss, .ref en, .ref ki, .ref on, .ref ot])), (ki, .inl (cK, 600, .inl fk)), (on, .inl (cO, 600, .inr (.inl fo))), (ot, .inl (cT, 600, .inr (.inl ft)))] H := hP
  have hD : va_D A [(rd, .inr (0, [.ref tp, .ref sc, .int o0_76, .int o1_77, .int o2_78, .int o3_79, .int o4_80, .int o5_81, .int xj])), (tp, .inr (6, [.ref tb, .int ts])), (tb, .inl (cB, 1200, .inl fb)), (sc, .inr (3, [.int sn, .int sb, .int si, .int sw, .int ss, .ref en, .ref ki, .ref on, .ref ot])), (ki, .inl (cK, 600, .inl fk)), (on, .inl (cO, 600, .inr (.inl fo))), (ot, .inl (cT, 600, .inr (.inl ft)))] := hD
  have hK : va_K (dC, dI) vwCl [(cB, .byte), (cK, .int), (cO, .long), (cT, .long)] s := hK
  have pr_r_74 := hw_r_74
  have b_r_74 : (0 : Int) ≤ r_74.toInt ∧ r_74.toInt ≤ 12 := by
    have q0 := (by decide : (1 : Int) ≤ (1 : Int32).toInt ∧ (1 : Int32).toInt ≤ 1)
    have q1 := (by decide : (12 : Int) ≤ (12 : Int32).toInt ∧ (12 : Int32).toInt ≤ 12)
    omega
  refine va_putN (own := RX1) (index := 74) (ref := RX4) (host := RX9) (D := (dC, dI)) (ci := 3) (v := .int r_74) (ty := .int) (C := RX4) (T := TX4) (N := 9) hx hb hts iX1_readMeasures_X4 tyX4 tyX4_ok nmX4 hown hK hP hD hS 3 rfl rfl 0 (by decide) (va_Nw.use rfl (hN _ (List.mem_of_getElem? (i := 4) rfl))) (fun _ h9 => h9) rfl (by decide +kernel) rfl rfl (Nat.le_of_ble_eq_true rfl) dX1_readMeasures_23 (fun H locs hP hD hS => ?_)
  have hP : va_P (dC, dI) vwCl [(rd, .inr (0, [.ref tp, .ref sc, .int o0_76, .int o1_77, .int o2_78, .int o3_79, .int o4_80, .int o5_81, .int xj])), (tp, .inr (6, [.ref tb, .int ts])), (tb, .inl (cB, 1200, .inl fb)), (sc, .inr (3, [.int r_74, .int sb, .int si, .int sw, .int ss, .ref en, .ref ki, .ref on, .ref ot])), (ki, .inl (cK, 600, .inl fk)), (on, .inl (cO, 600, .inr (.inl fo))), (ot, .inl (cT, 600, .inr (.inl ft)))] H := hP
  have hD : va_D A [(rd, .inr (0, [.ref tp, .ref sc, .int o0_76, .int o1_77, .int o2_78, .int o3_79, .int o4_80, .int o5_81, .int xj])), (tp, .inr (6, [.ref tb, .int ts])), (tb, .inl (cB, 1200, .inl fb)), (sc, .inr (3, [.int r_74, .int sb, .int si, .int sw, .int ss, .ref en, .ref ki, .ref on, .ref ot])), (ki, .inl (cK, 600, .inl fk)), (on, .inl (cO, 600, .inr (.inl fo))), (ot, .inl (cT, 600, .inr (.inl ft)))] := hD
  refine lv_aload_n hx hb dX1_readMeasures_26 rfl (lv_at hl 0 rfl) ?_
  refine va_ldcS hx hb hown hR_76 dX1_readMeasures_27 ?_
  have hFc := va_free (wc := [(rd, .inr (0, [.ref tp, .ref sc, .int o0_76, .int o1_77, .int o2_78, .int o3_79, .int o4_80, .int o5_81, .int xj])), (tp, .inr (6, [.ref tb, .int ts])), (tb, .inl (cB, 1200, .inl fb))]) hD hS hA [0, 1, 2] rfl
  refine va_callv (va_runV (As := [.ref tq_76]) (rest := []) ⟨hx, hb, hml, hown, hts⟩ (kX1_passWord l dC dI rd o0_76 o1_77 o2_78 o3_79 o4_80 o5_81 xj tp tb ts cB fb sc tq_76 4 tf_76 n0 (H.size) b_o0_76 b_o1_77 b_o2_78 b_o3_79 b_o4_80 b_ts (by omega) (by omega)) (cwV 1 hts gX1_readMeasures__X1_passWord_V64 rfl rfl rfl hd_yX1_passWord ⟨lel 6 6 rfl, lel 128 128 rfl⟩) ⟨hx_fb, rcv_X1 hK hP (q0 := 0) rfl, (hx_use hP hD hK hN hX hS hAn hn0 [0, 1, 2] rfl (by decide) rfl [0] rfl (tts_1 ht_76))⟩ rfl rfl hl.1 rfl (lv_room (Nat.le_of_ble_eq_true rfl)) dX1_readMeasures_29 ⟨lel 0 0 rfl, lel 0 0 rfl⟩) hS (fun q _ h => hFc q h) hFc (fun u_86 t H1 locs ht hvm hw_r_85 hB hz1 hk1 hS => ?_)
  obtain ⟨o0_87, o1_88, o2_89, o3_90, o4_91, o5_92, b_o0_87, b_o1_88, b_o2_89, b_o3_90, b_o4_91, hf_93, hf_94, hP1, hK1, hD1⟩ := hB
  rw [ht] at hP1
  have hK1 := va_K.moved hvm.symm hK1
  obtain ⟨hP, hD⟩ := va_join (wr := [(sc, .inr (3, [.int r_74, .int sb, .int si, .int sw, .int ss, .ref en, .ref ki, .ref on, .ref ot])), (ki, .inl (cK, 600, .inl fk)), (on, .inl (cO, 600, .inr (.inl fo))), (ot, .inl (cT, 600, .inr (.inl ft)))]) (w1 := [(rd, .inr (0, [.ref tp, .ref sc, .int o0_87, .int o1_88, .int o2_89, .int o3_90, .int o4_91, .int o5_92, .int xj])), (tp, .inr (6, [.ref tb, .int ts])), (tb, .inl (cB, 1200, .inl fb))]) hP hD [0, 1, 2] [3, 4, 5, 6] rfl rfl (by decide) (by decide) hk1 hFc hP1 hD1
  have hK := (hK.sub (tys' := [(cK, .int), (cO, .long), (cT, .long)]) [1, 2, 3] rfl).app hK1
  generalize H1 = H at hP hS ⊢
  have hP := hP.sub (ws' := [(rd, .inr (0, [.ref tp, .ref sc, .int o0_87, .int o1_88, .int o2_89, .int o3_90, .int o4_91, .int o5_92, .int xj])), (tp, .inr (6, [.ref tb, .int ts])), (tb, .inl (cB, 1200, .inl fb)), (sc, .inr (3, [.int r_74, .int sb, .int si, .int sw, .int ss, .ref en, .ref ki, .ref on, .ref ot])), (ki, .inl (cK, 600, .inl fk)), (on, .inl (cO, 600, .inr (.inl fo))), (ot, .inl (cT, 600, .inr (.inl ft)))]) [4, 5, 6, 0, 1, 2, 3] rfl
  have hD := hD.sub (ws' := [(rd, .inr (0, [.ref tp, .ref sc, .int o0_87, .int o1_88, .int o2_89, .int o3_90, .int o4_91, .int o5_92, .int xj])), (tp, .inr (6, [.ref tb, .int ts])), (tb, .inl (cB, 1200, .inl fb)), (sc, .inr (3, [.int r_74, .int sb, .int si, .int sw, .int ss, .ref en, .ref ki, .ref on, .ref ot])), (ki, .inl (cK, 600, .inl fk)), (on, .inl (cO, 600, .inr (.inl fo))), (ot, .inl (cT, 600, .inr (.inl ft)))]) [4, 5, 6, 0, 1, 2, 3] (by decide) rfl
  have hK := hK.sub (tys' := [(cB, .byte), (cK, .int), (cO, .long), (cT, .long)]) [3, 0, 1, 2] rfl
  have hP : va_P (dC, dI) vwCl [(rd, .inr (0, [.ref tp, .ref sc, .int o0_87, .int o1_88, .int o2_89, .int o3_90, .int o4_91, .int o5_92, .int xj])), (tp, .inr (6, [.ref tb, .int ts])), (tb, .inl (cB, 1200, .inl fb)), (sc, .inr (3, [.int r_74, .int sb, .int si, .int sw, .int ss, .ref en, .ref ki, .ref on, .ref ot])), (ki, .inl (cK, 600, .inl fk)), (on, .inl (cO, 600, .inr (.inl fo))), (ot, .inl (cT, 600, .inr (.inl ft)))] H := hP
  have hD : va_D A [(rd, .inr (0, [.ref tp, .ref sc, .int o0_87, .int o1_88, .int o2_89, .int o3_90, .int o4_91, .int o5_92, .int xj])), (tp, .inr (6, [.ref tb, .int ts])), (tb, .inl (cB, 1200, .inl fb)), (sc, .inr (3, [.int r_74, .int sb, .int si, .int sw, .int ss, .ref en, .ref ki, .ref on, .ref ot])), (ki, .inl (cK, 600, .inl fk)), (on, .inl (cO, 600, .inr (.inl fo))), (ot, .inl (cT, 600, .inr (.inl ft)))] := hD
  have hK : va_K (dC, dI) vwCl [(cB, .byte), (cK, .int), (cO, .long), (cT, .long)] s := hK
  refine lv_aload_n hx hb dX1_readMeasures_32 rfl (lv_at hl 0 rfl) ?_
  refine va_get (D := (dC, dI)) (ci := 0) (v := .ref sc) (C := RX1) (T := TX1) (N := 9) hx hb hts iX1_readMeasures_X1 hown hK hP 0 rfl rfl 1 (by decide) (hts (.fieldLink RX1 19 "LuckyTicket$Reader" "script" "LLuckyTicket$Script;") (List.mem_of_getElem? (i := 5) rfl)) (fun _ h9 => h9) rfl dX1_readMeasures_33 ?_
  refine lv_aload_n hx hb dX1_readMeasures_36 rfl (lv_at hl 0 rfl) ?_
  refine lv_iconst (v := 2) hx hb dX1_readMeasures_37 (by decide) ?_
  refine lv_aload_n hx hb dX1_readMeasures_38 rfl (lv_at hl 0 rfl) ?_
  refine va_get (D := (dC, dI)) (ci := 0) (v := .ref sc) (C := RX1) (T := TX1) (N := 9) hx hb hts iX1_readMeasures_X1 hown hK hP 0 rfl rfl 1 (by decide) (hts (.fieldLink RX1 19 "LuckyTicket$Reader" "script" "LLuckyTicket$Script;") (List.mem_of_getElem? (i := 5) rfl)) (fun _ h9 => h9) rfl dX1_readMeasures_39 ?_
  refine va_getN (own := RX1) (index := 74) (ref := RX4) (host := RX9) (D := (dC, dI)) (ci := 3) (v := .int r_74) (C := RX4) (T := TX4) (N := 9) hx hb hts iX1_readMeasures_X4 hown hK hP 3 rfl rfl 0 (by decide) (va_Nw.use rfl (hN _ (List.mem_of_getElem? (i := 4) rfl))) (fun _ h9 => h9) rfl dX1_readMeasures_42 ?_
  refine vp_callSi (W.runS (As := [.int r_74]) (rest := [.int 2, .ref rd, .ref sc]) ⟨hx, hb, hml, hown, hts⟩ (kX1_greatestBase l dC dI r_74 b_r_74) (va_cwS 1 hts gX1_readMeasures__X1_greatestBase_S78 rfl rfl rfl hd_yX1_greatestBase.2 ⟨lel 2 6 rfl, lel 44 128 rfl⟩) ⟨pw_fb, (pw_use hP hK hN [] rfl [] rfl)⟩ rfl rfl hl.1 rfl (lv_room (Nat.le_of_ble_eq_true rfl)) dX1_readMeasures_45 ⟨lel 0 0 rfl, lel 0 0 rfl⟩) (fun r_95 h_r_95 => ?_)
  obtain ⟨b_r_95, pr_r_95⟩ := h_r_95
  have b_r_95 : (2 : Int) ≤ r_95.toInt ∧ r_95.toInt ≤ 16 := b_r_95
  have hFc := va_free (wc := [(rd, .inr (0, [.ref tp, .ref sc, .int o0_87, .int o1_88, .int o2_89, .int o3_90, .int o4_91, .int o5_92, .int xj])), (tp, .inr (6, [.ref tb, .int ts])), (tb, .inl (cB, 1200, .inl fb))]) hD hS hA [0, 1, 2] rfl
  refine va_calli (va_runV (As := [.int 2, .int r_95]) (rest := [.ref sc]) ⟨hx, hb, hml, hown, hts⟩ (kX1_passNumber l dC dI rd o0_87 o1_88 o2_89 o3_90 o4_91 o5_92 xj tp tb ts cB fb sc 2 r_95 (H.size) b_o0_87 b_o1_88 b_o2_89 b_o3_90 b_o4_91 b_ts (by omega)) (cwV 2 hts gX1_readMeasures__X1_passNumber_V70 rfl rfl rfl hd_yX1_passNumber ⟨lel 2 6 rfl, lel 45 128 rfl⟩) ⟨hw_fb, rcv_X1 hK hP (q0 := 0) rfl, (hw_use hP hD hK hN [0, 1, 2] rfl (by decide) rfl [0] rfl)⟩ rfl rfl hl.1 rfl (lv_room (Nat.le_of_ble_eq_true rfl)) dX1_readMeasures_48 ⟨lel 0 0 rfl, lel 0 0 rfl⟩) hS (fun q _ h => hFc q h) hFc (fun r_96 u_97 t H1 locs ht hvm hw_r_96 hB hz1 hk1 hS => ?_)
  obtain ⟨hu_r_96, hw_r_96⟩ := hw_r_96
  subst hu_r_96
  obtain ⟨o0_98, o1_99, o2_100, o3_101, o4_102, o5_103, b_o0_98, b_o1_99, b_o2_100, b_o3_101, b_o4_102, hf_104, hf_105, hf_106, hP1, hK1, hD1⟩ := hB
  rw [ht] at hP1
  have hK1 := va_K.moved hvm.symm hK1
  obtain ⟨hP, hD⟩ := va_join (wr := [(sc, .inr (3, [.int r_74, .int sb, .int si, .int sw, .int ss, .ref en, .ref ki, .ref on, .ref ot])), (ki, .inl (cK, 600, .inl fk)), (on, .inl (cO, 600, .inr (.inl fo))), (ot, .inl (cT, 600, .inr (.inl ft)))]) (w1 := [(rd, .inr (0, [.ref tp, .ref sc, .int o0_98, .int o1_99, .int o2_100, .int o3_101, .int o4_102, .int o5_103, .int xj])), (tp, .inr (6, [.ref tb, .int ts])), (tb, .inl (cB, 1200, .inl fb))]) hP hD [0, 1, 2] [3, 4, 5, 6] rfl rfl (by decide) (by decide) hk1 hFc hP1 hD1
  have hK := (hK.sub (tys' := [(cK, .int), (cO, .long), (cT, .long)]) [1, 2, 3] rfl).app hK1
  generalize H1 = H at hP hS ⊢
  have hP := hP.sub (ws' := [(rd, .inr (0, [.ref tp, .ref sc, .int o0_98, .int o1_99, .int o2_100, .int o3_101, .int o4_102, .int o5_103, .int xj])), (tp, .inr (6, [.ref tb, .int ts])), (tb, .inl (cB, 1200, .inl fb)), (sc, .inr (3, [.int r_74, .int sb, .int si, .int sw, .int ss, .ref en, .ref ki, .ref on, .ref ot])), (ki, .inl (cK, 600, .inl fk)), (on, .inl (cO, 600, .inr (.inl fo))), (ot, .inl (cT, 600, .inr (.inl ft)))]) [4, 5, 6, 0, 1, 2, 3] rfl
  have hD := hD.sub (ws' := [(rd, .inr (0, [.ref tp, .ref sc, .int o0_98, .int o1_99, .int o2_100, .int o3_101, .int o4_102, .int o5_103, .int xj])), (tp, .inr (6, [.ref tb, .int ts])), (tb, .inl (cB, 1200, .inl fb)), (sc, .inr (3, [.int r_74, .int sb, .int si, .int sw, .int ss, .ref en, .ref ki, .ref on, .ref ot])), (ki, .inl (cK, 600, .inl fk)), (on, .inl (cO, 600, .inr (.inl fo))), (ot, .inl (cT, 600, .inr (.inl ft)))]) [4, 5, 6, 0, 1, 2, 3] (by decide) rfl
  have hK := hK.sub (tys' := [(cB, .byte), (cK, .int), (cO, .long), (cT, .long)]) [3, 0, 1, 2] rfl
  have hP : va_P (dC, dI) vwCl [(rd, .inr (0, [.ref tp, .ref sc, .int o0_98, .int o1_99, .int o2_100, .int o3_101, .int o4_102, .int o5_103, .int xj])), (tp, .inr (6, [.ref tb, .int ts])), (tb, .inl (cB, 1200, .inl fb)), (sc, .inr (3, [.int r_74, .int sb, .int si, .int sw, .int ss, .ref en, .ref ki, .ref on, .ref ot])), (ki, .inl (cK, 600, .inl fk)), (on, .inl (cO, 600, .inr (.inl fo))), (ot, .inl (cT, 600, .inr (.inl ft)))] H := hP
  have hD : va_D A [(rd, .inr (0, [.ref tp, .ref sc, .int o0_98, .int o1_99, .int o2_100, .int o3_101, .int o4_102, .int o5_103, .int xj])), (tp, .inr (6, [.ref tb, .int ts])), (tb, .inl (cB, 1200, .inl fb)), (sc, .inr (3, [.int r_74, .int sb, .int si, .int sw, .int ss, .ref en, .ref ki, .ref on, .ref ot])), (ki, .inl (cK, 600, .inl fk)), (on, .inl (cO, 600, .inr (.inl fo))), (ot, .inl (cT, 600, .inr (.inl ft)))] := hD
  have hK : va_K (dC, dI) vwCl [(cB, .byte), (cK, .int), (cO, .long), (cT, .long)] s := hK
  have pr_r_96 := hw_r_96
  have b_r_96 : (0 : Int) ≤ r_96.toInt ∧ r_96.toInt ≤ 16 := by
    have q0 := (by decide : (2 : Int) ≤ (2 : Int32).toInt ∧ (2 : Int32).toInt ≤ 2)
    have q1 := b_r_95
    omega
  refine va_putN (own := RX1) (index := 82) (ref := RX4) (host := RX9) (D := (dC, dI)) (ci := 3) (v := .int r_96) (ty := .int) (C := RX4) (T := TX4) (N := 9) hx hb hts iX1_readMeasures_X4 tyX4 tyX4_ok nmX4 hown hK hP hD hS 3 rfl rfl 1 (by decide) (va_Nw.use rfl (hN _ (List.mem_of_getElem? (i := 6) rfl))) (fun _ h9 => h9) rfl (by decide +kernel) rfl rfl (Nat.le_of_ble_eq_true rfl) dX1_readMeasures_51 (fun H locs hP hD hS => ?_)
  have hP : va_P (dC, dI) vwCl [(rd, .inr (0, [.ref tp, .ref sc, .int o0_98, .int o1_99, .int o2_100, .int o3_101, .int o4_102, .int o5_103, .int xj])), (tp, .inr (6, [.ref tb, .int ts])), (tb, .inl (cB, 1200, .inl fb)), (sc, .inr (3, [.int r_74, .int r_96, .int si, .int sw, .int ss, .ref en, .ref ki, .ref on, .ref ot])), (ki, .inl (cK, 600, .inl fk)), (on, .inl (cO, 600, .inr (.inl fo))), (ot, .inl (cT, 600, .inr (.inl ft)))] H := hP
  have hD : va_D A [(rd, .inr (0, [.ref tp, .ref sc, .int o0_98, .int o1_99, .int o2_100, .int o3_101, .int o4_102, .int o5_103, .int xj])), (tp, .inr (6, [.ref tb, .int ts])), (tb, .inl (cB, 1200, .inl fb)), (sc, .inr (3, [.int r_74, .int r_96, .int si, .int sw, .int ss, .ref en, .ref ki, .ref on, .ref ot])), (ki, .inl (cK, 600, .inl fk)), (on, .inl (cO, 600, .inr (.inl fo))), (ot, .inl (cT, 600, .inr (.inl ft)))] := hD
  have hP9 := hP.sub (ws' := [(rd, .inr (0, [.ref tp, .ref sc, .int o0_98, .int o1_99, .int o2_100, .int o3_101, .int o4_102, .int o5_103, .int xj])), (tp, .inr (6, [.ref tb, .int ts])), (tb, .inl (cB, 1200, .inl fb)), (sc, .inr (3, [.int r_74, .int r_96, .int si, .int sw, .int ss, .ref en, .ref ki, .ref on, .ref ot])), (ki, .inl (cK, 600, .inl fk)), (on, .inl (cO, 600, .inr (.inl fo))), (ot, .inl (cT, 600, .inr (.inl ft)))]) [0, 1, 2, 3, 4, 5, 6] rfl
  have hD9 := hD.sub (ws' := [(rd, .inr (0, [.ref tp, .ref sc, .int o0_98, .int o1_99, .int o2_100, .int o3_101, .int o4_102, .int o5_103, .int xj])), (tp, .inr (6, [.ref tb, .int ts])), (tb, .inl (cB, 1200, .inl fb)), (sc, .inr (3, [.int r_74, .int r_96, .int si, .int sw, .int ss, .ref en, .ref ki, .ref on, .ref ot])), (ki, .inl (cK, 600, .inl fk)), (on, .inl (cO, 600, .inr (.inl fo))), (ot, .inl (cT, 600, .inr (.inl ft)))]) [0, 1, 2, 3, 4, 5, 6] (by decide) rfl
  have hK9 := hK.sub (tys' := [(cB, .byte), (cK, .int), (cO, .long), (cT, .long)]) [0, 1, 2, 3] rfl
  exact W.vret hx hb hr (fun t ht hW => ⟨⟨(), rfl, trivial, o0_98, o1_99, o2_100, o3_101, o4_102, o5_103, r_74, r_96, b_o0_98, b_o1_99, b_o2_100, b_o3_101, b_o4_102, b_r_74, b_r_96, (by omega), (by have l0 : (0 : Int32).toInt = 0 := (by decide); have l1 : (1 : Int32).toInt = 1 := (by decide); have l2 : (2 : Int32).toInt = 2 := (by decide); have l12 : (12 : Int32).toInt = 12 := (by decide); have l19 : (19 : Int32).toInt = 19 := (by decide); have l20 : (20 : Int32).toInt = 20 := (by decide); exact fun h9 => gm_of ⟨by omega, by omega⟩ ⟨by omega, by omega⟩ (by omega) pr_r_95.2), by rw [ht]; exact hP9, va_K.moved hW.alike hK9, hD9⟩, hS.F ht⟩) hS.2.2 dX1_readMeasures_54
