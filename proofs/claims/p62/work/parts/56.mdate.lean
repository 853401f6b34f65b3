theorem dX10_isLuckyDate_0 : decode cX10_isLuckyDate 0 = .ok (.iload_n 0, 1) := by decide +kernel
theorem dX10_isLuckyDate_1 : decode cX10_isLuckyDate 1 = .ok (.sipush 1000, 3) := by decide +kernel
theorem dX10_isLuckyDate_4 : decode cX10_isLuckyDate 4 = .ok (.idiv, 1) := by decide +kernel
theorem dX10_isLuckyDate_5 : decode cX10_isLuckyDate 5 = .ok (.iload_n 0, 1) := by decide +kernel
theorem dX10_isLuckyDate_6 : decode cX10_isLuckyDate 6 = .ok (.bipush 100, 2) := by decide +kernel
theorem dX10_isLuckyDate_8 : decode cX10_isLuckyDate 8 = .ok (.idiv, 1) := by decide +kernel
theorem dX10_isLuckyDate_9 : decode cX10_isLuckyDate 9 = .ok (.bipush 10, 2) := by decide +kernel
theorem dX10_isLuckyDate_11 : decode cX10_isLuckyDate 11 = .ok (.irem, 1) := by decide +kernel
theorem dX10_isLuckyDate_12 : decode cX10_isLuckyDate 12 = .ok (.iadd, 1) := by decide +kernel
theorem dX10_isLuckyDate_13 : decode cX10_isLuckyDate 13 = .ok (.iload_n 0, 1) := by decide +kernel
theorem dX10_isLuckyDate_14 : decode cX10_isLuckyDate 14 = .ok (.bipush 10, 2) := by decide +kernel
theorem dX10_isLuckyDate_16 : decode cX10_isLuckyDate 16 = .ok (.idiv, 1) := by decide +kernel
theorem dX10_isLuckyDate_17 : decode cX10_isLuckyDate 17 = .ok (.bipush 10, 2) := by decide +kernel
theorem dX10_isLuckyDate_19 : decode cX10_isLuckyDate 19 = .ok (.irem, 1) := by decide +kernel
theorem dX10_isLuckyDate_20 : decode cX10_isLuckyDate 20 = .ok (.iload_n 0, 1) := by decide +kernel
theorem dX10_isLuckyDate_21 : decode cX10_isLuckyDate 21 = .ok (.bipush 10, 2) := by decide +kernel
theorem dX10_isLuckyDate_23 : decode cX10_isLuckyDate 23 = .ok (.irem, 1) := by decide +kernel
theorem dX10_isLuckyDate_24 : decode cX10_isLuckyDate 24 = .ok (.iadd, 1) := by decide +kernel
theorem dX10_isLuckyDate_25 : decode cX10_isLuckyDate 25 = .ok (.if_icmp .ne 7, 3) := by decide +kernel
theorem dX10_isLuckyDate_28 : decode cX10_isLuckyDate 28 = .ok (.iconst 1, 1) := by decide +kernel
theorem dX10_isLuckyDate_29 : decode cX10_isLuckyDate 29 = .ok (.goto 4, 3) := by decide +kernel
theorem dX10_isLuckyDate_32 : decode cX10_isLuckyDate 32 = .ok (.iconst 0, 1) := by decide +kernel
theorem dX10_isLuckyDate_33 : decode cX10_isLuckyDate 33 = .ok (.ireturn, 1) := by decide +kernel
def quX10_isLuckyDate : List Cond := List.cons (.code yX10_isLuckyDate cX10_isLuckyDate 1 (some .boolean)) ([] : List Cond)
set_option maxHeartbeats 4000000 in
set_option maxRecDepth 100000 in
theorem qkX10_isLuckyDate (l : Launch) (dC : Nat → ClassId) (dI : Nat → Nat → Nat) (k : Nat) (hk : k < 10000) : Met l yX10_isLuckyDate quX10_isLuckyDate ({ frames := 0, cells := 0, slots := 0, locals := 0 }) (va_Pc [.int (nI k)] (fun _ => True)) (vp_Si (fun r => r = lb k)) 0 0 (fun _ => False) := by
  refine Met.ofW (cc := cX10_isLuckyDate) (maxL := 1) (ret := (some .boolean)) (by decide) rfl ?_
  intro p e s m args below meth c s₁ B hml hv
  obtain ⟨rfl, _⟩ := hv
  have hx := B.exec
  have hb := B.bytes
  have hr := B.returns
  have hts := atoms_spec (ws := quX10_isLuckyDate) B.pre
  have hown : s.vm.findClass RX10 = some m.cls := findClass_of_methodNamed B.named
  have hlocks := B.notSynchronized
  have hl := lv_entry ([.int (nI k)]) (n := 1) (Nat.le_of_ble_eq_true rfl)
  rw [lg_entry_eq]
  generalize (lg_sl ([.int (nI k)]) ++ List.replicate (1 - (lg_sl ([.int (nI k)])).length) Slot.unset).toArray = ls at hl ⊢
  have hl : lv_has ls 1 [(0, .int (nI k))] := hl
  refine lv_iload_n hx hb dX10_isLuckyDate_0 rfl (lv_at hl 0 rfl) ?_
  refine lv_sipush (v := 1000) hx hb dX10_isLuckyDate_1 (by decide) ?_
  refine lv_idiv hx hb dX10_isLuckyDate_4 (by decide) ?_
  refine lv_topi (fun z_1 ez_1 => ?_)
  obtain rfl : z_1 = nI (k / 1000) := ez_1.trans (pk_div (a := k) (d := 1000) (by omega) (by omega) (by omega))
  refine lv_iload_n hx hb dX10_isLuckyDate_5 rfl (lv_at hl 0 rfl) ?_
  refine lv_bipush (v := 100) hx hb dX10_isLuckyDate_6 (by decide) ?_
  refine lv_idiv hx hb dX10_isLuckyDate_8 (by decide) ?_
  refine lv_topi (fun z_2 ez_2 => ?_)
  obtain rfl : z_2 = nI (k / 100) := ez_2.trans (pk_div (a := k) (d := 100) (by omega) (by omega) (by omega))
  refine lv_bipush (v := 10) hx hb dX10_isLuckyDate_9 (by decide) ?_
  refine lv_irem hx hb dX10_isLuckyDate_11 (by decide) ?_
  refine lv_topi (fun z_3 ez_3 => ?_)
  obtain rfl : z_3 = nI ((k / 100) % 10) := ez_3.trans (pk_rem (a := k / 100) (d := 10) (by omega) (by omega) (by omega))
  refine lv_iadd hx hb dX10_isLuckyDate_12 ?_
  refine lv_topi (fun z_4 ez_4 => ?_)
  obtain rfl : z_4 = nI ((k / 1000) + ((k / 100) % 10)) := ez_4.trans (nI_add (k / 1000) ((k / 100) % 10))
  refine lv_iload_n hx hb dX10_isLuckyDate_13 rfl (lv_at hl 0 rfl) ?_
  refine lv_bipush (v := 10) hx hb dX10_isLuckyDate_14 (by decide) ?_
  refine lv_idiv hx hb dX10_isLuckyDate_16 (by decide) ?_
  refine lv_topi (fun z_5 ez_5 => ?_)
  obtain rfl : z_5 = nI (k / 10) := ez_5.trans (pk_div (a := k) (d := 10) (by omega) (by omega) (by omega))
  refine lv_bipush (v := 10) hx hb dX10_isLuckyDate_17 (by decide) ?_
  refine lv_irem hx hb dX10_isLuckyDate_19 (by decide) ?_
  refine lv_topi (fun z_6 ez_6 => ?_)
  obtain rfl : z_6 = nI ((k / 10) % 10) := ez_6.trans (pk_rem (a := k / 10) (d := 10) (by omega) (by omega) (by omega))
  refine lv_iload_n hx hb dX10_isLuckyDate_20 rfl (lv_at hl 0 rfl) ?_
  refine lv_bipush (v := 10) hx hb dX10_isLuckyDate_21 (by decide) ?_
  refine lv_irem hx hb dX10_isLuckyDate_23 (by decide) ?_
  refine lv_topi (fun z_7 ez_7 => ?_)
  obtain rfl : z_7 = nI (k % 10) := ez_7.trans (pk_rem (a := k) (d := 10) (by omega) (by omega) (by omega))
  refine lv_iadd hx hb dX10_isLuckyDate_24 ?_
  refine lv_topi (fun z_8 ez_8 => ?_)
  obtain rfl : z_8 = nI (((k / 10) % 10) + (k % 10)) := ez_8.trans (nI_add ((k / 10) % 10) (k % 10))
  refine lv_icmp_ne (tgt := 32) hx hb dX10_isLuckyDate_25 (by decide) (fun c_9 => ?_) (fun c_9 => ?_)
  ·
    have nc_9 : ¬ ((k / 1000) + ((k / 100) % 10) = ((k / 10) % 10) + (k % 10)) := fun q9 => c_9 ((nI_eq (a := (k / 1000) + ((k / 100) % 10)) (b := ((k / 10) % 10) + (k % 10)) (by omega) (by omega)).mpr q9)
    refine lv_iconst (v := 0) hx hb dX10_isLuckyDate_32 (by decide) ?_
    exact W.zret (v := 0) hx hb hr rfl (fun t ht hW => ⟨0, rfl, lb_f nc_9, ht⟩) t_nil dX10_isLuckyDate_33
  ·
    have nc_9 : (k / 1000) + ((k / 100) % 10) = ((k / 10) % 10) + (k % 10) := (nI_eq (a := (k / 1000) + ((k / 100) % 10)) (b := ((k / 10) % 10) + (k % 10)) (by omega) (by omega)).mp c_9
    refine lv_iconst (v := 1) hx hb dX10_isLuckyDate_28 (by decide) ?_
    refine lv_goto (tgt := 33) hx hb dX10_isLuckyDate_29 (by decide) ?_
    exact W.zret (v := 1) hx hb hr rfl (fun t ht hW => ⟨1, rfl, lb_t nc_9, ht⟩) t_nil dX10_isLuckyDate_33
theorem dX10_dateOf_0 : decode cX10_dateOf 0 = .ok (.iload_n 1, 1) := by decide +kernel
theorem dX10_dateOf_1 : decode cX10_dateOf 1 = .ok (.istore_n 2, 1) := by decide +kernel
theorem dX10_dateOf_2 : decode cX10_dateOf 2 = .ok (.iconst 0, 1) := by decide +kernel
theorem dX10_dateOf_3 : decode cX10_dateOf 3 = .ok (.istore_n 3, 1) := by decide +kernel
theorem dX10_dateOf_4 : decode cX10_dateOf 4 = .ok (.iload_n 2, 1) := by decide +kernel
theorem dX10_dateOf_5 : decode cX10_dateOf 5 = .ok (.aload_n 0, 1) := by decide +kernel
theorem dX10_dateOf_6 : decode cX10_dateOf 6 = .ok (.getfield 55, 3) := by decide +kernel
theorem dX10_dateOf_9 : decode cX10_dateOf 9 = .ok (.iload_n 3, 1) := by decide +kernel
theorem dX10_dateOf_10 : decode cX10_dateOf 10 = .ok (.iaload, 1) := by decide +kernel
theorem dX10_dateOf_11 : decode cX10_dateOf 11 = .ok (.if_icmp .le 18, 3) := by decide +kernel
theorem dX10_dateOf_14 : decode cX10_dateOf 14 = .ok (.iload_n 2, 1) := by decide +kernel
theorem dX10_dateOf_15 : decode cX10_dateOf 15 = .ok (.aload_n 0, 1) := by decide +kernel
theorem dX10_dateOf_16 : decode cX10_dateOf 16 = .ok (.getfield 55, 3) := by decide +kernel
theorem dX10_dateOf_19 : decode cX10_dateOf 19 = .ok (.iload_n 3, 1) := by decide +kernel
theorem dX10_dateOf_20 : decode cX10_dateOf 20 = .ok (.iaload, 1) := by decide +kernel
theorem dX10_dateOf_21 : decode cX10_dateOf 21 = .ok (.isub, 1) := by decide +kernel
theorem dX10_dateOf_22 : decode cX10_dateOf 22 = .ok (.istore_n 2, 1) := by decide +kernel
theorem dX10_dateOf_23 : decode cX10_dateOf 23 = .ok (.iinc 3 1, 3) := by decide +kernel
theorem dX10_dateOf_26 : decode cX10_dateOf 26 = .ok (.goto (-22), 3) := by decide +kernel
theorem dX10_dateOf_29 : decode cX10_dateOf 29 = .ok (.bipush 100, 2) := by decide +kernel
theorem dX10_dateOf_31 : decode cX10_dateOf 31 = .ok (.iload_n 2, 1) := by decide +kernel
theorem dX10_dateOf_32 : decode cX10_dateOf 32 = .ok (.imul, 1) := by decide +kernel
theorem dX10_dateOf_33 : decode cX10_dateOf 33 = .ok (.iload_n 3, 1) := by decide +kernel
theorem dX10_dateOf_34 : decode cX10_dateOf 34 = .ok (.iadd, 1) := by decide +kernel
theorem dX10_dateOf_35 : decode cX10_dateOf 35 = .ok (.iconst 1, 1) := by decide +kernel
theorem dX10_dateOf_36 : decode cX10_dateOf 36 = .ok (.iadd, 1) := by decide +kernel
theorem dX10_dateOf_37 : decode cX10_dateOf 37 = .ok (.ireturn, 1) := by decide +kernel
def quX10_dateOf : List Cond := List.cons (.code yX10_dateOf cX10_dateOf 4 (some .int)) (HAppend.hAppend ([.fieldLink RX10 55 "LuckyTicketModel" "months" "[I"] : List Cond) wsX100)
theorem qiX10_dateOf_X10 : ∀ w ∈ wsX100, w ∈ quX10_dateOf := fun _ h => List.mem_cons_of_mem _ (List.mem_append_right _ h)
set_option maxHeartbeats 4000000 in
set_option maxRecDepth 100000 in
theorem qkX10_dateOf (l : Launch) (dC : Nat → ClassId) (dI : Nat → Nat → Nat) (h0 : Nat) (m_world : Nat) (m_images : Nat) (m_hasImage : Nat) (m_luck : Nat) (m_tape : Nat) (m_five : Nat) (m_fresh : Nat) (m_waits : Nat) (m_figures : Nat) (m_pile : Nat) (m_times : Nat) (m_far : Nat) (m_queue : Nat) (m_months : Nat) (m_ways : Nat) (m_waysOn : Nat) (m_many : Nat) (m_width : Nat) (m_numbers : Nat) (m_moving : Nat) (y_thrown : Int32) (y_taped : Int32) (y_size : Int32) (y_at : Int32) (y_from : Int32) (y_token : Int32) (y_value : Int32) (y_faultKind : Int32) (y_faultPlace : Int32) (y_waiting : Int32) (y_open : Int32) (y_joined : Int32) (y_drawn : Int64) (cI : ClassId) (d : Nat) (hd1 : 1 ≤ d) (hd2 : d ≤ 365) : Met l yX10_dateOf quX10_dateOf ({ frames := 0, cells := 0, slots := 0, locals := 0 }) (va_Pc [.ref h0, .int (nI d)] (pw (dC, dI) vwCl [(h0, .inr (8, [.int y_thrown, .ref m_world, .ref m_images, .ref m_hasImage, .ref m_luck, .ref m_tape, .int y_taped, .ref m_five, .int y_size, .int y_at, .int y_from, .int y_token, .int y_value, .int y_faultKind, .int y_faultPlace, .ref m_fresh, .ref m_waits, .int y_waiting, .int y_open, .int y_joined, .ref m_figures, .ref m_pile, .long y_drawn, .ref m_times, .ref m_far, .ref m_queue, .ref m_months, .ref m_ways, .ref m_waysOn, .ref m_many, .ref m_width, .ref m_numbers, .ref m_moving])), (m_months, .inl (cI, 12, .inl monthsF))] [(cI, .int)])) (vp_Si (fun r => r = nI (dt d))) 0 0 (fun _ => False) := by
  refine Met.ofW (cc := cX10_dateOf) (maxL := 4) (ret := (some .int)) (by decide) rfl ?_
  intro p e s m args below meth c s₁ B hml hv
  obtain ⟨rfl, hP, hK, hN⟩ := hv
  have hx := B.exec
  have hb := B.bytes
  have hr := B.returns
  have hts := atoms_spec (ws := quX10_dateOf) B.pre
  have hown : s.vm.findClass RX10 = some m.cls := findClass_of_methodNamed B.named
  have hlocks := B.notSynchronized
  have hl := lv_entry ([.ref h0, .int (nI d)]) (n := 4) (Nat.le_of_ble_eq_true rfl)
  rw [lg_entry_eq]
  generalize (lg_sl ([.ref h0, .int (nI d)]) ++ List.replicate (4 - (lg_sl ([.ref h0, .int (nI d)])).length) Slot.unset).toArray = ls at hl ⊢
  have hl : lv_has ls 4 [(0, .ref h0), (1, .int (nI d))] := hl
  refine lv_iload_n hx hb dX10_dateOf_0 rfl (lv_at hl 1 rfl) ?_
  refine lv_istore_n (lv' := [(2, .int (nI d)), (0, .ref h0), (1, .int (nI d))]) hx hb dX10_dateOf_1 rfl hl (by decide) rfl (fun ls hl => ?_)
  refine lv_iconst (v := 0) hx hb dX10_dateOf_2 (by decide) ?_
  refine lv_istore_n (lv' := [(3, .int 0), (2, .int (nI d)), (0, .ref h0), (1, .int (nI d))]) hx hb dX10_dateOf_3 rfl hl (by decide) rfl (fun ls hl => ?_)
  refine loopP (σ := Nat × Nat) (fun v => 12 - v.2) (fun v ls => (1 ≤ v.1) ∧ (v.2 < 12) ∧ (dtL (MON.drop v.2) v.1 (v.2 + 1) = dt d) ∧ (v.1 ≤ (MON.drop v.2).sum) ∧ lv_has ls 4 [(3, .int (nI v.2)), (2, .int (nI v.1)), (0, .ref h0), (1, .int (nI d))]) (fun v ls hI ih_4 => ?_) (d, 0) ⟨(show 1 ≤ d from hd1), (show 0 < 12 from (by decide)), (show dtL (MON.drop 0) d (0 + 1) = dt d from rfl), (show d ≤ (MON.drop 0).sum from hd2), hl⟩
  obtain ⟨x, mm⟩ := v
  obtain ⟨hx1, hm, hdt, hsm, hl⟩ := hI
  have hx1 : 1 ≤ x := hx1
  have hm : mm < 12 := hm
  have hdt : dtL (MON.drop mm) x (mm + 1) = dt d := hdt
  have hsm : x ≤ (MON.drop mm).sum := hsm
  have hl : lv_has ls 4 [(3, .int (nI mm)), (2, .int (nI x)), (0, .ref h0), (1, .int (nI d))] := hl
  have hmo := mo_le mm hm
  have hms := mo_sum mm hm
  have hx9 : x < 2 ^ 31 := Nat.lt_of_le_of_lt hsm (by have := mo_tot mm hm; omega)
  refine lv_iload_n hx hb dX10_dateOf_4 rfl (lv_at hl 1 rfl) ?_
  refine lv_aload_n hx hb dX10_dateOf_5 rfl (lv_at hl 2 rfl) ?_
  refine va_get (D := (dC, dI)) (ci := 8) (v := .ref m_months) (C := RX10) (T := TX10) (N := 33) hx hb hts qiX10_dateOf_X10 hown hK hP 0 rfl rfl 26 (by decide) (hts (.fieldLink RX10 55 "LuckyTicketModel" "months" "[I") (List.mem_of_getElem? (i := 1) rfl)) (fun _ h9 => h9) rfl dX10_dateOf_6 ?_
  refine lv_iload_n hx hb dX10_dateOf_9 rfl (lv_at hl 0 rfl) ?_
  refine va_iald hx hb hK hP 1 0 rfl rfl (vp_in_nI (n := mm) (by omega) (by decide)) dX10_dateOf_10 ?_
  refine lv_topi (fun z_1 ez_1 => ?_)
  obtain rfl : z_1 = nI (mo mm) := ez_1.trans (by rw [nI_clamp (by omega)]; exact monthsF_eq _ (by omega))
  refine lv_icmp_le (tgt := 29) hx hb dX10_dateOf_11 (by decide) (fun c_2 => ?_) (fun c_2 => ?_)
  ·
    have nc_2 : x ≤ mo mm := (nI_leI (a := x) (b := mo mm) (by omega) (by omega)).mp c_2
    refine lv_bipush (v := 100) hx hb dX10_dateOf_29 (by decide) ?_
    refine lv_iload_n hx hb dX10_dateOf_31 rfl (lv_at hl 1 rfl) ?_
    refine lv_imul hx hb dX10_dateOf_32 ?_
    refine lv_topi (fun z_3 ez_3 => ?_)
    obtain rfl : z_3 = nI (100 * x) := ez_3.trans (pk_mul 100 x)
    refine lv_iload_n hx hb dX10_dateOf_33 rfl (lv_at hl 0 rfl) ?_
    refine lv_iadd hx hb dX10_dateOf_34 ?_
    refine lv_topi (fun z_4 ez_4 => ?_)
    obtain rfl : z_4 = nI ((100 * x) + mm) := ez_4.trans (nI_add (100 * x) mm)
    refine lv_iconst (v := 1) hx hb dX10_dateOf_35 (by decide) ?_
    refine lv_iadd hx hb dX10_dateOf_36 ?_
    refine lv_topi (fun z_5 ez_5 => ?_)
    obtain rfl : z_5 = nI (((100 * x) + mm) + 1) := ez_5.trans (nI_add ((100 * x) + mm) 1)
    exact W.iret (v := (nI (((100 * x) + mm) + 1))) hx hb hr (fun t ht hW => ⟨(nI (((100 * x) + mm) + 1)), rfl, (by rw [← hdt, dt_end hm (by omega), Nat.mul_comm, Nat.add_assoc]), ht⟩) t_nil dX10_dateOf_37
  ·
    have nc_2 : ¬ x ≤ mo mm := fun q9 => c_2 ((nI_leI (a := x) (b := mo mm) (by omega) (by omega)).mpr q9)
    refine lv_iload_n hx hb dX10_dateOf_14 rfl (lv_at hl 1 rfl) ?_
    refine lv_aload_n hx hb dX10_dateOf_15 rfl (lv_at hl 2 rfl) ?_
    refine va_get (D := (dC, dI)) (ci := 8) (v := .ref m_months) (C := RX10) (T := TX10) (N := 33) hx hb hts qiX10_dateOf_X10 hown hK hP 0 rfl rfl 26 (by decide) (hts (.fieldLink RX10 55 "LuckyTicketModel" "months" "[I") (List.mem_of_getElem? (i := 1) rfl)) (fun _ h9 => h9) rfl dX10_dateOf_16 ?_
    refine lv_iload_n hx hb dX10_dateOf_19 rfl (lv_at hl 0 rfl) ?_
    refine va_iald hx hb hK hP 1 0 rfl rfl (vp_in_nI (n := mm) (by omega) (by decide)) dX10_dateOf_20 ?_
    refine lv_topi (fun z_6 ez_6 => ?_)
    obtain rfl : z_6 = nI (mo mm) := ez_6.trans (by rw [nI_clamp (by omega)]; exact monthsF_eq _ (by omega))
    refine lv_isub hx hb dX10_dateOf_21 ?_
    refine lv_topi (fun z_7 ez_7 => ?_)
    obtain rfl : z_7 = nI (x - (mo mm)) := ez_7.trans (pk_sub (a := x) (b := mo mm) (by omega))
    refine lv_istore_n (lv' := [(2, .int (nI (x - (mo mm)))), (3, .int (nI mm)), (0, .ref h0), (1, .int (nI d))]) hx hb dX10_dateOf_22 rfl hl (by decide) rfl (fun ls hl => ?_)
    obtain ⟨z_8, ez_8⟩ : ∃ y : Int32, y = nI mm + 1 := ⟨_, rfl⟩
    refine lv_iinc (v := z_8) (lv' := [(3, .int z_8), (2, .int (nI (x - (mo mm)))), (0, .ref h0), (1, .int (nI d))]) hx hb dX10_dateOf_23 hl (k := 1) rfl (by rw [ez_8]; rfl) (by decide) rfl (fun ls hl => ?_)
    obtain rfl : z_8 = nI (mm + 1) := ez_8.trans (nI_add mm 1)
    refine lv_goto (tgt := 4) hx hb dX10_dateOf_26 (by decide) ?_
    exact ih_4 (x - mo mm, mm + 1) _ ⟨(show 1 ≤ (x - mo mm) from (by omega)), (show (mm + 1) < 12 from (mo_last mm hm (by omega))), (show dtL (MON.drop (mm + 1)) (x - mo mm) ((mm + 1) + 1) = dt d from (by rw [← hdt, dt_step hm (by omega)])), (show (x - mo mm) ≤ (MON.drop (mm + 1)).sum from (by omega)), lv_sub hl [0, 1, 2, 3] rfl⟩ (show 12 - (mm + 1) < 12 - mm by omega)
theorem dX10_date_0 : decode cX10_date 0 = .ok (.iload_n 1, 1) := by decide +kernel
theorem dX10_date_1 : decode cX10_date 1 = .ok (.invokestatic 444, 3) := by decide +kernel
theorem dX10_date_4 : decode cX10_date 4 = .ok (.ifCond .eq 11, 3) := by decide +kernel
theorem dX10_date_7 : decode cX10_date 7 = .ok (.aload_n 0, 1) := by decide +kernel
theorem dX10_date_8 : decode cX10_date 8 = .ok (.iload_n 1, 1) := by decide +kernel
theorem dX10_date_9 : decode cX10_date 9 = .ok (.invokevirtual 447, 3) := by decide +kernel
theorem dX10_date_12 : decode cX10_date 12 = .ok (.goto 5, 3) := by decide +kernel
theorem dX10_date_15 : decode cX10_date 15 = .ok (.bipush (-2), 2) := by decide +kernel
theorem dX10_date_17 : decode cX10_date 17 = .ok (.ireturn, 1) := by decide +kernel
def quX10_date : List Cond := List.cons (.code yX10_date cX10_date 2 (some .int)) (HAppend.hAppend ([.methodLink RX10 444 yX10_isDay, .static yX10_isDay, .initialized RX10, .code yX10_isDay cX10_isDay 1 (some .boolean), .constantLong RX10 442 (365), .methodLink RX10 82 yX10_in, .static yX10_in, .code yX10_in cX10_in 6 (some .boolean), .methodLink RX10 447 yX10_dateOf, .instanceMethod yX10_dateOf, .selects RX10 yX10_dateOf yX10_dateOf, .code yX10_dateOf cX10_dateOf 4 (some .int), .fieldLink RX10 55 "LuckyTicketModel" "months" "[I"] : List Cond) wsX100)
theorem qiX10_date_X10 : ∀ w ∈ wsX100, w ∈ quX10_date := fun _ h => List.mem_cons_of_mem _ (List.mem_append_right _ h)
set_option maxRecDepth 20000 in
theorem qgX10_date__X10_isDay_S444 : GoodIn quX10_date (va_wsS RX10 444 yX10_isDay quX10_isDay) := goodIn_p _ [4, 8] rfl (by decide +kernel)
set_option maxRecDepth 20000 in
theorem qgX10_date__X10_dateOf_V447 : GoodIn quX10_date (wsV RX10 447 RX10 yX10_dateOf quX10_dateOf) := goodIn_p _ [12] rfl (by decide +kernel)
set_option maxHeartbeats 4000000 in
set_option maxRecDepth 100000 in
theorem qkX10_date (l : Launch) (dC : Nat → ClassId) (dI : Nat → Nat → Nat) (h0 : Nat) (m_world : Nat) (m_images : Nat) (m_hasImage : Nat) (m_luck : Nat) (m_tape : Nat) (m_five : Nat) (m_fresh : Nat) (m_waits : Nat) (m_figures : Nat) (m_pile : Nat) (m_times : Nat) (m_far : Nat) (m_queue : Nat) (m_months : Nat) (m_ways : Nat) (m_waysOn : Nat) (m_many : Nat) (m_width : Nat) (m_numbers : Nat) (m_moving : Nat) (y_thrown : Int32) (y_taped : Int32) (y_size : Int32) (y_at : Int32) (y_from : Int32) (y_token : Int32) (y_value : Int32) (y_faultKind : Int32) (y_faultPlace : Int32) (y_waiting : Int32) (y_open : Int32) (y_joined : Int32) (y_drawn : Int64) (cI : ClassId) (a1 : Int32) : Met l yX10_date quX10_date ({ frames := 2, cells := 0, slots := 0, locals := 45 }) (va_Pc [.ref h0, .int a1] (pw (dC, dI) vwCl [(h0, .inr (8, [.int y_thrown, .ref m_world, .ref m_images, .ref m_hasImage, .ref m_luck, .ref m_tape, .int y_taped, .ref m_five, .int y_size, .int y_at, .int y_from, .int y_token, .int y_value, .int y_faultKind, .int y_faultPlace, .ref m_fresh, .ref m_waits, .int y_waiting, .int y_open, .int y_joined, .ref m_figures, .ref m_pile, .long y_drawn, .ref m_times, .ref m_far, .ref m_queue, .ref m_months, .ref m_ways, .ref m_waysOn, .ref m_many, .ref m_width, .ref m_numbers, .ref m_moving])), (m_months, .inl (cI, 12, .inl monthsF))] [(cI, .int)])) (vp_Si (fun r => r = dte a1)) 0 0 (fun _ => False) := by
  refine Met.ofW (cc := cX10_date) (maxL := 2) (ret := (some .int)) (by decide) rfl ?_
  intro p e s m args below meth c s₁ B hml hv
  obtain ⟨rfl, hP, hK, hN⟩ := hv
  have hx := B.exec
  have hb := B.bytes
  have hr := B.returns
  have hts := atoms_spec (ws := quX10_date) B.pre
  have hown : s.vm.findClass RX10 = some m.cls := findClass_of_methodNamed B.named
  have hlocks := B.notSynchronized
  have hl := lv_entry ([.ref h0, .int a1]) (n := 2) (Nat.le_of_ble_eq_true rfl)
  rw [lg_entry_eq]
  generalize (lg_sl ([.ref h0, .int a1]) ++ List.replicate (2 - (lg_sl ([.ref h0, .int a1])).length) Slot.unset).toArray = ls at hl ⊢
  have hl : lv_has ls 2 [(0, .ref h0), (1, .int a1)] := hl
  refine lv_iload_n hx hb dX10_date_0 rfl (lv_at hl 1 rfl) ?_
  refine vp_callSi (W.runS (As := [.int a1]) (rest := []) ⟨hx, hb, hml, hown, hts⟩ (qkX10_isDay l dC dI a1) (va_cwS 1 hts qgX10_date__X10_isDay_S444 rfl rfl rfl (by decide +kernel) ⟨lel 2 2 rfl, lel 45 45 rfl⟩) ⟨pn_fb, pn_use⟩ rfl rfl hl.1 rfl (lv_room (Nat.le_of_ble_eq_true rfl)) dX10_date_1 ⟨lel 0 0 rfl, lel 0 0 rfl⟩) (fun r_1 hr_1 => ?_)
  refine lv_if_eq (tgt := 15) hx hb dX10_date_4 (by decide) (fun c_2 => ?_) (fun c_2 => ?_)
  ·
    refine lv_bipush (v := (-2)) hx hb dX10_date_15 (by decide) ?_
    exact W.iret (v := (-2)) hx hb hr (fun t ht hW => ⟨(-2), rfl, dte_0 (hr_1.symm.trans c_2), ht⟩) t_nil dX10_date_17
  ·
    obtain ⟨d, hd1, hd2, rfl⟩ := wi_rg (k := 365) (by decide) (by decide) (fun e => c_2 (hr_1.trans e))
    refine lv_aload_n hx hb dX10_date_7 rfl (lv_at hl 0 rfl) ?_
    refine lv_iload_n hx hb dX10_date_8 rfl (lv_at hl 1 rfl) ?_
    refine vp_callSi (W.runV (As := [.int (nI d)]) (rest := []) ⟨hx, hb, hml, hown, hts⟩ (qkX10_dateOf l dC dI h0 m_world m_images m_hasImage m_luck m_tape m_five m_fresh m_waits m_figures m_pile m_times m_far m_queue m_months m_ways m_waysOn m_many m_width m_numbers m_moving y_thrown y_taped y_size y_at y_from y_token y_value y_faultKind y_faultPlace y_waiting y_open y_joined y_drawn cI d (by omega) (by omega)) (cwV 1 hts qgX10_date__X10_dateOf_V447 rfl rfl rfl (by decide +kernel) ⟨lel 1 2 rfl, lel 23 45 rfl⟩) ⟨pw_fb, va_recv hK hP (ci := 8) (q0 := 0) rfl rfl, (pw_use hP hK hN [0, 1] rfl [0] rfl)⟩ rfl rfl hl.1 rfl (lv_room (Nat.le_of_ble_eq_true rfl)) dX10_date_9 ⟨lel 0 0 rfl, lel 0 0 rfl⟩) (fun r_3 hr_3 => ?_)
    obtain rfl : r_3 = (nI (dt d)) := hr_3
    refine lv_goto (tgt := 17) hx hb dX10_date_12 (by decide) ?_
    exact W.iret (v := (nI (dt d))) hx hb hr (fun t ht hW => ⟨(nI (dt d)), rfl, dte_1 (fun e => c_2 (hr_1.trans e)) hd2, ht⟩) t_nil dX10_date_17
theorem dX10_days_0 : decode cX10_days 0 = .ok (.iload_n 1, 1) := by decide +kernel
theorem dX10_days_1 : decode cX10_days 1 = .ok (.invokestatic 444, 3) := by decide +kernel
theorem dX10_days_4 : decode cX10_days 4 = .ok (.ifCond .ne 6, 3) := by decide +kernel
theorem dX10_days_7 : decode cX10_days 7 = .ok (.bipush (-2), 2) := by decide +kernel
theorem dX10_days_9 : decode cX10_days 9 = .ok (.ireturn, 1) := by decide +kernel
theorem dX10_days_10 : decode cX10_days 10 = .ok (.iconst 1, 1) := by decide +kernel
theorem dX10_days_11 : decode cX10_days 11 = .ok (.istore_n 2, 1) := by decide +kernel
theorem dX10_days_12 : decode cX10_days 12 = .ok (.aload_n 0, 1) := by decide +kernel
theorem dX10_days_13 : decode cX10_days 13 = .ok (.iload_n 1, 1) := by decide +kernel
theorem dX10_days_14 : decode cX10_days 14 = .ok (.iconst 1, 1) := by decide +kernel
theorem dX10_days_15 : decode cX10_days 15 = .ok (.isub, 1) := by decide +kernel
theorem dX10_days_16 : decode cX10_days 16 = .ok (.iload_n 2, 1) := by decide +kernel
theorem dX10_days_17 : decode cX10_days 17 = .ok (.iadd, 1) := by decide +kernel
theorem dX10_days_18 : decode cX10_days 18 = .ok (.sipush 365, 3) := by decide +kernel
theorem dX10_days_21 : decode cX10_days 21 = .ok (.irem, 1) := by decide +kernel
theorem dX10_days_22 : decode cX10_days 22 = .ok (.iconst 1, 1) := by decide +kernel
theorem dX10_days_23 : decode cX10_days 23 = .ok (.iadd, 1) := by decide +kernel
theorem dX10_days_24 : decode cX10_days 24 = .ok (.invokevirtual 447, 3) := by decide +kernel
theorem dX10_days_27 : decode cX10_days 27 = .ok (.invokestatic 450, 3) := by decide +kernel
theorem dX10_days_30 : decode cX10_days 30 = .ok (.ifCond .ne 9, 3) := by decide +kernel
theorem dX10_days_33 : decode cX10_days 33 = .ok (.iinc 2 1, 3) := by decide +kernel
theorem dX10_days_36 : decode cX10_days 36 = .ok (.goto (-24), 3) := by decide +kernel
theorem dX10_days_39 : decode cX10_days 39 = .ok (.iload_n 2, 1) := by decide +kernel
theorem dX10_days_40 : decode cX10_days 40 = .ok (.ireturn, 1) := by decide +kernel
def quX10_days : List Cond := List.cons (.code yX10_days cX10_days 3 (some .int)) (HAppend.hAppend ([.methodLink RX10 444 yX10_isDay, .static yX10_isDay, .initialized RX10, .code yX10_isDay cX10_isDay 1 (some .boolean), .constantLong RX10 442 (365), .methodLink RX10 82 yX10_in, .static yX10_in, .code yX10_in cX10_in 6 (some .boolean), .methodLink RX10 447 yX10_dateOf, .instanceMethod yX10_dateOf, .selects RX10 yX10_dateOf yX10_dateOf, .code yX10_dateOf cX10_dateOf 4 (some .int), .fieldLink RX10 55 "LuckyTicketModel" "months" "[I", .methodLink RX10 450 yX10_isLuckyDate, .static yX10_isLuckyDate, .code yX10_isLuckyDate cX10_isLuckyDate 1 (some .boolean)] : List Cond) wsX100)
theorem qiX10_days_X10 : ∀ w ∈ wsX100, w ∈ quX10_days := fun _ h => List.mem_cons_of_mem _ (List.mem_append_right _ h)
set_option maxRecDepth 20000 in
theorem qgX10_days__X10_isDay_S444 : GoodIn quX10_days (va_wsS RX10 444 yX10_isDay quX10_isDay) := goodIn_p _ [4, 8] rfl (by decide +kernel)
set_option maxRecDepth 20000 in
theorem qgX10_days__X10_dateOf_V447 : GoodIn quX10_days (wsV RX10 447 RX10 yX10_dateOf quX10_dateOf) := goodIn_p _ [12] rfl (by decide +kernel)
set_option maxRecDepth 20000 in
theorem qgX10_days__X10_isLuckyDate_S450 : GoodIn quX10_days (va_wsS RX10 450 yX10_isLuckyDate quX10_isLuckyDate) := goodIn_p _ [16] rfl (by decide +kernel)
set_option maxHeartbeats 4000000 in
set_option maxRecDepth 100000 in
theorem qkX10_days (l : Launch) (dC : Nat → ClassId) (dI : Nat → Nat → Nat) (h0 : Nat) (m_world : Nat) (m_images : Nat) (m_hasImage : Nat) (m_luck : Nat) (m_tape : Nat) (m_five : Nat) (m_fresh : Nat) (m_waits : Nat) (m_figures : Nat) (m_pile : Nat) (m_times : Nat) (m_far : Nat) (m_queue : Nat) (m_months : Nat) (m_ways : Nat) (m_waysOn : Nat) (m_many : Nat) (m_width : Nat) (m_numbers : Nat) (m_moving : Nat) (y_thrown : Int32) (y_taped : Int32) (y_size : Int32) (y_at : Int32) (y_from : Int32) (y_token : Int32) (y_value : Int32) (y_faultKind : Int32) (y_faultPlace : Int32) (y_waiting : Int32) (y_open : Int32) (y_joined : Int32) (y_drawn : Int64) (cI : ClassId) (a1 : Int32) : Met l yX10_days quX10_days ({ frames := 2, cells := 0, slots := 0, locals := 45 }) (va_Pc [.ref h0, .int a1] (pw (dC, dI) vwCl [(h0, .inr (8, [.int y_thrown, .ref m_world, .ref m_images, .ref m_hasImage, .ref m_luck, .ref m_tape, .int y_taped, .ref m_five, .int y_size, .int y_at, .int y_from, .int y_token, .int y_value, .int y_faultKind, .int y_faultPlace, .ref m_fresh, .ref m_waits, .int y_waiting, .int y_open, .int y_joined, .ref m_figures, .ref m_pile, .long y_drawn, .ref m_times, .ref m_far, .ref m_queue, .ref m_months, .ref m_ways, .ref m_waysOn, .ref m_many, .ref m_width, .ref m_numbers, .ref m_moving])), (m_months, .inl (cI, 12, .inl monthsF))] [(cI, .int)])) (vp_Si (fun r => dq a1 r)) 0 0 (fun _ => False) := by
  refine Met.ofW (cc := cX10_days) (maxL := 3) (ret := (some .int)) (by decide) rfl ?_
  intro p e s m args below meth c s₁ B hml hv
  obtain ⟨rfl, hP, hK, hN⟩ := hv
  have hx := B.exec
  have hb := B.bytes
  have hr := B.returns
  have hts := atoms_spec (ws := quX10_days) B.pre
  have hown : s.vm.findClass RX10 = some m.cls := findClass_of_methodNamed B.named
  have hlocks := B.notSynchronized
  have hl := lv_entry ([.ref h0, .int a1]) (n := 3) (Nat.le_of_ble_eq_true rfl)
  rw [lg_entry_eq]
  generalize (lg_sl ([.ref h0, .int a1]) ++ List.replicate (3 - (lg_sl ([.ref h0, .int a1])).length) Slot.unset).toArray = ls at hl ⊢
  have hl : lv_has ls 3 [(0, .ref h0), (1, .int a1)] := hl
  refine lv_iload_n hx hb dX10_days_0 rfl (lv_at hl 1 rfl) ?_
  refine vp_callSi (W.runS (As := [.int a1]) (rest := []) ⟨hx, hb, hml, hown, hts⟩ (qkX10_isDay l dC dI a1) (va_cwS 1 hts qgX10_days__X10_isDay_S444 rfl rfl rfl (by decide +kernel) ⟨lel 2 2 rfl, lel 45 45 rfl⟩) ⟨pn_fb, pn_use⟩ rfl rfl hl.1 rfl (lv_room (Nat.le_of_ble_eq_true rfl)) dX10_days_1 ⟨lel 0 0 rfl, lel 0 0 rfl⟩) (fun r_1 hr_1 => ?_)
  refine lv_if_ne (tgt := 10) hx hb dX10_days_4 (by decide) (fun c_2 => ?_) (fun c_2 => ?_)
  ·
    obtain ⟨d, hd1, hd2, rfl⟩ := wi_rg (k := 365) (by decide) (by decide) (fun e => c_2 (hr_1.trans e))
    refine lv_iconst (v := 1) hx hb dX10_days_10 (by decide) ?_
    refine lv_istore_n (lv' := [(2, .int 1), (0, .ref h0), (1, .int (nI d))]) hx hb dX10_days_11 rfl hl (by decide) rfl (fun ls hl => ?_)
    refine loopP (σ := Nat) (fun v => 367 - v) (fun v ls => (1 ≤ v ∧ v ≤ 366) ∧ (∀ n, 1 ≤ n → n < v → ld (dt (nxt d n)) = false) ∧ lv_has ls 3 [(2, .int (nI v)), (0, .ref h0), (1, .int (nI d))]) (fun v ls hI ih_12 => ?_) 1 ⟨(show 1 ≤ 1 ∧ 1 ≤ 366 from (by decide)), (show ∀ n, 1 ≤ n → n < 1 → ld (dt (nxt d n)) = false from (fun n h1 h2 => absurd h1 (by omega))), hl⟩
    obtain ⟨b, rfl⟩ : ∃ z, z = v := ⟨_, rfl⟩
    obtain ⟨hb1, hno, hl⟩ := hI
    have hb1 : 1 ≤ b ∧ b ≤ 366 := hb1
    have hno : ∀ n, 1 ≤ n → n < b → ld (dt (nxt d n)) = false := hno
    have hl : lv_has ls 3 [(2, .int (nI b)), (0, .ref h0), (1, .int (nI d))] := hl
    have hb1a := hb1.1
    have hb1b : b ≤ 365 := by
      rcases Nat.lt_or_ge b 366 with q | q
      · omega
      · exact (day_no hd1 hd2 q hno).elim
    have hny := nx_le d b
    have hny1 := hny.1
    have hny2 := hny.2
    refine lv_aload_n hx hb dX10_days_12 rfl (lv_at hl 1 rfl) ?_
    refine lv_iload_n hx hb dX10_days_13 rfl (lv_at hl 2 rfl) ?_
    refine lv_iconst (v := 1) hx hb dX10_days_14 (by decide) ?_
    refine lv_isub hx hb dX10_days_15 ?_
    refine lv_topi (fun z_3 ez_3 => ?_)
    obtain rfl : z_3 = nI (d - 1) := ez_3.trans (pk_sub (a := d) (b := 1) (by omega))
    refine lv_iload_n hx hb dX10_days_16 rfl (lv_at hl 0 rfl) ?_
    refine lv_iadd hx hb dX10_days_17 ?_
    refine lv_topi (fun z_4 ez_4 => ?_)
    obtain rfl : z_4 = nI ((d - 1) + b) := ez_4.trans (nI_add (d - 1) b)
    refine lv_sipush (v := 365) hx hb dX10_days_18 (by decide) ?_
    refine lv_irem hx hb dX10_days_21 (by decide) ?_
    refine lv_topi (fun z_5 ez_5 => ?_)
    obtain rfl : z_5 = nI (((d - 1) + b) % 365) := ez_5.trans (pk_rem (a := (d - 1) + b) (d := 365) (by omega) (by omega) (by omega))
    refine lv_iconst (v := 1) hx hb dX10_days_22 (by decide) ?_
    refine lv_iadd hx hb dX10_days_23 ?_
    refine lv_topi (fun z_6 ez_6 => ?_)
    obtain rfl : z_6 = nI ((((d - 1) + b) % 365) + 1) := ez_6.trans (nI_add (((d - 1) + b) % 365) 1)
    refine W.eq (g2 := F0 m 24 ls [.int (nI (nxt d b)), .ref h0]) rfl ?_
    refine vp_callSi (W.runV (As := [.int (nI (nxt d b))]) (rest := []) ⟨hx, hb, hml, hown, hts⟩ (qkX10_dateOf l dC dI h0 m_world m_images m_hasImage m_luck m_tape m_five m_fresh m_waits m_figures m_pile m_times m_far m_queue m_months m_ways m_waysOn m_many m_width m_numbers m_moving y_thrown y_taped y_size y_at y_from y_token y_value y_faultKind y_faultPlace y_waiting y_open y_joined y_drawn cI (nxt d b) (by omega) (by omega)) (cwV 1 hts qgX10_days__X10_dateOf_V447 rfl rfl rfl (by decide +kernel) ⟨lel 1 2 rfl, lel 23 45 rfl⟩) ⟨pw_fb, va_recv hK hP (ci := 8) (q0 := 0) rfl rfl, (pw_use hP hK hN [0, 1] rfl [0] rfl)⟩ rfl rfl hl.1 rfl (lv_room (Nat.le_of_ble_eq_true rfl)) dX10_days_24 ⟨lel 0 0 rfl, lel 0 0 rfl⟩) (fun r_7 hr_7 => ?_)
    obtain rfl : r_7 = (nI (dt (nxt d b))) := hr_7
    refine vp_callSi (W.runS (As := [.int (nI (dt (nxt d b)))]) (rest := []) ⟨hx, hb, hml, hown, hts⟩ (qkX10_isLuckyDate l dC dI (dt (nxt d b)) (by first | omega | exact dt_lt _ (by omega))) (va_cwS 1 hts qgX10_days__X10_isLuckyDate_S450 rfl rfl rfl (by decide +kernel) ⟨lel 1 2 rfl, lel 20 45 rfl⟩) ⟨pn_fb, pn_use⟩ rfl rfl hl.1 rfl (lv_room (Nat.le_of_ble_eq_true rfl)) dX10_days_27 ⟨lel 0 0 rfl, lel 0 0 rfl⟩) (fun r_8 hr_8 => ?_)
    obtain rfl : r_8 = (lb (dt (nxt d b))) := hr_8
    refine lv_if_ne (tgt := 39) hx hb dX10_days_30 (by decide) (fun c_9 => ?_) (fun c_9 => ?_)
    ·
      refine lv_iload_n hx hb dX10_days_39 rfl (lv_at hl 0 rfl) ?_
      exact W.iret (v := (nI b)) hx hb hr (fun t ht hW => ⟨(nI b), rfl, dq_1 (fun e => c_2 (hr_1.trans e)) hd2 ⟨b, rfl, hb1a, lb_1 c_9, hno⟩, ht⟩) t_nil dX10_days_40
    ·
      obtain ⟨z_10, ez_10⟩ : ∃ y : Int32, y = nI b + 1 := ⟨_, rfl⟩
      refine lv_iinc (v := z_10) (lv' := [(2, .int z_10), (0, .ref h0), (1, .int (nI d))]) hx hb dX10_days_33 hl (k := 0) rfl (by rw [ez_10]; rfl) (by decide) rfl (fun ls hl => ?_)
      obtain rfl : z_10 = nI (b + 1) := ez_10.trans (nI_add b 1)
      refine lv_goto (tgt := 12) hx hb dX10_days_36 (by decide) ?_
      exact ih_12 (b + 1) _ ⟨(show 1 ≤ (b + 1) ∧ (b + 1) ≤ 366 from (by have := day_no hd1 hd2 (b := b + 1); exact ⟨by omega, by rcases Nat.lt_or_ge (b + 1) 367 with q | q; exact Nat.le_of_lt_succ q; exact (day_no hd1 hd2 (b := b) (by omega) hno).elim⟩)), (show ∀ n, 1 ≤ n → n < (b + 1) → ld (dt (nxt d n)) = false from no_s hno (lb_0 c_9)), lv_sub hl [0, 1, 2] rfl⟩ (show 367 - (b + 1) < 367 - b by omega)
  ·
    refine lv_bipush (v := (-2)) hx hb dX10_days_7 (by decide) ?_
    exact W.iret (v := (-2)) hx hb hr (fun t ht hW => ⟨(-2), rfl, dq_0 (hr_1.symm.trans c_2), ht⟩) t_nil dX10_days_9
theorem dX10_month_0 : decode cX10_month 0 = .ok (.iload_n 1, 1) := by decide +kernel
theorem dX10_month_1 : decode cX10_month 1 = .ok (.i2l, 1) := by decide +kernel
theorem dX10_month_2 : decode cX10_month 2 = .ok (.lconst 1, 1) := by decide +kernel
theorem dX10_month_3 : decode cX10_month 3 = .ok (.ldc2_w 453, 3) := by decide +kernel
theorem dX10_month_6 : decode cX10_month 6 = .ok (.invokestatic 82, 3) := by decide +kernel
theorem dX10_month_9 : decode cX10_month 9 = .ok (.ifCond .ne 6, 3) := by decide +kernel
theorem dX10_month_12 : decode cX10_month 12 = .ok (.bipush (-2), 2) := by decide +kernel
theorem dX10_month_14 : decode cX10_month 14 = .ok (.ireturn, 1) := by decide +kernel
theorem dX10_month_15 : decode cX10_month 15 = .ok (.iconst 0, 1) := by decide +kernel
theorem dX10_month_16 : decode cX10_month 16 = .ok (.istore_n 2, 1) := by decide +kernel
theorem dX10_month_17 : decode cX10_month 17 = .ok (.iconst 1, 1) := by decide +kernel
theorem dX10_month_18 : decode cX10_month 18 = .ok (.istore_n 3, 1) := by decide +kernel
theorem dX10_month_19 : decode cX10_month 19 = .ok (.iload_n 3, 1) := by decide +kernel
theorem dX10_month_20 : decode cX10_month 20 = .ok (.aload_n 0, 1) := by decide +kernel
theorem dX10_month_21 : decode cX10_month 21 = .ok (.getfield 55, 3) := by decide +kernel
theorem dX10_month_24 : decode cX10_month 24 = .ok (.iload_n 1, 1) := by decide +kernel
theorem dX10_month_25 : decode cX10_month 25 = .ok (.iconst 1, 1) := by decide +kernel
theorem dX10_month_26 : decode cX10_month 26 = .ok (.isub, 1) := by decide +kernel
theorem dX10_month_27 : decode cX10_month 27 = .ok (.iaload, 1) := by decide +kernel
theorem dX10_month_28 : decode cX10_month 28 = .ok (.if_icmp .gt 29, 3) := by decide +kernel
theorem dX10_month_31 : decode cX10_month 31 = .ok (.iload_n 2, 1) := by decide +kernel
theorem dX10_month_32 : decode cX10_month 32 = .ok (.bipush 100, 2) := by decide +kernel
theorem dX10_month_34 : decode cX10_month 34 = .ok (.iload_n 3, 1) := by decide +kernel
theorem dX10_month_35 : decode cX10_month 35 = .ok (.imul, 1) := by decide +kernel
theorem dX10_month_36 : decode cX10_month 36 = .ok (.iload_n 1, 1) := by decide +kernel
theorem dX10_month_37 : decode cX10_month 37 = .ok (.iadd, 1) := by decide +kernel
theorem dX10_month_38 : decode cX10_month 38 = .ok (.invokestatic 450, 3) := by decide +kernel
theorem dX10_month_41 : decode cX10_month 41 = .ok (.ifCond .eq 7, 3) := by decide +kernel
theorem dX10_month_44 : decode cX10_month 44 = .ok (.iconst 1, 1) := by decide +kernel
theorem dX10_month_45 : decode cX10_month 45 = .ok (.goto 4, 3) := by decide +kernel
theorem dX10_month_48 : decode cX10_month 48 = .ok (.iconst 0, 1) := by decide +kernel
theorem dX10_month_49 : decode cX10_month 49 = .ok (.iadd, 1) := by decide +kernel
theorem dX10_month_50 : decode cX10_month 50 = .ok (.istore_n 2, 1) := by decide +kernel
theorem dX10_month_51 : decode cX10_month 51 = .ok (.iinc 3 1, 3) := by decide +kernel
theorem dX10_month_54 : decode cX10_month 54 = .ok (.goto (-35), 3) := by decide +kernel
theorem dX10_month_57 : decode cX10_month 57 = .ok (.iload_n 2, 1) := by decide +kernel
theorem dX10_month_58 : decode cX10_month 58 = .ok (.ireturn, 1) := by decide +kernel
def quX10_month : List Cond := List.cons (.code yX10_month cX10_month 4 (some .int)) (HAppend.hAppend ([.constantLong RX10 453 (12), .methodLink RX10 82 yX10_in, .static yX10_in, .initialized RX10, .code yX10_in cX10_in 6 (some .boolean), .fieldLink RX10 55 "LuckyTicketModel" "months" "[I", .methodLink RX10 450 yX10_isLuckyDate, .static yX10_isLuckyDate, .code yX10_isLuckyDate cX10_isLuckyDate 1 (some .boolean)] : List Cond) wsX100)
theorem qiX10_month_X10 : ∀ w ∈ wsX100, w ∈ quX10_month := fun _ h => List.mem_cons_of_mem _ (List.mem_append_right _ h)
set_option maxRecDepth 20000 in
theorem qgX10_month__X10_in_S82 : GoodIn quX10_month (va_wsS RX10 82 yX10_in quX10_in) := goodIn_p _ [5] rfl (by decide +kernel)
set_option maxRecDepth 20000 in
theorem qgX10_month__X10_isLuckyDate_S450 : GoodIn quX10_month (va_wsS RX10 450 yX10_isLuckyDate quX10_isLuckyDate) := goodIn_p _ [9] rfl (by decide +kernel)
set_option maxHeartbeats 4000000 in
set_option maxRecDepth 100000 in
theorem qkX10_month (l : Launch) (dC : Nat → ClassId) (dI : Nat → Nat → Nat) (h0 : Nat) (m_world : Nat) (m_images : Nat) (m_hasImage : Nat) (m_luck : Nat) (m_tape : Nat) (m_five : Nat) (m_fresh : Nat) (m_waits : Nat) (m_figures : Nat) (m_pile : Nat) (m_times : Nat) (m_far : Nat) (m_queue : Nat) (m_months : Nat) (m_ways : Nat) (m_waysOn : Nat) (m_many : Nat) (m_width : Nat) (m_numbers : Nat) (m_moving : Nat) (y_thrown : Int32) (y_taped : Int32) (y_size : Int32) (y_at : Int32) (y_from : Int32) (y_token : Int32) (y_value : Int32) (y_faultKind : Int32) (y_faultPlace : Int32) (y_waiting : Int32) (y_open : Int32) (y_joined : Int32) (y_drawn : Int64) (cI : ClassId) (a1 : Int32) : Met l yX10_month quX10_month ({ frames := 1, cells := 0, slots := 0, locals := 25 }) (va_Pc [.ref h0, .int a1] (pw (dC, dI) vwCl [(h0, .inr (8, [.int y_thrown, .ref m_world, .ref m_images, .ref m_hasImage, .ref m_luck, .ref m_tape, .int y_taped, .ref m_five, .int y_size, .int y_at, .int y_from, .int y_token, .int y_value, .int y_faultKind, .int y_faultPlace, .ref m_fresh, .ref m_waits, .int y_waiting, .int y_open, .int y_joined, .ref m_figures, .ref m_pile, .long y_drawn, .ref m_times, .ref m_far, .ref m_queue, .ref m_months, .ref m_ways, .ref m_waysOn, .ref m_many, .ref m_width, .ref m_numbers, .ref m_moving])), (m_months, .inl (cI, 12, .inl monthsF))] [(cI, .int)])) (vp_Si (fun r => r = mth a1)) 0 0 (fun _ => False) := by
  refine Met.ofW (cc := cX10_month) (maxL := 4) (ret := (some .int)) (by decide) rfl ?_
  intro p e s m args below meth c s₁ B hml hv
  obtain ⟨rfl, hP, hK, hN⟩ := hv
  have hx := B.exec
  have hb := B.bytes
  have hr := B.returns
  have hts := atoms_spec (ws := quX10_month) B.pre
  have hown : s.vm.findClass RX10 = some m.cls := findClass_of_methodNamed B.named
  have hlocks := B.notSynchronized
  have hl := lv_entry ([.ref h0, .int a1]) (n := 4) (Nat.le_of_ble_eq_true rfl)
  rw [lg_entry_eq]
  generalize (lg_sl ([.ref h0, .int a1]) ++ List.replicate (4 - (lg_sl ([.ref h0, .int a1])).length) Slot.unset).toArray = ls at hl ⊢
  have hl : lv_has ls 4 [(0, .ref h0), (1, .int a1)] := hl
  refine lv_iload_n hx hb dX10_month_0 rfl (lv_at hl 1 rfl) ?_
  refine lv_i2l (v := a1.toInt64) hx hb dX10_month_1 rfl ?_
  refine lv_lconst (v := 1) hx hb dX10_month_2 (by decide) ?_
  refine lv_ldc2 (v := 12) hx hb hown (hts (.constantLong RX10 453 (12)) (List.mem_of_getElem? (i := 1) rfl)) dX10_month_3 ?_
  refine vp_callSi (W.runS (As := [.long a1.toInt64, .long 1, .long 12]) (rest := []) ⟨hx, hb, hml, hown, hts⟩ (qkX10_in l dC dI a1.toInt64 1 12) (va_cwS 3 hts qgX10_month__X10_in_S82 rfl rfl rfl (by decide +kernel) ⟨lel 1 1 rfl, lel 25 25 rfl⟩) ⟨pn_fb, pn_use⟩ rfl rfl hl.1 rfl (lv_room (Nat.le_of_ble_eq_true rfl)) dX10_month_6 ⟨lel 0 0 rfl, lel 0 0 rfl⟩) (fun r_1 hr_1 => ?_)
  refine lv_if_ne (tgt := 15) hx hb dX10_month_9 (by decide) (fun c_2 => ?_) (fun c_2 => ?_)
  ·
    obtain ⟨mm, hm, rfl⟩ := wi_mo (fun e => c_2 (hr_1.trans ((inr_wi a1 1 12).trans e)))
    have hmo := mo_le mm hm
    refine lv_iconst (v := 0) hx hb dX10_month_15 (by decide) ?_
    refine lv_istore_n (lv' := [(2, .int 0), (0, .ref h0), (1, .int (nI (mm + 1)))]) hx hb dX10_month_16 rfl hl (by decide) rfl (fun ls hl => ?_)
    refine lv_iconst (v := 1) hx hb dX10_month_17 (by decide) ?_
    refine lv_istore_n (lv' := [(3, .int 1), (2, .int 0), (0, .ref h0), (1, .int (nI (mm + 1)))]) hx hb dX10_month_18 rfl hl (by decide) rfl (fun ls hl => ?_)
    refine loopP (σ := Nat) (fun v => 40 - v) (fun v ls => (v ≤ mo mm) ∧ lv_has ls 4 [(3, .int (nI (v + 1))), (2, .int (nI (mcn (mm + 1) v))), (0, .ref h0), (1, .int (nI (mm + 1)))]) (fun v ls hI ih_19 => ?_) 0 ⟨(show 0 ≤ mo mm from Nat.zero_le _), hl⟩
    obtain ⟨k, rfl⟩ : ∃ z, z = v := ⟨_, rfl⟩
    obtain ⟨hk, hl⟩ := hI
    have hk : k ≤ mo mm := hk
    have hl : lv_has ls 4 [(3, .int (nI (k + 1))), (2, .int (nI (mcn (mm + 1) k))), (0, .ref h0), (1, .int (nI (mm + 1)))] := hl
    refine lv_iload_n hx hb dX10_month_19 rfl (lv_at hl 0 rfl) ?_
    refine lv_aload_n hx hb dX10_month_20 rfl (lv_at hl 2 rfl) ?_
    refine va_get (D := (dC, dI)) (ci := 8) (v := .ref m_months) (C := RX10) (T := TX10) (N := 33) hx hb hts qiX10_month_X10 hown hK hP 0 rfl rfl 26 (by decide) (hts (.fieldLink RX10 55 "LuckyTicketModel" "months" "[I") (List.mem_of_getElem? (i := 6) rfl)) (fun _ h9 => h9) rfl dX10_month_21 ?_
    refine lv_iload_n hx hb dX10_month_24 rfl (lv_at hl 3 rfl) ?_
    refine lv_iconst (v := 1) hx hb dX10_month_25 (by decide) ?_
    refine lv_isub hx hb dX10_month_26 ?_
    refine lv_topi (fun z_3 ez_3 => ?_)
    obtain rfl : z_3 = nI ((mm + 1) - 1) := ez_3.trans (pk_sub (a := mm + 1) (b := 1) (by omega))
    refine W.eq (g2 := F0 m 27 ls [.int (nI mm), .ref m_months, .int (nI (k + 1))]) rfl ?_
    refine va_iald hx hb hK hP 1 0 rfl rfl (vp_in_nI (n := mm) (by omega) (by decide)) dX10_month_27 ?_
    refine lv_topi (fun z_4 ez_4 => ?_)
    obtain rfl : z_4 = nI (mo mm) := ez_4.trans (by rw [nI_clamp (by omega)]; exact monthsF_eq _ (by omega))
    refine lv_icmp_gt (tgt := 57) hx hb dX10_month_28 (by decide) (fun c_5 => ?_) (fun c_5 => ?_)
    ·
      have nc_5 : mo mm < k + 1 := (nI_ltI (a := mo mm) (b := k + 1) (by omega) (by omega)).mp c_5
      refine lv_iload_n hx hb dX10_month_57 rfl (lv_at hl 1 rfl) ?_
      exact W.iret (v := (nI (mcn (mm + 1) k))) hx hb hr (fun t ht hW => ⟨(nI (mcn (mm + 1) k)), rfl, mth_1 (fun e => c_2 (hr_1.trans ((inr_wi _ 1 12).trans e))) hm (by omega), ht⟩) t_nil dX10_month_58
    ·
      have nc_5 : ¬ mo mm < k + 1 := fun q9 => c_5 ((nI_ltI (a := mo mm) (b := k + 1) (by omega) (by omega)).mpr q9)
      refine lv_iload_n hx hb dX10_month_31 rfl (lv_at hl 1 rfl) ?_
      refine lv_bipush (v := 100) hx hb dX10_month_32 (by decide) ?_
      refine lv_iload_n hx hb dX10_month_34 rfl (lv_at hl 0 rfl) ?_
      refine lv_imul hx hb dX10_month_35 ?_
      refine lv_topi (fun z_6 ez_6 => ?_)
      obtain rfl : z_6 = nI (100 * (k + 1)) := ez_6.trans (pk_mul 100 (k + 1))
      refine lv_iload_n hx hb dX10_month_36 rfl (lv_at hl 3 rfl) ?_
      refine lv_iadd hx hb dX10_month_37 ?_
      refine lv_topi (fun z_7 ez_7 => ?_)
      obtain rfl : z_7 = nI ((100 * (k + 1)) + (mm + 1)) := ez_7.trans (nI_add (100 * (k + 1)) (mm + 1))
      refine vp_callSi (W.runS (As := [.int (nI ((100 * (k + 1)) + (mm + 1)))]) (rest := [.int (nI (mcn (mm + 1) k))]) ⟨hx, hb, hml, hown, hts⟩ (qkX10_isLuckyDate l dC dI ((100 * (k + 1)) + (mm + 1)) (by first | omega | exact dt_lt _ (by omega))) (va_cwS 1 hts qgX10_month__X10_isLuckyDate_S450 rfl rfl rfl (by decide +kernel) ⟨lel 1 1 rfl, lel 20 25 rfl⟩) ⟨pn_fb, pn_use⟩ rfl rfl hl.1 rfl (lv_room (Nat.le_of_ble_eq_true rfl)) dX10_month_38 ⟨lel 0 0 rfl, lel 0 0 rfl⟩) (fun r_8 hr_8 => ?_)
      obtain rfl : r_8 = (lb ((100 * (k + 1)) + (mm + 1))) := hr_8
      refine lv_if_eq (tgt := 48) hx hb dX10_month_41 (by decide) (fun c_9 => ?_) (fun c_9 => ?_)
      ·
        refine lv_iconst (v := 0) hx hb dX10_month_48 (by decide) ?_
        refine lv_iadd hx hb dX10_month_49 ?_
        refine lv_topi (fun z_10 ez_10 => ?_)
        obtain rfl : z_10 = nI ((mcn (mm + 1) k) + 0) := ez_10.trans (nI_add (mcn (mm + 1) k) 0)
        refine lv_istore_n (lv' := [(2, .int (nI ((mcn (mm + 1) k) + 0))), (3, .int (nI (k + 1))), (0, .ref h0), (1, .int (nI (mm + 1)))]) hx hb dX10_month_50 rfl hl (by decide) rfl (fun ls hl => ?_)
        obtain ⟨z_11, ez_11⟩ : ∃ y : Int32, y = nI (k + 1) + 1 := ⟨_, rfl⟩
        refine lv_iinc (v := z_11) (lv' := [(3, .int z_11), (2, .int (nI ((mcn (mm + 1) k) + 0))), (0, .ref h0), (1, .int (nI (mm + 1)))]) hx hb dX10_month_51 hl (k := 1) rfl (by rw [ez_11]; rfl) (by decide) rfl (fun ls hl => ?_)
        obtain rfl : z_11 = nI ((k + 1) + 1) := ez_11.trans (nI_add (k + 1) 1)
        refine lv_goto (tgt := 19) hx hb dX10_month_54 (by decide) ?_
        have hl : lv_has ls 4 [(3, .int (nI ((k + 1) + 1))), (2, .int (nI (mcn (mm + 1) (k + 1)))), (0, .ref h0), (1, .int (nI (mm + 1)))] := by rw [mc_0 (lb_0 c_9)]; exact hl
        exact ih_19 (k + 1) _ ⟨(show (k + 1) ≤ mo mm from (by omega)), lv_sub hl [0, 1, 2, 3] rfl⟩ (show 40 - (k + 1) < 40 - k by omega)
      ·
        refine lv_iconst (v := 1) hx hb dX10_month_44 (by decide) ?_
        refine lv_goto (tgt := 49) hx hb dX10_month_45 (by decide) ?_
        refine lv_iadd hx hb dX10_month_49 ?_
        refine lv_topi (fun z_12 ez_12 => ?_)
        obtain rfl : z_12 = nI ((mcn (mm + 1) k) + 1) := ez_12.trans (nI_add (mcn (mm + 1) k) 1)
        refine lv_istore_n (lv' := [(2, .int (nI ((mcn (mm + 1) k) + 1))), (3, .int (nI (k + 1))), (0, .ref h0), (1, .int (nI (mm + 1)))]) hx hb dX10_month_50 rfl hl (by decide) rfl (fun ls hl => ?_)
        obtain ⟨z_13, ez_13⟩ : ∃ y : Int32, y = nI (k + 1) + 1 := ⟨_, rfl⟩
        refine lv_iinc (v := z_13) (lv' := [(3, .int z_13), (2, .int (nI ((mcn (mm + 1) k) + 1))), (0, .ref h0), (1, .int (nI (mm + 1)))]) hx hb dX10_month_51 hl (k := 1) rfl (by rw [ez_13]; rfl) (by decide) rfl (fun ls hl => ?_)
        obtain rfl : z_13 = nI ((k + 1) + 1) := ez_13.trans (nI_add (k + 1) 1)
        refine lv_goto (tgt := 19) hx hb dX10_month_54 (by decide) ?_
        have hl : lv_has ls 4 [(3, .int (nI ((k + 1) + 1))), (2, .int (nI (mcn (mm + 1) (k + 1)))), (0, .ref h0), (1, .int (nI (mm + 1)))] := by rw [mc_1 (lb_1 c_9)]; exact hl
        exact ih_19 (k + 1) _ ⟨(show (k + 1) ≤ mo mm from (by omega)), lv_sub hl [0, 1, 2, 3] rfl⟩ (show 40 - (k + 1) < 40 - k by omega)
  ·
    refine lv_bipush (v := (-2)) hx hb dX10_month_12 (by decide) ?_
    exact W.iret (v := (-2)) hx hb hr (fun t ht hW => ⟨(-2), rfl, mth_0 ((inr_wi a1 1 12).symm.trans (hr_1.symm.trans c_2)), ht⟩) t_nil dX10_month_14

