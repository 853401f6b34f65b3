theorem dX9_hits_0 : decode cX9_hits 0 = .ok (.aload_n 0, 1) := by decide +kernel
theorem dX9_hits_1 : decode cX9_hits 1 = .ok (.iload_n 1, 1) := by decide +kernel
theorem dX9_hits_2 : decode cX9_hits 2 = .ok (.iload_n 2, 1) := by decide +kernel
theorem dX9_hits_3 : decode cX9_hits 3 = .ok (.invokevirtual 137, 3) := by decide +kernel
theorem dX9_hits_6 : decode cX9_hits 6 = .ok (.ifCond .eq 22, 3) := by decide +kernel
theorem dX9_hits_9 : decode cX9_hits 9 = .ok (.iload_n 3, 1) := by decide +kernel
theorem dX9_hits_10 : decode cX9_hits 10 = .ok (.invokestatic 178, 3) := by decide +kernel
theorem dX9_hits_13 : decode cX9_hits 13 = .ok (.ifCond .eq 15, 3) := by decide +kernel
theorem dX9_hits_16 : decode cX9_hits 16 = .ok (.iload 4, 2) := by decide +kernel
theorem dX9_hits_18 : decode cX9_hits 18 = .ok (.iconst 0, 1) := by decide +kernel
theorem dX9_hits_19 : decode cX9_hits 19 = .ok (.sipush 20000, 3) := by decide +kernel
theorem dX9_hits_22 : decode cX9_hits 22 = .ok (.invokestatic 158, 3) := by decide +kernel
theorem dX9_hits_25 : decode cX9_hits 25 = .ok (.ifCond .ne 6, 3) := by decide +kernel
theorem dX9_hits_28 : decode cX9_hits 28 = .ok (.bipush (-2), 2) := by decide +kernel
theorem dX9_hits_30 : decode cX9_hits 30 = .ok (.ireturn, 1) := by decide +kernel
theorem dX9_hits_31 : decode cX9_hits 31 = .ok (.aload_n 0, 1) := by decide +kernel
theorem dX9_hits_32 : decode cX9_hits 32 = .ok (.getfield 35, 3) := by decide +kernel
theorem dX9_hits_35 : decode cX9_hits 35 = .ok (.iload_n 1, 1) := by decide +kernel
theorem dX9_hits_36 : decode cX9_hits 36 = .ok (.iload_n 2, 1) := by decide +kernel
theorem dX9_hits_37 : decode cX9_hits 37 = .ok (.iload_n 3, 1) := by decide +kernel
theorem dX9_hits_38 : decode cX9_hits 38 = .ok (.iload 4, 2) := by decide +kernel
theorem dX9_hits_40 : decode cX9_hits 40 = .ok (.invokevirtual 184, 3) := by decide +kernel
theorem dX9_hits_43 : decode cX9_hits 43 = .ok (.ireturn, 1) := by decide +kernel
theorem hd_yX9_hits : yX9_hits.cls = RX9 ∧ yX9_hits.cls ≠ "java/lang/invoke/MethodHandle" ∧ yX9_hits.cls ≠ "java/lang/invoke/VarHandle" ∧ (parseMethodDescriptor yX9_hits.desc).map (fun d => d.parameters.length) = some 4 := by decide +kernel
def uX9_hits : List Cond := List.cons (.code yX9_hits cX9_hits 5 (some .int)) (HAppend.hAppend ([.methodLink RX9 137 yX9_hasBoth, .instanceMethod yX9_hasBoth, .selects RX9 yX9_hasBoth yX9_hasBoth, .initialized RX9, .methodLink RX9 178 yX9_isStep, .static yX9_isStep, .methodLink RX9 158 yX9_isWithin, .static yX9_isWithin, .fieldLink RX9 35 "LuckyTicket" "current" "LLuckyTicket$Roll;", .methodLink RX9 184 yX2_tallyBySteps, .instanceMethod yX2_tallyBySteps, .selects RX2 yX2_tallyBySteps yX2_tallyBySteps, .initialized RX2] : List Cond) (HAppend.hAppend uX9_hasBoth (HAppend.hAppend uX9_isStep (HAppend.hAppend uX9_isWithin (HAppend.hAppend uX2_tallyBySteps wsX90)))))
theorem iX9_hits_X9 : ∀ w ∈ wsX90, w ∈ uX9_hits := fun _ h => (List.mem_cons_of_mem _ (List.mem_append_right _ (List.mem_append_right _ (List.mem_append_right _ (List.mem_append_right _ (List.mem_append_right _ h))))))
theorem guX9_hits : GU uX9_hits := gu_cons (gu_app (by decide +kernel) (gu_ap guX9_hasBoth (gu_ap guX9_isStep (gu_ap guX9_isWithin (gu_ap guX2_tallyBySteps gws_X9)))))
theorem gX9_hits__X9_hasBoth_V137 : GoodIn uX9_hits (wsV RX9 137 RX9 yX9_hasBoth uX9_hasBoth) := gin_V (List.mem_of_getElem? (i := 1) rfl) (List.mem_of_getElem? (i := 2) rfl) (List.mem_of_getElem? (i := 3) rfl) (List.mem_of_getElem? (i := 4) rfl) (fun _ h => (List.mem_cons_of_mem _ (List.mem_append_right _ (List.mem_append_left _ h)))) guX9_hasBoth
theorem gX9_hits__X9_isStep_S178 : GoodIn uX9_hits (va_wsS RX9 178 yX9_isStep uX9_isStep) := gin_S (List.mem_of_getElem? (i := 5) rfl) (List.mem_of_getElem? (i := 6) rfl) (List.mem_of_getElem? (i := 4) rfl) (fun _ h => (List.mem_cons_of_mem _ (List.mem_append_right _ (List.mem_append_right _ (List.mem_append_left _ h))))) guX9_isStep
theorem gX9_hits__X9_isWithin_S158 : GoodIn uX9_hits (va_wsS RX9 158 yX9_isWithin uX9_isWithin) := gin_S (List.mem_of_getElem? (i := 7) rfl) (List.mem_of_getElem? (i := 8) rfl) (List.mem_of_getElem? (i := 4) rfl) (fun _ h => (List.mem_cons_of_mem _ (List.mem_append_right _ (List.mem_append_right _ (List.mem_append_right _ (List.mem_append_left _ h)))))) guX9_isWithin
theorem gX9_hits__X2_tallyBySteps_V184 : GoodIn uX9_hits (wsV RX9 184 RX2 yX2_tallyBySteps uX2_tallyBySteps) := gin_V (List.mem_of_getElem? (i := 10) rfl) (List.mem_of_getElem? (i := 11) rfl) (List.mem_of_getElem? (i := 12) rfl) (List.mem_of_getElem? (i := 13) rfl) (fun _ h => (List.mem_cons_of_mem _ (List.mem_append_right _ (List.mem_append_right _ (List.mem_append_right _ (List.mem_append_right _ (List.mem_append_left _ h))))))) guX2_tallyBySteps
set_option maxHeartbeats 4000000 in
set_option maxRecDepth 100000 in
theorem kX9_hits (l : Launch) (dC : Nat → ClassId) (dI : Nat → Nat → Nat) (h0 : Nat) (tp : Nat) (sc : Nat) (rd : Nat) (cu : Nat) (im : Nat) (ig : Nat) (sl : Nat) (se : Nat) (sm : Nat) (fc : Nat) (ln : Int32) (bs : Int32) (tk : Int32) (lw : Int32) (li : Int32) (fa : Nat) (lu : Nat) (cL : ClassId) (nl : Nat) (fl : Nat → Int32) (a1 : Int32) (a2 : Int32) (a3 : Int32) (a4 : Int32) (b_ln : (0 : Int) ≤ ln.toInt ∧ ln.toInt ≤ 12) (b_bs : (0 : Int) ≤ bs.toInt ∧ bs.toInt ≤ 16) (b_tk : (0 : Int) ≤ tk.toInt ∧ tk.toInt ≤ 20000) (b_lw : (0 : Int) ≤ lw.toInt ∧ lw.toInt ≤ 9) (hl1 : tk.toInt ≤ (nl : Int)) : Met l yX9_hits uX9_hits ({ frames := 2, cells := 0, slots := 0, locals := 49 }) (va_Pc [.ref h0, .int a1, .int a2, .int a3, .int a4] (pw (dC, dI) vwCl [(h0, .inr (7, [.ref tp, .ref sc, .ref rd, .ref cu, .ref im, .ref ig, .ref sl, .ref se, .ref sm, .ref fc])), (cu, .inr (1, [.int ln, .int bs, .int tk, .int lw, .int li, .ref fa, .ref lu])), (lu, .inl (cL, nl, .inl fl))] [(cL, .int)])) (vp_Si (fun r => True)) 0 0 (fun _ => False) := by
  refine Met.ofW (cc := cX9_hits) (maxL := 5) (ret := (some .int)) pn_X9 rfl ?_
  intro p e s m args below meth c s₁ B hml hv
  obtain ⟨rfl, hP, hK, hN⟩ := hv
  have hx := B.exec
  have hb := B.bytes
  have hr := B.returns
  have hts := atoms_spec (ws := uX9_hits) B.pre
  have hown : s.vm.findClass RX9 = some m.cls := hown_of B.named rfl
  have hlocks := B.notSynchronized
  have hl := lv_entry ([.ref h0, .int a1, .int a2, .int a3, .int a4]) (n := 5) (Nat.le_of_ble_eq_true rfl)
  rw [lg_entry_eq]
  generalize (lg_sl ([.ref h0, .int a1, .int a2, .int a3, .int a4]) ++ List.replicate (5 - (lg_sl ([.ref h0, .int a1, .int a2, .int a3, .int a4])).length) Slot.unset).toArray = ls at hl ⊢
  have hl : lv_has ls 5 [(0, .ref h0), (1, .int a1), (2, .int a2), (3, .int a3), (4, .int a4)] := hl
  refine lv_aload_n hx hb dX9_hits_0 rfl (lv_at hl 0 rfl) ?_
  refine lv_iload_n hx hb dX9_hits_1 rfl (lv_at hl 1 rfl) ?_
  refine lv_iload_n hx hb dX9_hits_2 rfl (lv_at hl 2 rfl) ?_
  refine vp_callSi (W.runV (As := [.int a1, .int a2]) (rest := []) ⟨hx, hb, hml, hown, hts⟩ (kX9_hasBoth l dC dI h0 tp sc rd cu im ig sl se sm fc ln bs tk lw li fa lu a1 a2 b_ln b_bs b_tk b_lw) (cwV 2 hts gX9_hits__X9_hasBoth_V137 rfl rfl rfl hd_yX9_hasBoth ⟨lel 2 2 rfl, lel 43 49 rfl⟩) ⟨pw_fb, rcv_X9 hK hP (q0 := 0) rfl, (pw_use hP hK hN [0, 1] rfl [] rfl)⟩ rfl rfl hl.1 rfl (lv_room (Nat.le_of_ble_eq_true rfl)) dX9_hits_3 ⟨lel 0 0 rfl, lel 0 0 rfl⟩) (fun r_11 h_r_11 => ?_)
  obtain ⟨b_r_11, nz_r_11⟩ := h_r_11
  have b_r_11 : (0 : Int) ≤ r_11.toInt ∧ r_11.toInt ≤ 1 := b_r_11
  refine lv_if_eq (tgt := 28) hx hb dX9_hits_6 (by decide) (fun c_12 => ?_) (fun c_12 => ?_)
  ·
    have n_c_12 : (r_11.toInt : Int) = 0 := c_eq rfl (by decide) c_12
    have b_r_11 : (0 : Int) ≤ r_11.toInt ∧ r_11.toInt ≤ 0 := r_eq1 b_r_11 (by decide : (0 : Int) ≤ (0 : Int32).toInt ∧ (0 : Int32).toInt ≤ 0) n_c_12 (by decide)
    refine lv_bipush (v := (-2)) hx hb dX9_hits_28 (by decide) ?_
    exact W.iret (v := (-2)) hx hb hr (fun t ht hW => ⟨(-2), rfl, trivial, ht⟩) t_nil dX9_hits_30
  ·
    have n_c_12 : (r_11.toInt : Int) ≠ 0 := c_ne rfl (by decide) c_12
    have b_r_11 : (1 : Int) ≤ r_11.toInt ∧ r_11.toInt ≤ 1 := r_ne1 b_r_11 (by decide : (0 : Int) ≤ (0 : Int32).toInt ∧ (0 : Int32).toInt ≤ 0) n_c_12 (by decide)
    obtain ⟨b_a1, b_a2, g_13⟩ := nz_r_11 c_12
    refine lv_iload_n hx hb dX9_hits_9 rfl (lv_at hl 3 rfl) ?_
    refine vp_callSi (W.runS (As := [.int a3]) (rest := []) ⟨hx, hb, hml, hown, hts⟩ (kX9_isStep l dC dI a3 ) (va_cwS 1 hts gX9_hits__X9_isStep_S178 rfl rfl rfl hd_yX9_isStep.2 ⟨lel 2 2 rfl, lel 42 49 rfl⟩) ⟨pn_fb, pn_use⟩ rfl rfl hl.1 rfl (lv_room (Nat.le_of_ble_eq_true rfl)) dX9_hits_10 ⟨lel 0 0 rfl, lel 0 0 rfl⟩) (fun r_14 h_r_14 => ?_)
    obtain ⟨b_r_14, nz_r_14⟩ := h_r_14
    have b_r_14 : (0 : Int) ≤ r_14.toInt ∧ r_14.toInt ≤ 1 := b_r_14
    refine lv_if_eq (tgt := 28) hx hb dX9_hits_13 (by decide) (fun c_15 => ?_) (fun c_15 => ?_)
    ·
      have n_c_15 : (r_14.toInt : Int) = 0 := c_eq rfl (by decide) c_15
      have b_r_14 : (0 : Int) ≤ r_14.toInt ∧ r_14.toInt ≤ 0 := r_eq1 b_r_14 (by decide : (0 : Int) ≤ (0 : Int32).toInt ∧ (0 : Int32).toInt ≤ 0) n_c_15 (by decide)
      refine lv_bipush (v := (-2)) hx hb dX9_hits_28 (by decide) ?_
      exact W.iret (v := (-2)) hx hb hr (fun t ht hW => ⟨(-2), rfl, trivial, ht⟩) t_nil dX9_hits_30
    ·
      have n_c_15 : (r_14.toInt : Int) ≠ 0 := c_ne rfl (by decide) c_15
      have b_r_14 : (1 : Int) ≤ r_14.toInt ∧ r_14.toInt ≤ 1 := r_ne1 b_r_14 (by decide : (0 : Int) ≤ (0 : Int32).toInt ∧ (0 : Int32).toInt ≤ 0) n_c_15 (by decide)
      obtain ⟨b_a3, g_16⟩ := nz_r_14 c_15
      refine lv_iload hx hb dX9_hits_16 (lv_at hl 4 rfl) ?_
      refine lv_iconst (v := 0) hx hb dX9_hits_18 (by decide) ?_
      refine lv_sipush (v := 20000) hx hb dX9_hits_19 (by decide) ?_
      refine vp_callSi (W.runS (As := [.int a4, .int 0, .int 20000]) (rest := []) ⟨hx, hb, hml, hown, hts⟩ (kX9_isWithin l dC dI a4 0 20000 ) (va_cwS 3 hts gX9_hits__X9_isWithin_S158 rfl rfl rfl hd_yX9_isWithin.2 ⟨lel 1 2 rfl, lel 22 49 rfl⟩) ⟨pn_fb, pn_use⟩ rfl rfl hl.1 rfl (lv_room (Nat.le_of_ble_eq_true rfl)) dX9_hits_22 ⟨lel 0 0 rfl, lel 0 0 rfl⟩) (fun r_17 h_r_17 => ?_)
      obtain ⟨b_r_17, nz_r_17⟩ := h_r_17
      have b_r_17 : (0 : Int) ≤ r_17.toInt ∧ r_17.toInt ≤ 1 := b_r_17
      refine lv_if_ne (tgt := 31) hx hb dX9_hits_25 (by decide) (fun c_18 => ?_) (fun c_18 => ?_)
      ·
        have n_c_18 : (r_17.toInt : Int) ≠ 0 := c_ne rfl (by decide) c_18
        have b_r_17 : (1 : Int) ≤ r_17.toInt ∧ r_17.toInt ≤ 1 := r_ne1 b_r_17 (by decide : (0 : Int) ≤ (0 : Int32).toInt ∧ (0 : Int32).toInt ≤ 0) n_c_18 (by decide)
        have g_19 := nz_r_17 c_18
        have lt0_g_19 := (by decide : (0 : Int32).toInt = 0)
        have lt1_g_19 := (by decide : (20000 : Int32).toInt = 20000)
        have b_a4 : (0 : Int) ≤ a4.toInt ∧ a4.toInt ≤ 20000 := by
          have q0 := (ti_rng a4)
          have q1 := (by decide : (0 : Int) ≤ (0 : Int32).toInt ∧ (0 : Int32).toInt ≤ 0)
          have q2 := (by decide : (20000 : Int) ≤ (20000 : Int32).toInt ∧ (20000 : Int32).toInt ≤ 20000)
          omega
        refine lv_aload_n hx hb dX9_hits_31 rfl (lv_at hl 0 rfl) ?_
        refine va_get (D := (dC, dI)) (ci := 7) (v := .ref cu) (C := RX9) (T := TX9) (N := 10) hx hb hts iX9_hits_X9 hown hK hP 0 rfl rfl 3 (by decide) (hts (.fieldLink RX9 35 "LuckyTicket" "current" "LLuckyTicket$Roll;") (List.mem_of_getElem? (i := 9) rfl)) (fun _ h9 => h9) rfl dX9_hits_32 ?_
        refine lv_iload_n hx hb dX9_hits_35 rfl (lv_at hl 1 rfl) ?_
        refine lv_iload_n hx hb dX9_hits_36 rfl (lv_at hl 2 rfl) ?_
        refine lv_iload_n hx hb dX9_hits_37 rfl (lv_at hl 3 rfl) ?_
        refine lv_iload hx hb dX9_hits_38 (lv_at hl 4 rfl) ?_
        refine vp_callSi (W.runV (As := [.int a1, .int a2, .int a3, .int a4]) (rest := []) ⟨hx, hb, hml, hown, hts⟩ (kX2_tallyBySteps l dC dI cu ln bs tk lw li fa lu cL nl fl a1 a2 a3 a4 b_ln b_bs b_tk b_lw (by omega)) (cwV 4 hts gX9_hits__X2_tallyBySteps_V184 rfl rfl rfl hd_yX2_tallyBySteps ⟨lel 2 2 rfl, lel 49 49 rfl⟩) ⟨pw_fb, rcv_X2 hK hP (q0 := 1) rfl, (pw_use hP hK hN [1, 2] rfl [0] rfl)⟩ rfl rfl hl.1 rfl (lv_room (Nat.le_of_ble_eq_true rfl)) dX9_hits_40 ⟨lel 0 0 rfl, lel 0 0 rfl⟩) (fun r_20 h_r_20 => ?_)
        exact W.iret (v := r_20) hx hb hr (fun t ht hW => ⟨r_20, rfl, trivial, ht⟩) t_nil dX9_hits_43
      ·
        have n_c_18 : (r_17.toInt : Int) = 0 := c_eq rfl (by decide) c_18
        have b_r_17 : (0 : Int) ≤ r_17.toInt ∧ r_17.toInt ≤ 0 := r_eq1 b_r_17 (by decide : (0 : Int) ≤ (0 : Int32).toInt ∧ (0 : Int32).toInt ≤ 0) n_c_18 (by decide)
        refine lv_bipush (v := (-2)) hx hb dX9_hits_28 (by decide) ?_
        exact W.iret (v := (-2)) hx hb hr (fun t ht hW => ⟨(-2), rfl, trivial, ht⟩) t_nil dX9_hits_30
theorem dX9_steps_0 : decode cX9_steps 0 = .ok (.aload_n 0, 1) := by decide +kernel
theorem dX9_steps_1 : decode cX9_steps 1 = .ok (.iload_n 1, 1) := by decide +kernel
theorem dX9_steps_2 : decode cX9_steps 2 = .ok (.iload_n 2, 1) := by decide +kernel
theorem dX9_steps_3 : decode cX9_steps 3 = .ok (.invokevirtual 137, 3) := by decide +kernel
theorem dX9_steps_6 : decode cX9_steps 6 = .ok (.ifCond .eq 23, 3) := by decide +kernel
theorem dX9_steps_9 : decode cX9_steps 9 = .ok (.iload_n 3, 1) := by decide +kernel
theorem dX9_steps_10 : decode cX9_steps 10 = .ok (.iconst 1, 1) := by decide +kernel
theorem dX9_steps_11 : decode cX9_steps 11 = .ok (.bipush 60, 2) := by decide +kernel
theorem dX9_steps_13 : decode cX9_steps 13 = .ok (.invokestatic 158, 3) := by decide +kernel
theorem dX9_steps_16 : decode cX9_steps 16 = .ok (.ifCond .eq 13, 3) := by decide +kernel
theorem dX9_steps_19 : decode cX9_steps 19 = .ok (.iload 4, 2) := by decide +kernel
theorem dX9_steps_21 : decode cX9_steps 21 = .ok (.iconst 0, 1) := by decide +kernel
theorem dX9_steps_22 : decode cX9_steps 22 = .ok (.iconst 1, 1) := by decide +kernel
theorem dX9_steps_23 : decode cX9_steps 23 = .ok (.invokestatic 158, 3) := by decide +kernel
theorem dX9_steps_26 : decode cX9_steps 26 = .ok (.ifCond .ne 6, 3) := by decide +kernel
theorem dX9_steps_29 : decode cX9_steps 29 = .ok (.bipush (-2), 2) := by decide +kernel
theorem dX9_steps_31 : decode cX9_steps 31 = .ok (.ireturn, 1) := by decide +kernel
theorem dX9_steps_32 : decode cX9_steps 32 = .ok (.iconst (-1), 1) := by decide +kernel
theorem dX9_steps_33 : decode cX9_steps 33 = .ok (.istore 5, 2) := by decide +kernel
theorem dX9_steps_35 : decode cX9_steps 35 = .ok (.iconst (-1), 1) := by decide +kernel
theorem dX9_steps_36 : decode cX9_steps 36 = .ok (.istore 6, 2) := by decide +kernel
theorem dX9_steps_38 : decode cX9_steps 38 = .ok (.iconst 1, 1) := by decide +kernel
theorem dX9_steps_39 : decode cX9_steps 39 = .ok (.istore 7, 2) := by decide +kernel
theorem dX9_steps_41 : decode cX9_steps 41 = .ok (.iload 7, 2) := by decide +kernel
theorem dX9_steps_43 : decode cX9_steps 43 = .ok (.sipush 999, 3) := by decide +kernel
theorem dX9_steps_46 : decode cX9_steps 46 = .ok (.if_icmp .gt 51, 3) := by decide +kernel
theorem dX9_steps_49 : decode cX9_steps 49 = .ok (.aload_n 0, 1) := by decide +kernel
theorem dX9_steps_50 : decode cX9_steps 50 = .ok (.getfield 35, 3) := by decide +kernel
theorem dX9_steps_53 : decode cX9_steps 53 = .ok (.iload_n 1, 1) := by decide +kernel
theorem dX9_steps_54 : decode cX9_steps 54 = .ok (.iload_n 2, 1) := by decide +kernel
theorem dX9_steps_55 : decode cX9_steps 55 = .ok (.iload 7, 2) := by decide +kernel
theorem dX9_steps_57 : decode cX9_steps 57 = .ok (.iload_n 3, 1) := by decide +kernel
theorem dX9_steps_58 : decode cX9_steps 58 = .ok (.invokevirtual 184, 3) := by decide +kernel
theorem dX9_steps_61 : decode cX9_steps 61 = .ok (.istore 8, 2) := by decide +kernel
theorem dX9_steps_63 : decode cX9_steps 63 = .ok (.iload 4, 2) := by decide +kernel
theorem dX9_steps_65 : decode cX9_steps 65 = .ok (.ifCond .ne 11, 3) := by decide +kernel
theorem dX9_steps_68 : decode cX9_steps 68 = .ok (.iload 8, 2) := by decide +kernel
theorem dX9_steps_70 : decode cX9_steps 70 = .ok (.ifCond .ne 6, 3) := by decide +kernel
theorem dX9_steps_73 : decode cX9_steps 73 = .ok (.iload 7, 2) := by decide +kernel
theorem dX9_steps_75 : decode cX9_steps 75 = .ok (.ireturn, 1) := by decide +kernel
theorem dX9_steps_76 : decode cX9_steps 76 = .ok (.iload 8, 2) := by decide +kernel
theorem dX9_steps_78 : decode cX9_steps 78 = .ok (.iload 5, 2) := by decide +kernel
theorem dX9_steps_80 : decode cX9_steps 80 = .ok (.if_icmp .le 11, 3) := by decide +kernel
theorem dX9_steps_83 : decode cX9_steps 83 = .ok (.iload 8, 2) := by decide +kernel
theorem dX9_steps_85 : decode cX9_steps 85 = .ok (.istore 5, 2) := by decide +kernel
theorem dX9_steps_87 : decode cX9_steps 87 = .ok (.iload 7, 2) := by decide +kernel
theorem dX9_steps_89 : decode cX9_steps 89 = .ok (.istore 6, 2) := by decide +kernel
theorem dX9_steps_91 : decode cX9_steps 91 = .ok (.iinc 7 1, 3) := by decide +kernel
theorem dX9_steps_94 : decode cX9_steps 94 = .ok (.goto (-53), 3) := by decide +kernel
theorem dX9_steps_97 : decode cX9_steps 97 = .ok (.iload 4, 2) := by decide +kernel
theorem dX9_steps_99 : decode cX9_steps 99 = .ok (.ifCond .ne 7, 3) := by decide +kernel
theorem dX9_steps_102 : decode cX9_steps 102 = .ok (.iconst (-1), 1) := by decide +kernel
theorem dX9_steps_103 : decode cX9_steps 103 = .ok (.goto 5, 3) := by decide +kernel
theorem dX9_steps_106 : decode cX9_steps 106 = .ok (.iload 6, 2) := by decide +kernel
theorem dX9_steps_108 : decode cX9_steps 108 = .ok (.ireturn, 1) := by decide +kernel
theorem hd_yX9_steps : yX9_steps.cls = RX9 ∧ yX9_steps.cls ≠ "java/lang/invoke/MethodHandle" ∧ yX9_steps.cls ≠ "java/lang/invoke/VarHandle" ∧ (parseMethodDescriptor yX9_steps.desc).map (fun d => d.parameters.length) = some 4 := by decide +kernel
def uX9_steps : List Cond := List.cons (.code yX9_steps cX9_steps 9 (some .int)) (HAppend.hAppend ([.methodLink RX9 137 yX9_hasBoth, .instanceMethod yX9_hasBoth, .selects RX9 yX9_hasBoth yX9_hasBoth, .initialized RX9, .methodLink RX9 158 yX9_isWithin, .static yX9_isWithin, .fieldLink RX9 35 "LuckyTicket" "current" "LLuckyTicket$Roll;", .methodLink RX9 184 yX2_tallyBySteps, .instanceMethod yX2_tallyBySteps, .selects RX2 yX2_tallyBySteps yX2_tallyBySteps, .initialized RX2] : List Cond) (HAppend.hAppend uX9_hasBoth (HAppend.hAppend uX9_isWithin (HAppend.hAppend uX2_tallyBySteps wsX90))))
theorem iX9_steps_X9 : ∀ w ∈ wsX90, w ∈ uX9_steps := fun _ h => (List.mem_cons_of_mem _ (List.mem_append_right _ (List.mem_append_right _ (List.mem_append_right _ (List.mem_append_right _ h)))))
theorem guX9_steps : GU uX9_steps := gu_cons (gu_app (by decide +kernel) (gu_ap guX9_hasBoth (gu_ap guX9_isWithin (gu_ap guX2_tallyBySteps gws_X9))))
theorem gX9_steps__X9_hasBoth_V137 : GoodIn uX9_steps (wsV RX9 137 RX9 yX9_hasBoth uX9_hasBoth) := gin_V (List.mem_of_getElem? (i := 1) rfl) (List.mem_of_getElem? (i := 2) rfl) (List.mem_of_getElem? (i := 3) rfl) (List.mem_of_getElem? (i := 4) rfl) (fun _ h => (List.mem_cons_of_mem _ (List.mem_append_right _ (List.mem_append_left _ h)))) guX9_hasBoth
theorem gX9_steps__X9_isWithin_S158 : GoodIn uX9_steps (va_wsS RX9 158 yX9_isWithin uX9_isWithin) := gin_S (List.mem_of_getElem? (i := 5) rfl) (List.mem_of_getElem? (i := 6) rfl) (List.mem_of_getElem? (i := 4) rfl) (fun _ h => (List.mem_cons_of_mem _ (List.mem_append_right _ (List.mem_append_right _ (List.mem_append_left _ h))))) guX9_isWithin
theorem gX9_steps__X2_tallyBySteps_V184 : GoodIn uX9_steps (wsV RX9 184 RX2 yX2_tallyBySteps uX2_tallyBySteps) := gin_V (List.mem_of_getElem? (i := 8) rfl) (List.mem_of_getElem? (i := 9) rfl) (List.mem_of_getElem? (i := 10) rfl) (List.mem_of_getElem? (i := 11) rfl) (fun _ h => (List.mem_cons_of_mem _ (List.mem_append_right _ (List.mem_append_right _ (List.mem_append_right _ (List.mem_append_left _ h)))))) guX2_tallyBySteps
set_option maxHeartbeats 4000000 in
set_option maxRecDepth 100000 in
theorem kX9_steps (l : Launch) (dC : Nat → ClassId) (dI : Nat → Nat → Nat) (h0 : Nat) (tp : Nat) (sc : Nat) (rd : Nat) (cu : Nat) (im : Nat) (ig : Nat) (sl : Nat) (se : Nat) (sm : Nat) (fc : Nat) (ln : Int32) (bs : Int32) (tk : Int32) (lw : Int32) (li : Int32) (fa : Nat) (lu : Nat) (cL : ClassId) (nl : Nat) (fl : Nat → Int32) (a1 : Int32) (a2 : Int32) (a3 : Int32) (a4 : Int32) (b_ln : (0 : Int) ≤ ln.toInt ∧ ln.toInt ≤ 12) (b_bs : (0 : Int) ≤ bs.toInt ∧ bs.toInt ≤ 16) (b_tk : (0 : Int) ≤ tk.toInt ∧ tk.toInt ≤ 20000) (b_lw : (0 : Int) ≤ lw.toInt ∧ lw.toInt ≤ 9) (hl1 : tk.toInt ≤ (nl : Int)) : Met l yX9_steps uX9_steps ({ frames := 2, cells := 0, slots := 0, locals := 49 }) (va_Pc [.ref h0, .int a1, .int a2, .int a3, .int a4] (pw (dC, dI) vwCl [(h0, .inr (7, [.ref tp, .ref sc, .ref rd, .ref cu, .ref im, .ref ig, .ref sl, .ref se, .ref sm, .ref fc])), (cu, .inr (1, [.int ln, .int bs, .int tk, .int lw, .int li, .ref fa, .ref lu])), (lu, .inl (cL, nl, .inl fl))] [(cL, .int)])) (vp_Si (fun r => ((-2 : Int) ≤ r.toInt ∧ r.toInt ≤ 1200))) 0 0 (fun _ => False) := by
  refine Met.ofW (cc := cX9_steps) (maxL := 9) (ret := (some .int)) pn_X9 rfl ?_
  intro p e s m args below meth c s₁ B hml hv
  obtain ⟨rfl, hP, hK, hN⟩ := hv
  have hx := B.exec
  have hb := B.bytes
  have hr := B.returns
  have hts := atoms_spec (ws := uX9_steps) B.pre
  have hown : s.vm.findClass RX9 = some m.cls := hown_of B.named rfl
  have hlocks := B.notSynchronized
  have hl := lv_entry ([.ref h0, .int a1, .int a2, .int a3, .int a4]) (n := 9) (Nat.le_of_ble_eq_true rfl)
  rw [lg_entry_eq]
  generalize (lg_sl ([.ref h0, .int a1, .int a2, .int a3, .int a4]) ++ List.replicate (9 - (lg_sl ([.ref h0, .int a1, .int a2, .int a3, .int a4])).length) Slot.unset).toArray = ls at hl ⊢
  have hl : lv_has ls 9 [(0, .ref h0), (1, .int a1), (2, .int a2), (3, .int a3), (4, .int a4)] := hl
  refine lv_aload_n hx hb dX9_steps_0 rfl (lv_at hl 0 rfl) ?_
  refine lv_iload_n hx hb dX9_steps_1 rfl (lv_at hl 1 rfl) ?_
  refine lv_iload_n hx hb dX9_steps_2 rfl (lv_at hl 2 rfl) ?_
  refine vp_callSi (W.runV (As := [.int a1, .int a2]) (rest := []) ⟨hx, hb, hml, hown, hts⟩ (kX9_hasBoth l dC dI h0 tp sc rd cu im ig sl se sm fc ln bs tk lw li fa lu a1 a2 b_ln b_bs b_tk b_lw) (cwV 2 hts gX9_steps__X9_hasBoth_V137 rfl rfl rfl hd_yX9_hasBoth ⟨lel 2 2 rfl, lel 43 49 rfl⟩) ⟨pw_fb, rcv_X9 hK hP (q0 := 0) rfl, (pw_use hP hK hN [0, 1] rfl [] rfl)⟩ rfl rfl hl.1 rfl (lv_room (Nat.le_of_ble_eq_true rfl)) dX9_steps_3 ⟨lel 0 0 rfl, lel 0 0 rfl⟩) (fun r_161 h_r_161 => ?_)
  obtain ⟨b_r_161, nz_r_161⟩ := h_r_161
  have b_r_161 : (0 : Int) ≤ r_161.toInt ∧ r_161.toInt ≤ 1 := b_r_161
  refine lv_if_eq (tgt := 29) hx hb dX9_steps_6 (by decide) (fun c_162 => ?_) (fun c_162 => ?_)
  ·
    have n_c_162 : (r_161.toInt : Int) = 0 := c_eq rfl (by decide) c_162
    have b_r_161 : (0 : Int) ≤ r_161.toInt ∧ r_161.toInt ≤ 0 := r_eq1 b_r_161 (by decide : (0 : Int) ≤ (0 : Int32).toInt ∧ (0 : Int32).toInt ≤ 0) n_c_162 (by decide)
    refine lv_bipush (v := (-2)) hx hb dX9_steps_29 (by decide) ?_
    exact W.iret (v := (-2)) hx hb hr (fun t ht hW => ⟨(-2), rfl, (rg_w (by decide : (-2 : Int) ≤ ((-2) : Int32).toInt ∧ ((-2) : Int32).toInt ≤ -2) (by decide) (by decide)), ht⟩) t_nil dX9_steps_31
  ·
    have n_c_162 : (r_161.toInt : Int) ≠ 0 := c_ne rfl (by decide) c_162
    have b_r_161 : (1 : Int) ≤ r_161.toInt ∧ r_161.toInt ≤ 1 := r_ne1 b_r_161 (by decide : (0 : Int) ≤ (0 : Int32).toInt ∧ (0 : Int32).toInt ≤ 0) n_c_162 (by decide)
    obtain ⟨b_a1, b_a2, g_163⟩ := nz_r_161 c_162
    refine lv_iload_n hx hb dX9_steps_9 rfl (lv_at hl 3 rfl) ?_
    refine lv_iconst (v := 1) hx hb dX9_steps_10 (by decide) ?_
    refine lv_bipush (v := 60) hx hb dX9_steps_11 (by decide) ?_
    refine vp_callSi (W.runS (As := [.int a3, .int 1, .int 60]) (rest := []) ⟨hx, hb, hml, hown, hts⟩ (kX9_isWithin l dC dI a3 1 60 ) (va_cwS 3 hts gX9_steps__X9_isWithin_S158 rfl rfl rfl hd_yX9_isWithin.2 ⟨lel 1 2 rfl, lel 22 49 rfl⟩) ⟨pn_fb, pn_use⟩ rfl rfl hl.1 rfl (lv_room (Nat.le_of_ble_eq_true rfl)) dX9_steps_13 ⟨lel 0 0 rfl, lel 0 0 rfl⟩) (fun r_164 h_r_164 => ?_)
    obtain ⟨b_r_164, nz_r_164⟩ := h_r_164
    have b_r_164 : (0 : Int) ≤ r_164.toInt ∧ r_164.toInt ≤ 1 := b_r_164
    refine lv_if_eq (tgt := 29) hx hb dX9_steps_16 (by decide) (fun c_165 => ?_) (fun c_165 => ?_)
    ·
      have n_c_165 : (r_164.toInt : Int) = 0 := c_eq rfl (by decide) c_165
      have b_r_164 : (0 : Int) ≤ r_164.toInt ∧ r_164.toInt ≤ 0 := r_eq1 b_r_164 (by decide : (0 : Int) ≤ (0 : Int32).toInt ∧ (0 : Int32).toInt ≤ 0) n_c_165 (by decide)
      refine lv_bipush (v := (-2)) hx hb dX9_steps_29 (by decide) ?_
      exact W.iret (v := (-2)) hx hb hr (fun t ht hW => ⟨(-2), rfl, (rg_w (by decide : (-2 : Int) ≤ ((-2) : Int32).toInt ∧ ((-2) : Int32).toInt ≤ -2) (by decide) (by decide)), ht⟩) t_nil dX9_steps_31
    ·
      have n_c_165 : (r_164.toInt : Int) ≠ 0 := c_ne rfl (by decide) c_165
      have b_r_164 : (1 : Int) ≤ r_164.toInt ∧ r_164.toInt ≤ 1 := r_ne1 b_r_164 (by decide : (0 : Int) ≤ (0 : Int32).toInt ∧ (0 : Int32).toInt ≤ 0) n_c_165 (by decide)
      have g_166 := nz_r_164 c_165
      have lt0_g_166 := (by decide : (1 : Int32).toInt = 1)
      have lt1_g_166 := (by decide : (60 : Int32).toInt = 60)
      have b_a3 : (1 : Int) ≤ a3.toInt ∧ a3.toInt ≤ 60 := by
        have q0 := (ti_rng a3)
        have q1 := (by decide : (1 : Int) ≤ (1 : Int32).toInt ∧ (1 : Int32).toInt ≤ 1)
        have q2 := (by decide : (60 : Int) ≤ (60 : Int32).toInt ∧ (60 : Int32).toInt ≤ 60)
        omega
      refine lv_iload hx hb dX9_steps_19 (lv_at hl 4 rfl) ?_
      refine lv_iconst (v := 0) hx hb dX9_steps_21 (by decide) ?_
      refine lv_iconst (v := 1) hx hb dX9_steps_22 (by decide) ?_
      refine vp_callSi (W.runS (As := [.int a4, .int 0, .int 1]) (rest := []) ⟨hx, hb, hml, hown, hts⟩ (kX9_isWithin l dC dI a4 0 1 ) (va_cwS 3 hts gX9_steps__X9_isWithin_S158 rfl rfl rfl hd_yX9_isWithin.2 ⟨lel 1 2 rfl, lel 22 49 rfl⟩) ⟨pn_fb, pn_use⟩ rfl rfl hl.1 rfl (lv_room (Nat.le_of_ble_eq_true rfl)) dX9_steps_23 ⟨lel 0 0 rfl, lel 0 0 rfl⟩) (fun r_167 h_r_167 => ?_)
      obtain ⟨b_r_167, nz_r_167⟩ := h_r_167
      have b_r_167 : (0 : Int) ≤ r_167.toInt ∧ r_167.toInt ≤ 1 := b_r_167
      refine lv_if_ne (tgt := 32) hx hb dX9_steps_26 (by decide) (fun c_168 => ?_) (fun c_168 => ?_)
      ·
        have n_c_168 : (r_167.toInt : Int) ≠ 0 := c_ne rfl (by decide) c_168
        have b_r_167 : (1 : Int) ≤ r_167.toInt ∧ r_167.toInt ≤ 1 := r_ne1 b_r_167 (by decide : (0 : Int) ≤ (0 : Int32).toInt ∧ (0 : Int32).toInt ≤ 0) n_c_168 (by decide)
        have g_169 := nz_r_167 c_168
        have lt0_g_169 := (by decide : (0 : Int32).toInt = 0)
        have lt1_g_169 := (by decide : (1 : Int32).toInt = 1)
        have b_a4 : (0 : Int) ≤ a4.toInt ∧ a4.toInt ≤ 1 := by
          have q0 := (ti_rng a4)
          have q1 := (by decide : (0 : Int) ≤ (0 : Int32).toInt ∧ (0 : Int32).toInt ≤ 0)
          have q2 := (by decide : (1 : Int) ≤ (1 : Int32).toInt ∧ (1 : Int32).toInt ≤ 1)
          omega
        refine lv_iconst (v := (-1)) hx hb dX9_steps_32 (by decide) ?_
        refine lv_istore (lv' := [(5, .int (-1)), (0, .ref h0), (1, .int a1), (2, .int a2), (3, .int a3), (4, .int a4)]) hx hb dX9_steps_33 hl (by decide) rfl (fun ls hl => ?_)
        refine lv_iconst (v := (-1)) hx hb dX9_steps_35 (by decide) ?_
        refine lv_istore (lv' := [(6, .int (-1)), (5, .int (-1)), (0, .ref h0), (1, .int a1), (2, .int a2), (3, .int a3), (4, .int a4)]) hx hb dX9_steps_36 hl (by decide) rfl (fun ls hl => ?_)
        refine lv_iconst (v := 1) hx hb dX9_steps_38 (by decide) ?_
        refine lv_istore (lv' := [(7, .int 1), (6, .int (-1)), (5, .int (-1)), (0, .ref h0), (1, .int a1), (2, .int a2), (3, .int a3), (4, .int a4)]) hx hb dX9_steps_39 hl (by decide) rfl (fun ls hl => ?_)
        refine loopP (σ := Int32 × Int32 × Int32) (fun v => (1000 - v.1.toInt).toNat) (fun v ls => ((1 : Int) ≤ v.1.toInt ∧ v.1.toInt ≤ 1000) ∧ ((-1 : Int) ≤ v.2.1.toInt ∧ v.2.1.toInt ≤ 1200) ∧ ((-1 : Int) ≤ v.2.2.toInt ∧ v.2.2.toInt ≤ 2147483647) ∧ lv_has ls 9 [(7, .int v.1), (6, .int v.2.1), (5, .int v.2.2), (0, .ref h0), (1, .int a1), (2, .int a2), (3, .int a3), (4, .int a4)]) (fun v ls hI ih_41_307 => ?_) ((1 : Int32), (-1 : Int32), (-1 : Int32)) ⟨(show (1 : Int) ≤ (1 : Int32).toInt ∧ (1 : Int32).toInt ≤ 1000 from (rg_w (by decide : (1 : Int) ≤ (1 : Int32).toInt ∧ (1 : Int32).toInt ≤ 1) (by decide) (by decide))), (show (-1 : Int) ≤ (-1 : Int32).toInt ∧ (-1 : Int32).toInt ≤ 1200 from (rg_w (by decide : (-1 : Int) ≤ ((-1) : Int32).toInt ∧ ((-1) : Int32).toInt ≤ -1) (by decide) (by decide))), (show (-1 : Int) ≤ (-1 : Int32).toInt ∧ (-1 : Int32).toInt ≤ 2147483647 from (rg_w (by decide : (-1 : Int) ≤ ((-1) : Int32).toInt ∧ ((-1) : Int32).toInt ≤ -1) (by decide) (by decide))), lv_sub hl [0, 1, 2, 3, 4, 5, 6, 7] rfl⟩
        obtain ⟨y_182, y_183, y_184⟩ := v
        obtain ⟨b_y_182, b_y_183, b_y_184, hl⟩ := hI
        have b_y_182 : (1 : Int) ≤ y_182.toInt ∧ y_182.toInt ≤ 1000 := b_y_182
        have b_y_183 : (-1 : Int) ≤ y_183.toInt ∧ y_183.toInt ≤ 1200 := b_y_183
        have b_y_184 : (-1 : Int) ≤ y_184.toInt ∧ y_184.toInt ≤ 2147483647 := b_y_184
        have hl : lv_has ls 9 [(7, .int y_182), (6, .int y_183), (5, .int y_184), (0, .ref h0), (1, .int a1), (2, .int a2), (3, .int a3), (4, .int a4)] := hl
        refine lv_iload hx hb dX9_steps_41 (lv_at hl 0 rfl) ?_
        refine lv_sipush (v := 999) hx hb dX9_steps_43 (by decide) ?_
        refine lv_icmp_gt (tgt := 97) hx hb dX9_steps_46 (by decide) (fun c_308 => ?_) (fun c_308 => ?_)
        ·
          have n_c_308 : (999 : Int) < y_182.toInt := c_gt rfl (by decide) c_308
          have b_y_182 : (1000 : Int) ≤ y_182.toInt ∧ y_182.toInt ≤ 1000 := r_lt2 (by decide : (999 : Int) ≤ (999 : Int32).toInt ∧ (999 : Int32).toInt ≤ 999) b_y_182 n_c_308 (by decide)
          refine lv_iload hx hb dX9_steps_97 (lv_at hl 7 rfl) ?_
          refine lv_if_ne (tgt := 106) hx hb dX9_steps_99 (by decide) (fun c_309 => ?_) (fun c_309 => ?_)
          ·
            have n_c_309 : (a4.toInt : Int) ≠ 0 := c_ne rfl (by decide) c_309
            have b_a4 : (1 : Int) ≤ a4.toInt ∧ a4.toInt ≤ 1 := r_ne1 b_a4 (by decide : (0 : Int) ≤ (0 : Int32).toInt ∧ (0 : Int32).toInt ≤ 0) n_c_309 (by decide)
            refine lv_iload hx hb dX9_steps_106 (lv_at hl 1 rfl) ?_
            exact W.iret (v := y_183) hx hb hr (fun t ht hW => ⟨y_183, rfl, (rg_w b_y_183 (by decide) (by decide)), ht⟩) t_nil dX9_steps_108
          ·
            have n_c_309 : (a4.toInt : Int) = 0 := c_eq rfl (by decide) c_309
            have b_a4 : (0 : Int) ≤ a4.toInt ∧ a4.toInt ≤ 0 := r_eq1 b_a4 (by decide : (0 : Int) ≤ (0 : Int32).toInt ∧ (0 : Int32).toInt ≤ 0) n_c_309 (by decide)
            refine lv_iconst (v := (-1)) hx hb dX9_steps_102 (by decide) ?_
            refine lv_goto (tgt := 108) hx hb dX9_steps_103 (by decide) ?_
            exact W.iret (v := (-1)) hx hb hr (fun t ht hW => ⟨(-1), rfl, (rg_w (by decide : (-1 : Int) ≤ ((-1) : Int32).toInt ∧ ((-1) : Int32).toInt ≤ -1) (by decide) (by decide)), ht⟩) t_nil dX9_steps_108
        ·
          have n_c_308 : (y_182.toInt : Int) ≤ 999 := c_ngt rfl (by decide) c_308
          have b_y_182 : (1 : Int) ≤ y_182.toInt ∧ y_182.toInt ≤ 999 := r_le1 b_y_182 (by decide : (999 : Int) ≤ (999 : Int32).toInt ∧ (999 : Int32).toInt ≤ 999) n_c_308 (by decide)
          refine lv_aload_n hx hb dX9_steps_49 rfl (lv_at hl 3 rfl) ?_
          refine va_get (D := (dC, dI)) (ci := 7) (v := .ref cu) (C := RX9) (T := TX9) (N := 10) hx hb hts iX9_steps_X9 hown hK hP 0 rfl rfl 3 (by decide) (hts (.fieldLink RX9 35 "LuckyTicket" "current" "LLuckyTicket$Roll;") (List.mem_of_getElem? (i := 7) rfl)) (fun _ h9 => h9) rfl dX9_steps_50 ?_
          refine lv_iload_n hx hb dX9_steps_53 rfl (lv_at hl 4 rfl) ?_
          refine lv_iload_n hx hb dX9_steps_54 rfl (lv_at hl 5 rfl) ?_
          refine lv_iload hx hb dX9_steps_55 (lv_at hl 0 rfl) ?_
          refine lv_iload_n hx hb dX9_steps_57 rfl (lv_at hl 6 rfl) ?_
          refine vp_callSi (W.runV (As := [.int a1, .int a2, .int y_182, .int a3]) (rest := []) ⟨hx, hb, hml, hown, hts⟩ (kX2_tallyBySteps l dC dI cu ln bs tk lw li fa lu cL nl fl a1 a2 y_182 a3 b_ln b_bs b_tk b_lw (by omega)) (cwV 4 hts gX9_steps__X2_tallyBySteps_V184 rfl rfl rfl hd_yX2_tallyBySteps ⟨lel 2 2 rfl, lel 49 49 rfl⟩) ⟨pw_fb, rcv_X2 hK hP (q0 := 1) rfl, (pw_use hP hK hN [1, 2] rfl [0] rfl)⟩ rfl rfl hl.1 rfl (lv_room (Nat.le_of_ble_eq_true rfl)) dX9_steps_58 ⟨lel 0 0 rfl, lel 0 0 rfl⟩) (fun r_310 h_r_310 => ?_)
          refine lv_istore (lv' := [(8, .int r_310), (7, .int y_182), (6, .int y_183), (5, .int y_184), (0, .ref h0), (1, .int a1), (2, .int a2), (3, .int a3), (4, .int a4)]) hx hb dX9_steps_61 hl (by decide) rfl (fun ls hl => ?_)
          refine lv_iload hx hb dX9_steps_63 (lv_at hl 8 rfl) ?_
          refine lv_if_ne (tgt := 76) hx hb dX9_steps_65 (by decide) (fun c_311 => ?_) (fun c_311 => ?_)
          ·
            have n_c_311 : (a4.toInt : Int) ≠ 0 := c_ne rfl (by decide) c_311
            have b_a4 : (1 : Int) ≤ a4.toInt ∧ a4.toInt ≤ 1 := r_ne1 b_a4 (by decide : (0 : Int) ≤ (0 : Int32).toInt ∧ (0 : Int32).toInt ≤ 0) n_c_311 (by decide)
            refine lv_iload hx hb dX9_steps_76 (lv_at hl 0 rfl) ?_
            refine lv_iload hx hb dX9_steps_78 (lv_at hl 3 rfl) ?_
            refine cutP (σ := Int32 × Int32) (pc2 := 91) (st2 := fun v => []) (cells2 := 0) (slots2 := 0) (fun v ls => ((-1 : Int) ≤ v.1.toInt ∧ v.1.toInt ≤ 1200) ∧ ((-1 : Int) ≤ v.2.toInt ∧ v.2.toInt ≤ 2147483647) ∧ lv_has ls 9 [(8, .int r_310), (7, .int y_182), (6, .int v.1), (5, .int v.2), (0, .ref h0), (1, .int a1), (2, .int a2), (3, .int a3), (4, .int a4)]) (fun v ls hI => ?_) (fun hj_91_314 => ?_)
            ·
              obtain ⟨y_313, y_314⟩ := v
              obtain ⟨b_y_313, b_y_314, hl⟩ := hI
              have b_y_313 : (-1 : Int) ≤ y_313.toInt ∧ y_313.toInt ≤ 1200 := b_y_313
              have b_y_314 : (-1 : Int) ≤ y_314.toInt ∧ y_314.toInt ≤ 2147483647 := b_y_314
              have hl : lv_has ls 9 [(8, .int r_310), (7, .int y_182), (6, .int y_313), (5, .int y_314), (0, .ref h0), (1, .int a1), (2, .int a2), (3, .int a3), (4, .int a4)] := hl
              obtain ⟨z_315, e_z_315⟩ : ∃ y : Int32, y = y_182 + 1 := ⟨_, rfl⟩
              refine lv_iinc (v := z_315) (lv' := [(7, .int z_315), (8, .int r_310), (6, .int y_313), (5, .int y_314), (0, .ref h0), (1, .int a1), (2, .int a2), (3, .int a3), (4, .int a4)]) hx hb dX9_steps_91 hl (k := 1) rfl (by rw [e_z_315]; rfl) (by decide) rfl (fun ls hl => ?_)
              obtain ⟨q_z_315, b_z_315⟩ := ti_add (lo := 2) (hi := 1000) e_z_315 rfl (by decide : (1 : Int32).toInt = 1) b_y_182 (by decide : (1 : Int) ≤ (1 : Int32).toInt ∧ (1 : Int32).toInt ≤ 1) (by decide)
              refine lv_goto (tgt := 41) hx hb dX9_steps_94 (by decide) ?_
              exact ih_41_307 (z_315, y_313, y_314) _ ⟨(show (1 : Int) ≤ z_315.toInt ∧ z_315.toInt ≤ 1000 from (rg_w b_z_315 (by decide) (by decide))), (show (-1 : Int) ≤ y_313.toInt ∧ y_313.toInt ≤ 1200 from b_y_313), (show (-1 : Int) ≤ y_314.toInt ∧ y_314.toInt ≤ 2147483647 from b_y_314), lv_sub hl [0, 2, 3, 4, 5, 6, 7, 8] rfl⟩ (show (1000 - z_315.toInt).toNat < (1000 - y_182.toInt).toNat by omega)
            ·
              refine lv_icmp_le (tgt := 91) hx hb dX9_steps_80 (by decide) (fun c_312 => ?_) (fun c_312 => ?_)
              ·
                have n_c_312 : (r_310.toInt : Int) ≤ y_184.toInt := c_le rfl rfl c_312
                exact hj_91_314 (y_183, y_184) _ ⟨(show (-1 : Int) ≤ y_183.toInt ∧ y_183.toInt ≤ 1200 from b_y_183), (show (-1 : Int) ≤ y_184.toInt ∧ y_184.toInt ≤ 2147483647 from b_y_184), lv_sub hl [0, 1, 2, 3, 4, 5, 6, 7, 8] rfl⟩
              ·
                have n_c_312 : (y_184.toInt : Int) < r_310.toInt := c_nle rfl rfl c_312
                have b_y_184 : (-1 : Int) ≤ y_184.toInt ∧ y_184.toInt ≤ 2147483646 := r_lt1 b_y_184 (ti_rng r_310) n_c_312 (by decide)
                have b_r_310 : (0 : Int) ≤ r_310.toInt ∧ r_310.toInt ≤ 2147483647 := r_lt2 b_y_184 (ti_rng r_310) n_c_312 (by decide)
                refine lv_iload hx hb dX9_steps_83 (lv_at hl 0 rfl) ?_
                refine lv_istore (lv' := [(5, .int r_310), (8, .int r_310), (7, .int y_182), (6, .int y_183), (0, .ref h0), (1, .int a1), (2, .int a2), (3, .int a3), (4, .int a4)]) hx hb dX9_steps_85 hl (by decide) rfl (fun ls hl => ?_)
                refine lv_iload hx hb dX9_steps_87 (lv_at hl 2 rfl) ?_
                refine lv_istore (lv' := [(6, .int y_182), (5, .int r_310), (8, .int r_310), (7, .int y_182), (0, .ref h0), (1, .int a1), (2, .int a2), (3, .int a3), (4, .int a4)]) hx hb dX9_steps_89 hl (by decide) rfl (fun ls hl => ?_)
                exact hj_91_314 (y_182, r_310) _ ⟨(show (-1 : Int) ≤ y_182.toInt ∧ y_182.toInt ≤ 1200 from (rg_w b_y_182 (by decide) (by decide))), (show (-1 : Int) ≤ r_310.toInt ∧ r_310.toInt ≤ 2147483647 from (rg_w b_r_310 (by decide) (by decide))), lv_sub hl [2, 3, 0, 1, 4, 5, 6, 7, 8] rfl⟩
          ·
            have n_c_311 : (a4.toInt : Int) = 0 := c_eq rfl (by decide) c_311
            have b_a4 : (0 : Int) ≤ a4.toInt ∧ a4.toInt ≤ 0 := r_eq1 b_a4 (by decide : (0 : Int) ≤ (0 : Int32).toInt ∧ (0 : Int32).toInt ≤ 0) n_c_311 (by decide)
            refine lv_iload hx hb dX9_steps_68 (lv_at hl 0 rfl) ?_
            refine lv_if_ne (tgt := 76) hx hb dX9_steps_70 (by decide) (fun c_316 => ?_) (fun c_316 => ?_)
            ·
              have n_c_316 : (r_310.toInt : Int) ≠ 0 := c_ne rfl (by decide) c_316
              refine lv_iload hx hb dX9_steps_76 (lv_at hl 0 rfl) ?_
              refine lv_iload hx hb dX9_steps_78 (lv_at hl 3 rfl) ?_
              refine cutP (σ := Int32 × Int32) (pc2 := 91) (st2 := fun v => []) (cells2 := 0) (slots2 := 0) (fun v ls => ((-1 : Int) ≤ v.1.toInt ∧ v.1.toInt ≤ 1200) ∧ ((-1 : Int) ≤ v.2.toInt ∧ v.2.toInt ≤ 2147483647) ∧ lv_has ls 9 [(8, .int r_310), (7, .int y_182), (6, .int v.1), (5, .int v.2), (0, .ref h0), (1, .int a1), (2, .int a2), (3, .int a3), (4, .int a4)]) (fun v ls hI => ?_) (fun hj_91_319 => ?_)
              ·
                obtain ⟨y_318, y_319⟩ := v
                obtain ⟨b_y_318, b_y_319, hl⟩ := hI
                have b_y_318 : (-1 : Int) ≤ y_318.toInt ∧ y_318.toInt ≤ 1200 := b_y_318
                have b_y_319 : (-1 : Int) ≤ y_319.toInt ∧ y_319.toInt ≤ 2147483647 := b_y_319
                have hl : lv_has ls 9 [(8, .int r_310), (7, .int y_182), (6, .int y_318), (5, .int y_319), (0, .ref h0), (1, .int a1), (2, .int a2), (3, .int a3), (4, .int a4)] := hl
                obtain ⟨z_320, e_z_320⟩ : ∃ y : Int32, y = y_182 + 1 := ⟨_, rfl⟩
                refine lv_iinc (v := z_320) (lv' := [(7, .int z_320), (8, .int r_310), (6, .int y_318), (5, .int y_319), (0, .ref h0), (1, .int a1), (2, .int a2), (3, .int a3), (4, .int a4)]) hx hb dX9_steps_91 hl (k := 1) rfl (by rw [e_z_320]; rfl) (by decide) rfl (fun ls hl => ?_)
                obtain ⟨q_z_320, b_z_320⟩ := ti_add (lo := 2) (hi := 1000) e_z_320 rfl (by decide : (1 : Int32).toInt = 1) b_y_182 (by decide : (1 : Int) ≤ (1 : Int32).toInt ∧ (1 : Int32).toInt ≤ 1) (by decide)
                refine lv_goto (tgt := 41) hx hb dX9_steps_94 (by decide) ?_
                exact ih_41_307 (z_320, y_318, y_319) _ ⟨(show (1 : Int) ≤ z_320.toInt ∧ z_320.toInt ≤ 1000 from (rg_w b_z_320 (by decide) (by decide))), (show (-1 : Int) ≤ y_318.toInt ∧ y_318.toInt ≤ 1200 from b_y_318), (show (-1 : Int) ≤ y_319.toInt ∧ y_319.toInt ≤ 2147483647 from b_y_319), lv_sub hl [0, 2, 3, 4, 5, 6, 7, 8] rfl⟩ (show (1000 - z_320.toInt).toNat < (1000 - y_182.toInt).toNat by omega)
              ·
                refine lv_icmp_le (tgt := 91) hx hb dX9_steps_80 (by decide) (fun c_317 => ?_) (fun c_317 => ?_)
                ·
                  have n_c_317 : (r_310.toInt : Int) ≤ y_184.toInt := c_le rfl rfl c_317
                  exact hj_91_319 (y_183, y_184) _ ⟨(show (-1 : Int) ≤ y_183.toInt ∧ y_183.toInt ≤ 1200 from b_y_183), (show (-1 : Int) ≤ y_184.toInt ∧ y_184.toInt ≤ 2147483647 from b_y_184), lv_sub hl [0, 1, 2, 3, 4, 5, 6, 7, 8] rfl⟩
                ·
                  have n_c_317 : (y_184.toInt : Int) < r_310.toInt := c_nle rfl rfl c_317
                  have b_y_184 : (-1 : Int) ≤ y_184.toInt ∧ y_184.toInt ≤ 2147483646 := r_lt1 b_y_184 (ti_rng r_310) n_c_317 (by decide)
                  have b_r_310 : (0 : Int) ≤ r_310.toInt ∧ r_310.toInt ≤ 2147483647 := r_lt2 b_y_184 (ti_rng r_310) n_c_317 (by decide)
                  refine lv_iload hx hb dX9_steps_83 (lv_at hl 0 rfl) ?_
                  refine lv_istore (lv' := [(5, .int r_310), (8, .int r_310), (7, .int y_182), (6, .int y_183), (0, .ref h0), (1, .int a1), (2, .int a2), (3, .int a3), (4, .int a4)]) hx hb dX9_steps_85 hl (by decide) rfl (fun ls hl => ?_)
                  refine lv_iload hx hb dX9_steps_87 (lv_at hl 2 rfl) ?_
                  refine lv_istore (lv' := [(6, .int y_182), (5, .int r_310), (8, .int r_310), (7, .int y_182), (0, .ref h0), (1, .int a1), (2, .int a2), (3, .int a3), (4, .int a4)]) hx hb dX9_steps_89 hl (by decide) rfl (fun ls hl => ?_)
                  exact hj_91_319 (y_182, r_310) _ ⟨(show (-1 : Int) ≤ y_182.toInt ∧ y_182.toInt ≤ 1200 from (rg_w b_y_182 (by decide) (by decide))), (show (-1 : Int) ≤ r_310.toInt ∧ r_310.toInt ≤ 2147483647 from (rg_w b_r_310 (by decide) (by decide))), lv_sub hl [2, 3, 0, 1, 4, 5, 6, 7, 8] rfl⟩
            ·
              have n_c_316 : (r_310.toInt : Int) = 0 := c_eq rfl (by decide) c_316
              have b_r_310 : (0 : Int) ≤ r_310.toInt ∧ r_310.toInt ≤ 0 := r_eq1 (ti_rng r_310) (by decide : (0 : Int) ≤ (0 : Int32).toInt ∧ (0 : Int32).toInt ≤ 0) n_c_316 (by decide)
              refine lv_iload hx hb dX9_steps_73 (lv_at hl 1 rfl) ?_
              exact W.iret (v := y_182) hx hb hr (fun t ht hW => ⟨y_182, rfl, (rg_w b_y_182 (by decide) (by decide)), ht⟩) t_nil dX9_steps_75
      ·
        have n_c_168 : (r_167.toInt : Int) = 0 := c_eq rfl (by decide) c_168
        have b_r_167 : (0 : Int) ≤ r_167.toInt ∧ r_167.toInt ≤ 0 := r_eq1 b_r_167 (by decide : (0 : Int) ≤ (0 : Int32).toInt ∧ (0 : Int32).toInt ≤ 0) n_c_168 (by decide)
        refine lv_bipush (v := (-2)) hx hb dX9_steps_29 (by decide) ?_
        exact W.iret (v := (-2)) hx hb hr (fun t ht hW => ⟨(-2), rfl, (rg_w (by decide : (-2 : Int) ≤ ((-2) : Int32).toInt ∧ ((-2) : Int32).toInt ≤ -2) (by decide) (by decide)), ht⟩) t_nil dX9_steps_31
theorem dX9_chance_0 : decode cX9_chance 0 = .ok (.aload_n 0, 1) := by decide +kernel
theorem dX9_chance_1 : decode cX9_chance 1 = .ok (.getfield 35, 3) := by decide +kernel
theorem dX9_chance_4 : decode cX9_chance 4 = .ok (.iload_n 1, 1) := by decide +kernel
theorem dX9_chance_5 : decode cX9_chance 5 = .ok (.invokevirtual 149, 3) := by decide +kernel
theorem dX9_chance_8 : decode cX9_chance 8 = .ok (.ifCond .eq 12, 3) := by decide +kernel
theorem dX9_chance_11 : decode cX9_chance 11 = .ok (.iload_n 2, 1) := by decide +kernel
theorem dX9_chance_12 : decode cX9_chance 12 = .ok (.iconst 0, 1) := by decide +kernel
theorem dX9_chance_13 : decode cX9_chance 13 = .ok (.iconst 1, 1) := by decide +kernel
theorem dX9_chance_14 : decode cX9_chance 14 = .ok (.invokestatic 158, 3) := by decide +kernel
theorem dX9_chance_17 : decode cX9_chance 17 = .ok (.ifCond .ne 6, 3) := by decide +kernel
theorem dX9_chance_20 : decode cX9_chance 20 = .ok (.bipush (-2), 2) := by decide +kernel
theorem dX9_chance_22 : decode cX9_chance 22 = .ok (.ireturn, 1) := by decide +kernel
theorem dX9_chance_23 : decode cX9_chance 23 = .ok (.aload_n 0, 1) := by decide +kernel
theorem dX9_chance_24 : decode cX9_chance 24 = .ok (.getfield 35, 3) := by decide +kernel
theorem dX9_chance_27 : decode cX9_chance 27 = .ok (.iload_n 1, 1) := by decide +kernel
theorem dX9_chance_28 : decode cX9_chance 28 = .ok (.invokevirtual 152, 3) := by decide +kernel
theorem dX9_chance_31 : decode cX9_chance 31 = .ok (.aload_n 0, 1) := by decide +kernel
theorem dX9_chance_32 : decode cX9_chance 32 = .ok (.getfield 35, 3) := by decide +kernel
theorem dX9_chance_35 : decode cX9_chance 35 = .ok (.getfield 155, 3) := by decide +kernel
theorem dX9_chance_38 : decode cX9_chance 38 = .ok (.iload_n 2, 1) := by decide +kernel
theorem dX9_chance_39 : decode cX9_chance 39 = .ok (.invokestatic 188, 3) := by decide +kernel
theorem dX9_chance_42 : decode cX9_chance 42 = .ok (.ireturn, 1) := by decide +kernel
theorem hd_yX9_chance : yX9_chance.cls = RX9 ∧ yX9_chance.cls ≠ "java/lang/invoke/MethodHandle" ∧ yX9_chance.cls ≠ "java/lang/invoke/VarHandle" ∧ (parseMethodDescriptor yX9_chance.desc).map (fun d => d.parameters.length) = some 2 := by decide +kernel
def uX9_chance : List Cond := List.cons (.code yX9_chance cX9_chance 3 (some .int)) (HAppend.hAppend ([.fieldLink RX9 35 "LuckyTicket" "current" "LLuckyTicket$Roll;", .methodLink RX9 149 yX2_hasLaw, .instanceMethod yX2_hasLaw, .selects RX2 yX2_hasLaw yX2_hasLaw, .initialized RX2, .methodLink RX9 158 yX9_isWithin, .static yX9_isWithin, .initialized RX9, .methodLink RX9 152 yX2_total, .instanceMethod yX2_total, .selects RX2 yX2_total yX2_total, .methodLink RX9 188 yX9_lowestTerm, .static yX9_lowestTerm] : List Cond) (HAppend.hAppend uX2_hasLaw (HAppend.hAppend uX9_isWithin (HAppend.hAppend uX2_total (HAppend.hAppend uX9_lowestTerm (HAppend.hAppend wsX90 wsX20))))))
theorem iX9_chance_X9 : ∀ w ∈ wsX90, w ∈ uX9_chance := fun _ h => (List.mem_cons_of_mem _ (List.mem_append_right _ (List.mem_append_right _ (List.mem_append_right _ (List.mem_append_right _ (List.mem_append_right _ (List.mem_append_left _ h)))))))
theorem iX9_chance_X2 : ∀ w ∈ wsX20, w ∈ uX9_chance := fun _ h => (List.mem_cons_of_mem _ (List.mem_append_right _ (List.mem_append_right _ (List.mem_append_right _ (List.mem_append_right _ (List.mem_append_right _ (List.mem_append_right _ h)))))))
theorem guX9_chance : GU uX9_chance := gu_cons (gu_app (by decide +kernel) (gu_ap guX2_hasLaw (gu_ap guX9_isWithin (gu_ap guX2_total (gu_ap guX9_lowestTerm (gu_ap gws_X9 gws_X2))))))
theorem gX9_chance__X2_hasLaw_V149 : GoodIn uX9_chance (wsV RX9 149 RX2 yX2_hasLaw uX2_hasLaw) := gin_V (List.mem_of_getElem? (i := 2) rfl) (List.mem_of_getElem? (i := 3) rfl) (List.mem_of_getElem? (i := 4) rfl) (List.mem_of_getElem? (i := 5) rfl) (fun _ h => (List.mem_cons_of_mem _ (List.mem_append_right _ (List.mem_append_left _ h)))) guX2_hasLaw
theorem gX9_chance__X9_isWithin_S158 : GoodIn uX9_chance (va_wsS RX9 158 yX9_isWithin uX9_isWithin) := gin_S (List.mem_of_getElem? (i := 6) rfl) (List.mem_of_getElem? (i := 7) rfl) (List.mem_of_getElem? (i := 8) rfl) (fun _ h => (List.mem_cons_of_mem _ (List.mem_append_right _ (List.mem_append_right _ (List.mem_append_left _ h))))) guX9_isWithin
theorem gX9_chance__X2_total_V152 : GoodIn uX9_chance (wsV RX9 152 RX2 yX2_total uX2_total) := gin_V (List.mem_of_getElem? (i := 9) rfl) (List.mem_of_getElem? (i := 10) rfl) (List.mem_of_getElem? (i := 11) rfl) (List.mem_of_getElem? (i := 5) rfl) (fun _ h => (List.mem_cons_of_mem _ (List.mem_append_right _ (List.mem_append_right _ (List.mem_append_right _ (List.mem_append_left _ h)))))) guX2_total
theorem gX9_chance__X9_lowestTerm_S188 : GoodIn uX9_chance (va_wsS RX9 188 yX9_lowestTerm uX9_lowestTerm) := gin_S (List.mem_of_getElem? (i := 12) rfl) (List.mem_of_getElem? (i := 13) rfl) (List.mem_of_getElem? (i := 8) rfl) (fun _ h => (List.mem_cons_of_mem _ (List.mem_append_right _ (List.mem_append_right _ (List.mem_append_right _ (List.mem_append_right _ (List.mem_append_left _ h))))))) guX9_lowestTerm
set_option maxHeartbeats 4000000 in
set_option maxRecDepth 100000 in
theorem kX9_chance (l : Launch) (dC : Nat → ClassId) (dI : Nat → Nat → Nat) (h0 : Nat) (tp : Nat) (sc : Nat) (rd : Nat) (cu : Nat) (im : Nat) (ig : Nat) (sl : Nat) (se : Nat) (sm : Nat) (fc : Nat) (ln : Int32) (bs : Int32) (tk : Int32) (lw : Int32) (li : Int32) (fa : Nat) (lu : Nat) (cL : ClassId) (nl : Nat) (fl : Nat → Int32) (a1 : Int32) (a2 : Int32) (b_ln : (0 : Int) ≤ ln.toInt ∧ ln.toInt ≤ 12) (b_bs : (0 : Int) ≤ bs.toInt ∧ bs.toInt ≤ 16) (b_tk : (0 : Int) ≤ tk.toInt ∧ tk.toInt ≤ 20000) (b_lw : (0 : Int) ≤ lw.toInt ∧ lw.toInt ≤ 9) (hl1 : tk.toInt ≤ (nl : Int)) : Met l yX9_chance uX9_chance ({ frames := 3, cells := 0, slots := 0, locals := 60 }) (va_Pc [.ref h0, .int a1, .int a2] (pw (dC, dI) vwCl [(h0, .inr (7, [.ref tp, .ref sc, .ref rd, .ref cu, .ref im, .ref ig, .ref sl, .ref se, .ref sm, .ref fc])), (cu, .inr (1, [.int ln, .int bs, .int tk, .int lw, .int li, .ref fa, .ref lu])), (lu, .inl (cL, nl, .inl fl))] [(cL, .int)])) (vp_Si (fun r => True)) 0 0 (fun _ => False) := by
  refine Met.ofW (cc := cX9_chance) (maxL := 3) (ret := (some .int)) pn_X9 rfl ?_
  intro p e s m args below meth c s₁ B hml hv
  obtain ⟨rfl, hP, hK, hN⟩ := hv
  have hx := B.exec
  have hb := B.bytes
  have hr := B.returns
  have hts := atoms_spec (ws := uX9_chance) B.pre
  have hown : s.vm.findClass RX9 = some m.cls := hown_of B.named rfl
  have hlocks := B.notSynchronized
  have hl := lv_entry ([.ref h0, .int a1, .int a2]) (n := 3) (Nat.le_of_ble_eq_true rfl)
  rw [lg_entry_eq]
  generalize (lg_sl ([.ref h0, .int a1, .int a2]) ++ List.replicate (3 - (lg_sl ([.ref h0, .int a1, .int a2])).length) Slot.unset).toArray = ls at hl ⊢
  have hl : lv_has ls 3 [(0, .ref h0), (1, .int a1), (2, .int a2)] := hl
  refine lv_aload_n hx hb dX9_chance_0 rfl (lv_at hl 0 rfl) ?_
  refine va_get (D := (dC, dI)) (ci := 7) (v := .ref cu) (C := RX9) (T := TX9) (N := 10) hx hb hts iX9_chance_X9 hown hK hP 0 rfl rfl 3 (by decide) (hts (.fieldLink RX9 35 "LuckyTicket" "current" "LLuckyTicket$Roll;") (List.mem_of_getElem? (i := 1) rfl)) (fun _ h9 => h9) rfl dX9_chance_1 ?_
  refine lv_iload_n hx hb dX9_chance_4 rfl (lv_at hl 1 rfl) ?_
  refine vp_callSi (W.runV (As := [.int a1]) (rest := []) ⟨hx, hb, hml, hown, hts⟩ (kX2_hasLaw l dC dI cu ln bs tk lw li fa lu a1 b_ln b_bs b_tk b_lw) (cwV 1 hts gX9_chance__X2_hasLaw_V149 rfl rfl rfl hd_yX2_hasLaw ⟨lel 1 3 rfl, lel 21 60 rfl⟩) ⟨pw_fb, rcv_X2 hK hP (q0 := 1) rfl, (pw_use hP hK hN [1] rfl [] rfl)⟩ rfl rfl hl.1 rfl (lv_room (Nat.le_of_ble_eq_true rfl)) dX9_chance_5 ⟨lel 0 0 rfl, lel 0 0 rfl⟩) (fun r_9 h_r_9 => ?_)
  obtain ⟨b_r_9, nz_r_9⟩ := h_r_9
  have b_r_9 : (0 : Int) ≤ r_9.toInt ∧ r_9.toInt ≤ 1 := b_r_9
  refine lv_if_eq (tgt := 20) hx hb dX9_chance_8 (by decide) (fun c_10 => ?_) (fun c_10 => ?_)
  ·
    have n_c_10 : (r_9.toInt : Int) = 0 := c_eq rfl (by decide) c_10
    have b_r_9 : (0 : Int) ≤ r_9.toInt ∧ r_9.toInt ≤ 0 := r_eq1 b_r_9 (by decide : (0 : Int) ≤ (0 : Int32).toInt ∧ (0 : Int32).toInt ≤ 0) n_c_10 (by decide)
    refine lv_bipush (v := (-2)) hx hb dX9_chance_20 (by decide) ?_
    exact W.iret (v := (-2)) hx hb hr (fun t ht hW => ⟨(-2), rfl, trivial, ht⟩) t_nil dX9_chance_22
  ·
    have n_c_10 : (r_9.toInt : Int) ≠ 0 := c_ne rfl (by decide) c_10
    have b_r_9 : (1 : Int) ≤ r_9.toInt ∧ r_9.toInt ≤ 1 := r_ne1 b_r_9 (by decide : (0 : Int) ≤ (0 : Int32).toInt ∧ (0 : Int32).toInt ≤ 0) n_c_10 (by decide)
    obtain ⟨b_a1, g_11⟩ := nz_r_9 c_10
    refine lv_iload_n hx hb dX9_chance_11 rfl (lv_at hl 2 rfl) ?_
    refine lv_iconst (v := 0) hx hb dX9_chance_12 (by decide) ?_
    refine lv_iconst (v := 1) hx hb dX9_chance_13 (by decide) ?_
    refine vp_callSi (W.runS (As := [.int a2, .int 0, .int 1]) (rest := []) ⟨hx, hb, hml, hown, hts⟩ (kX9_isWithin l dC dI a2 0 1 ) (va_cwS 3 hts gX9_chance__X9_isWithin_S158 rfl rfl rfl hd_yX9_isWithin.2 ⟨lel 1 3 rfl, lel 22 60 rfl⟩) ⟨pn_fb, pn_use⟩ rfl rfl hl.1 rfl (lv_room (Nat.le_of_ble_eq_true rfl)) dX9_chance_14 ⟨lel 0 0 rfl, lel 0 0 rfl⟩) (fun r_12 h_r_12 => ?_)
    obtain ⟨b_r_12, nz_r_12⟩ := h_r_12
    have b_r_12 : (0 : Int) ≤ r_12.toInt ∧ r_12.toInt ≤ 1 := b_r_12
    refine lv_if_ne (tgt := 23) hx hb dX9_chance_17 (by decide) (fun c_13 => ?_) (fun c_13 => ?_)
    ·
      have n_c_13 : (r_12.toInt : Int) ≠ 0 := c_ne rfl (by decide) c_13
      have b_r_12 : (1 : Int) ≤ r_12.toInt ∧ r_12.toInt ≤ 1 := r_ne1 b_r_12 (by decide : (0 : Int) ≤ (0 : Int32).toInt ∧ (0 : Int32).toInt ≤ 0) n_c_13 (by decide)
      have g_14 := nz_r_12 c_13
      have lt0_g_14 := (by decide : (0 : Int32).toInt = 0)
      have lt1_g_14 := (by decide : (1 : Int32).toInt = 1)
      have b_a2 : (0 : Int) ≤ a2.toInt ∧ a2.toInt ≤ 1 := by
        have q0 := (ti_rng a2)
        have q1 := (by decide : (0 : Int) ≤ (0 : Int32).toInt ∧ (0 : Int32).toInt ≤ 0)
        have q2 := (by decide : (1 : Int) ≤ (1 : Int32).toInt ∧ (1 : Int32).toInt ≤ 1)
        omega
      refine lv_aload_n hx hb dX9_chance_23 rfl (lv_at hl 0 rfl) ?_
      refine va_get (D := (dC, dI)) (ci := 7) (v := .ref cu) (C := RX9) (T := TX9) (N := 10) hx hb hts iX9_chance_X9 hown hK hP 0 rfl rfl 3 (by decide) (hts (.fieldLink RX9 35 "LuckyTicket" "current" "LLuckyTicket$Roll;") (List.mem_of_getElem? (i := 1) rfl)) (fun _ h9 => h9) rfl dX9_chance_24 ?_
      refine lv_iload_n hx hb dX9_chance_27 rfl (lv_at hl 1 rfl) ?_
      refine vp_callSi (W.runV (As := [.int a1]) (rest := []) ⟨hx, hb, hml, hown, hts⟩ (kX2_total l dC dI cu ln bs tk lw li fa lu cL nl fl a1 b_ln b_bs b_tk b_lw (by omega)) (cwV 1 hts gX9_chance__X2_total_V152 rfl rfl rfl hd_yX2_total ⟨lel 3 3 rfl, lel 60 60 rfl⟩) ⟨pw_fb, rcv_X2 hK hP (q0 := 1) rfl, (pw_use hP hK hN [1, 2] rfl [0] rfl)⟩ rfl rfl hl.1 rfl (lv_room (Nat.le_of_ble_eq_true rfl)) dX9_chance_28 ⟨lel 0 0 rfl, lel 0 0 rfl⟩) (fun r_15 h_r_15 => ?_)
      refine lv_aload_n hx hb dX9_chance_31 rfl (lv_at hl 0 rfl) ?_
      refine va_get (D := (dC, dI)) (ci := 7) (v := .ref cu) (C := RX9) (T := TX9) (N := 10) hx hb hts iX9_chance_X9 hown hK hP 0 rfl rfl 3 (by decide) (hts (.fieldLink RX9 35 "LuckyTicket" "current" "LLuckyTicket$Roll;") (List.mem_of_getElem? (i := 1) rfl)) (fun _ h9 => h9) rfl dX9_chance_32 ?_
      refine va_getN (own := RX9) (index := 155) (ref := RX2) (host := RX9) (D := (dC, dI)) (ci := 1) (v := .int tk) (C := RX2) (T := TX2) (N := 7) hx hb hts iX9_chance_X2 hown hK hP 1 rfl rfl 2 (by decide) (va_Nw.use rfl (hN _ (List.mem_of_getElem? (i := 18) rfl))) (fun _ h9 => h9) rfl dX9_chance_35 ?_
      refine lv_iload_n hx hb dX9_chance_38 rfl (lv_at hl 2 rfl) ?_
      refine vp_callSi (W.runS (As := [.int r_15, .int tk, .int a2]) (rest := []) ⟨hx, hb, hml, hown, hts⟩ (kX9_lowestTerm l dC dI r_15 tk a2 ) (va_cwS 3 hts gX9_chance__X9_lowestTerm_S188 rfl rfl rfl hd_yX9_lowestTerm.2 ⟨lel 1 3 rfl, lel 26 60 rfl⟩) ⟨pn_fb, pn_use⟩ rfl rfl hl.1 rfl (lv_room (Nat.le_of_ble_eq_true rfl)) dX9_chance_39 ⟨lel 0 0 rfl, lel 0 0 rfl⟩) (fun r_16 h_r_16 => ?_)
      exact W.iret (v := r_16) hx hb hr (fun t ht hW => ⟨r_16, rfl, trivial, ht⟩) t_nil dX9_chance_42
    ·
      have n_c_13 : (r_12.toInt : Int) = 0 := c_eq rfl (by decide) c_13
      have b_r_12 : (0 : Int) ≤ r_12.toInt ∧ r_12.toInt ≤ 0 := r_eq1 b_r_12 (by decide : (0 : Int) ≤ (0 : Int32).toInt ∧ (0 : Int32).toInt ≤ 0) n_c_13 (by decide)
      refine lv_bipush (v := (-2)) hx hb dX9_chance_20 (by decide) ?_
      exact W.iret (v := (-2)) hx hb hr (fun t ht hW => ⟨(-2), rfl, trivial, ht⟩) t_nil dX9_chance_22
theorem dX9_share_0 : decode cX9_share 0 = .ok (.aload_n 0, 1) := by decide +kernel
theorem dX9_share_1 : decode cX9_share 1 = .ok (.getfield 35, 3) := by decide +kernel
theorem dX9_share_4 : decode cX9_share 4 = .ok (.iload_n 1, 1) := by decide +kernel
theorem dX9_share_5 : decode cX9_share 5 = .ok (.invokevirtual 149, 3) := by decide +kernel
theorem dX9_share_8 : decode cX9_share 8 = .ok (.ifCond .eq 12, 3) := by decide +kernel
theorem dX9_share_11 : decode cX9_share 11 = .ok (.iload_n 2, 1) := by decide +kernel
theorem dX9_share_12 : decode cX9_share 12 = .ok (.iconst 0, 1) := by decide +kernel
theorem dX9_share_13 : decode cX9_share 13 = .ok (.iconst 1, 1) := by decide +kernel
theorem dX9_share_14 : decode cX9_share 14 = .ok (.invokestatic 158, 3) := by decide +kernel
theorem dX9_share_17 : decode cX9_share 17 = .ok (.ifCond .ne 6, 3) := by decide +kernel
theorem dX9_share_20 : decode cX9_share 20 = .ok (.bipush (-2), 2) := by decide +kernel
theorem dX9_share_22 : decode cX9_share 22 = .ok (.ireturn, 1) := by decide +kernel
theorem dX9_share_23 : decode cX9_share 23 = .ok (.aload_n 0, 1) := by decide +kernel
theorem dX9_share_24 : decode cX9_share 24 = .ok (.getfield 35, 3) := by decide +kernel
theorem dX9_share_27 : decode cX9_share 27 = .ok (.iload_n 1, 1) := by decide +kernel
theorem dX9_share_28 : decode cX9_share 28 = .ok (.invokevirtual 152, 3) := by decide +kernel
theorem dX9_share_31 : decode cX9_share 31 = .ok (.istore_n 3, 1) := by decide +kernel
theorem dX9_share_32 : decode cX9_share 32 = .ok (.iload_n 3, 1) := by decide +kernel
theorem dX9_share_33 : decode cX9_share 33 = .ok (.ifCond .ne 7, 3) := by decide +kernel
theorem dX9_share_36 : decode cX9_share 36 = .ok (.iconst (-1), 1) := by decide +kernel
theorem dX9_share_37 : decode cX9_share 37 = .ok (.goto 25, 3) := by decide +kernel
theorem dX9_share_40 : decode cX9_share 40 = .ok (.aload_n 0, 1) := by decide +kernel
theorem dX9_share_41 : decode cX9_share 41 = .ok (.getfield 35, 3) := by decide +kernel
theorem dX9_share_44 : decode cX9_share 44 = .ok (.getfield 155, 3) := by decide +kernel
theorem dX9_share_47 : decode cX9_share 47 = .ok (.iconst 2, 1) := by decide +kernel
theorem dX9_share_48 : decode cX9_share 48 = .ok (.aload_n 0, 1) := by decide +kernel
theorem dX9_share_49 : decode cX9_share 49 = .ok (.getfield 35, 3) := by decide +kernel
theorem dX9_share_52 : decode cX9_share 52 = .ok (.getfield 155, 3) := by decide +kernel
theorem dX9_share_55 : decode cX9_share 55 = .ok (.imul, 1) := by decide +kernel
theorem dX9_share_56 : decode cX9_share 56 = .ok (.iload_n 3, 1) := by decide +kernel
theorem dX9_share_57 : decode cX9_share 57 = .ok (.isub, 1) := by decide +kernel
theorem dX9_share_58 : decode cX9_share 58 = .ok (.iload_n 2, 1) := by decide +kernel
theorem dX9_share_59 : decode cX9_share 59 = .ok (.invokestatic 188, 3) := by decide +kernel
theorem dX9_share_62 : decode cX9_share 62 = .ok (.ireturn, 1) := by decide +kernel
theorem hd_yX9_share : yX9_share.cls = RX9 ∧ yX9_share.cls ≠ "java/lang/invoke/MethodHandle" ∧ yX9_share.cls ≠ "java/lang/invoke/VarHandle" ∧ (parseMethodDescriptor yX9_share.desc).map (fun d => d.parameters.length) = some 2 := by decide +kernel
def uX9_share : List Cond := List.cons (.code yX9_share cX9_share 4 (some .int)) (HAppend.hAppend ([.fieldLink RX9 35 "LuckyTicket" "current" "LLuckyTicket$Roll;", .methodLink RX9 149 yX2_hasLaw, .instanceMethod yX2_hasLaw, .selects RX2 yX2_hasLaw yX2_hasLaw, .initialized RX2, .methodLink RX9 158 yX9_isWithin, .static yX9_isWithin, .initialized RX9, .methodLink RX9 152 yX2_total, .instanceMethod yX2_total, .selects RX2 yX2_total yX2_total, .methodLink RX9 188 yX9_lowestTerm, .static yX9_lowestTerm] : List Cond) (HAppend.hAppend uX2_hasLaw (HAppend.hAppend uX9_isWithin (HAppend.hAppend uX2_total (HAppend.hAppend uX9_lowestTerm (HAppend.hAppend wsX90 wsX20))))))
theorem iX9_share_X9 : ∀ w ∈ wsX90, w ∈ uX9_share := fun _ h => (List.mem_cons_of_mem _ (List.mem_append_right _ (List.mem_append_right _ (List.mem_append_right _ (List.mem_append_right _ (List.mem_append_right _ (List.mem_append_left _ h)))))))
theorem iX9_share_X2 : ∀ w ∈ wsX20, w ∈ uX9_share := fun _ h => (List.mem_cons_of_mem _ (List.mem_append_right _ (List.mem_append_right _ (List.mem_append_right _ (List.mem_append_right _ (List.mem_append_right _ (List.mem_append_right _ h)))))))
theorem guX9_share : GU uX9_share := gu_cons (gu_app (by decide +kernel) (gu_ap guX2_hasLaw (gu_ap guX9_isWithin (gu_ap guX2_total (gu_ap guX9_lowestTerm (gu_ap gws_X9 gws_X2))))))
theorem gX9_share__X2_hasLaw_V149 : GoodIn uX9_share (wsV RX9 149 RX2 yX2_hasLaw uX2_hasLaw) := gin_V (List.mem_of_getElem? (i := 2) rfl) (List.mem_of_getElem? (i := 3) rfl) (List.mem_of_getElem? (i := 4) rfl) (List.mem_of_getElem? (i := 5) rfl) (fun _ h => (List.mem_cons_of_mem _ (List.mem_append_right _ (List.mem_append_left _ h)))) guX2_hasLaw
theorem gX9_share__X9_isWithin_S158 : GoodIn uX9_share (va_wsS RX9 158 yX9_isWithin uX9_isWithin) := gin_S (List.mem_of_getElem? (i := 6) rfl) (List.mem_of_getElem? (i := 7) rfl) (List.mem_of_getElem? (i := 8) rfl) (fun _ h => (List.mem_cons_of_mem _ (List.mem_append_right _ (List.mem_append_right _ (List.mem_append_left _ h))))) guX9_isWithin
theorem gX9_share__X2_total_V152 : GoodIn uX9_share (wsV RX9 152 RX2 yX2_total uX2_total) := gin_V (List.mem_of_getElem? (i := 9) rfl) (List.mem_of_getElem? (i := 10) rfl) (List.mem_of_getElem? (i := 11) rfl) (List.mem_of_getElem? (i := 5) rfl) (fun _ h => (List.mem_cons_of_mem _ (List.mem_append_right _ (List.mem_append_right _ (List.mem_append_right _ (List.mem_append_left _ h)))))) guX2_total
theorem gX9_share__X9_lowestTerm_S188 : GoodIn uX9_share (va_wsS RX9 188 yX9_lowestTerm uX9_lowestTerm) := gin_S (List.mem_of_getElem? (i := 12) rfl) (List.mem_of_getElem? (i := 13) rfl) (List.mem_of_getElem? (i := 8) rfl) (fun _ h => (List.mem_cons_of_mem _ (List.mem_append_right _ (List.mem_append_right _ (List.mem_append_right _ (List.mem_append_right _ (List.mem_append_left _ h))))))) guX9_lowestTerm
set_option maxHeartbeats 4000000 in
set_option maxRecDepth 100000 in
theorem kX9_share (l : Launch) (dC : Nat → ClassId) (dI : Nat → Nat → Nat) (h0 : Nat) (tp : Nat) (sc : Nat) (rd : Nat) (cu : Nat) (im : Nat) (ig : Nat) (sl : Nat) (se : Nat) (sm : Nat) (fc : Nat) (ln : Int32) (bs : Int32) (tk : Int32) (lw : Int32) (li : Int32) (fa : Nat) (lu : Nat) (cL : ClassId) (nl : Nat) (fl : Nat → Int32) (a1 : Int32) (a2 : Int32) (b_ln : (0 : Int) ≤ ln.toInt ∧ ln.toInt ≤ 12) (b_bs : (0 : Int) ≤ bs.toInt ∧ bs.toInt ≤ 16) (b_tk : (0 : Int) ≤ tk.toInt ∧ tk.toInt ≤ 20000) (b_lw : (0 : Int) ≤ lw.toInt ∧ lw.toInt ≤ 9) (hl1 : tk.toInt ≤ (nl : Int)) : Met l yX9_share uX9_share ({ frames := 3, cells := 0, slots := 0, locals := 60 }) (va_Pc [.ref h0, .int a1, .int a2] (pw (dC, dI) vwCl [(h0, .inr (7, [.ref tp, .ref sc, .ref rd, .ref cu, .ref im, .ref ig, .ref sl, .ref se, .ref sm, .ref fc])), (cu, .inr (1, [.int ln, .int bs, .int tk, .int lw, .int li, .ref fa, .ref lu])), (lu, .inl (cL, nl, .inl fl))] [(cL, .int)])) (vp_Si (fun r => True)) 0 0 (fun _ => False) := by
  refine Met.ofW (cc := cX9_share) (maxL := 4) (ret := (some .int)) pn_X9 rfl ?_
  intro p e s m args below meth c s₁ B hml hv
  obtain ⟨rfl, hP, hK, hN⟩ := hv
  have hx := B.exec
  have hb := B.bytes
  have hr := B.returns
  have hts := atoms_spec (ws := uX9_share) B.pre
  have hown : s.vm.findClass RX9 = some m.cls := hown_of B.named rfl
  have hlocks := B.notSynchronized
  have hl := lv_entry ([.ref h0, .int a1, .int a2]) (n := 4) (Nat.le_of_ble_eq_true rfl)
  rw [lg_entry_eq]
  generalize (lg_sl ([.ref h0, .int a1, .int a2]) ++ List.replicate (4 - (lg_sl ([.ref h0, .int a1, .int a2])).length) Slot.unset).toArray = ls at hl ⊢
  have hl : lv_has ls 4 [(0, .ref h0), (1, .int a1), (2, .int a2)] := hl
  refine lv_aload_n hx hb dX9_share_0 rfl (lv_at hl 0 rfl) ?_
  refine va_get (D := (dC, dI)) (ci := 7) (v := .ref cu) (C := RX9) (T := TX9) (N := 10) hx hb hts iX9_share_X9 hown hK hP 0 rfl rfl 3 (by decide) (hts (.fieldLink RX9 35 "LuckyTicket" "current" "LLuckyTicket$Roll;") (List.mem_of_getElem? (i := 1) rfl)) (fun _ h9 => h9) rfl dX9_share_1 ?_
  refine lv_iload_n hx hb dX9_share_4 rfl (lv_at hl 1 rfl) ?_
  refine vp_callSi (W.runV (As := [.int a1]) (rest := []) ⟨hx, hb, hml, hown, hts⟩ (kX2_hasLaw l dC dI cu ln bs tk lw li fa lu a1 b_ln b_bs b_tk b_lw) (cwV 1 hts gX9_share__X2_hasLaw_V149 rfl rfl rfl hd_yX2_hasLaw ⟨lel 1 3 rfl, lel 21 60 rfl⟩) ⟨pw_fb, rcv_X2 hK hP (q0 := 1) rfl, (pw_use hP hK hN [1] rfl [] rfl)⟩ rfl rfl hl.1 rfl (lv_room (Nat.le_of_ble_eq_true rfl)) dX9_share_5 ⟨lel 0 0 rfl, lel 0 0 rfl⟩) (fun r_12 h_r_12 => ?_)
  obtain ⟨b_r_12, nz_r_12⟩ := h_r_12
  have b_r_12 : (0 : Int) ≤ r_12.toInt ∧ r_12.toInt ≤ 1 := b_r_12
  refine lv_if_eq (tgt := 20) hx hb dX9_share_8 (by decide) (fun c_13 => ?_) (fun c_13 => ?_)
  ·
    have n_c_13 : (r_12.toInt : Int) = 0 := c_eq rfl (by decide) c_13
    have b_r_12 : (0 : Int) ≤ r_12.toInt ∧ r_12.toInt ≤ 0 := r_eq1 b_r_12 (by decide : (0 : Int) ≤ (0 : Int32).toInt ∧ (0 : Int32).toInt ≤ 0) n_c_13 (by decide)
    refine lv_bipush (v := (-2)) hx hb dX9_share_20 (by decide) ?_
    exact W.iret (v := (-2)) hx hb hr (fun t ht hW => ⟨(-2), rfl, trivial, ht⟩) t_nil dX9_share_22
  ·
    have n_c_13 : (r_12.toInt : Int) ≠ 0 := c_ne rfl (by decide) c_13
    have b_r_12 : (1 : Int) ≤ r_12.toInt ∧ r_12.toInt ≤ 1 := r_ne1 b_r_12 (by decide : (0 : Int) ≤ (0 : Int32).toInt ∧ (0 : Int32).toInt ≤ 0) n_c_13 (by decide)
    obtain ⟨b_a1, g_14⟩ := nz_r_12 c_13
    refine lv_iload_n hx hb dX9_share_11 rfl (lv_at hl 2 rfl) ?_
    refine lv_iconst (v := 0) hx hb dX9_share_12 (by decide) ?_
    refine lv_iconst (v := 1) hx hb dX9_share_13 (by decide) ?_
    refine vp_callSi (W.runS (As := [.int a2, .int 0, .int 1]) (rest := []) ⟨hx, hb, hml, hown, hts⟩ (kX9_isWithin l dC dI a2 0 1 ) (va_cwS 3 hts gX9_share__X9_isWithin_S158 rfl rfl rfl hd_yX9_isWithin.2 ⟨lel 1 3 rfl, lel 22 60 rfl⟩) ⟨pn_fb, pn_use⟩ rfl rfl hl.1 rfl (lv_room (Nat.le_of_ble_eq_true rfl)) dX9_share_14 ⟨lel 0 0 rfl, lel 0 0 rfl⟩) (fun r_15 h_r_15 => ?_)
    obtain ⟨b_r_15, nz_r_15⟩ := h_r_15
    have b_r_15 : (0 : Int) ≤ r_15.toInt ∧ r_15.toInt ≤ 1 := b_r_15
    refine lv_if_ne (tgt := 23) hx hb dX9_share_17 (by decide) (fun c_16 => ?_) (fun c_16 => ?_)
    ·
      have n_c_16 : (r_15.toInt : Int) ≠ 0 := c_ne rfl (by decide) c_16
      have b_r_15 : (1 : Int) ≤ r_15.toInt ∧ r_15.toInt ≤ 1 := r_ne1 b_r_15 (by decide : (0 : Int) ≤ (0 : Int32).toInt ∧ (0 : Int32).toInt ≤ 0) n_c_16 (by decide)
      have g_17 := nz_r_15 c_16
      have lt0_g_17 := (by decide : (0 : Int32).toInt = 0)
      have lt1_g_17 := (by decide : (1 : Int32).toInt = 1)
      have b_a2 : (0 : Int) ≤ a2.toInt ∧ a2.toInt ≤ 1 := by
        have q0 := (ti_rng a2)
        have q1 := (by decide : (0 : Int) ≤ (0 : Int32).toInt ∧ (0 : Int32).toInt ≤ 0)
        have q2 := (by decide : (1 : Int) ≤ (1 : Int32).toInt ∧ (1 : Int32).toInt ≤ 1)
        omega
      refine lv_aload_n hx hb dX9_share_23 rfl (lv_at hl 0 rfl) ?_
      refine va_get (D := (dC, dI)) (ci := 7) (v := .ref cu) (C := RX9) (T := TX9) (N := 10) hx hb hts iX9_share_X9 hown hK hP 0 rfl rfl 3 (by decide) (hts (.fieldLink RX9 35 "LuckyTicket" "current" "LLuckyTicket$Roll;") (List.mem_of_getElem? (i := 1) rfl)) (fun _ h9 => h9) rfl dX9_share_24 ?_
      refine lv_iload_n hx hb dX9_share_27 rfl (lv_at hl 1 rfl) ?_
      refine vp_callSi (W.runV (As := [.int a1]) (rest := []) ⟨hx, hb, hml, hown, hts⟩ (kX2_total l dC dI cu ln bs tk lw li fa lu cL nl fl a1 b_ln b_bs b_tk b_lw (by omega)) (cwV 1 hts gX9_share__X2_total_V152 rfl rfl rfl hd_yX2_total ⟨lel 3 3 rfl, lel 60 60 rfl⟩) ⟨pw_fb, rcv_X2 hK hP (q0 := 1) rfl, (pw_use hP hK hN [1, 2] rfl [0] rfl)⟩ rfl rfl hl.1 rfl (lv_room (Nat.le_of_ble_eq_true rfl)) dX9_share_28 ⟨lel 0 0 rfl, lel 0 0 rfl⟩) (fun r_18 h_r_18 => ?_)
      refine lv_istore_n (lv' := [(3, .int r_18), (0, .ref h0), (1, .int a1), (2, .int a2)]) hx hb dX9_share_31 rfl hl (by decide) rfl (fun ls hl => ?_)
      refine lv_iload_n hx hb dX9_share_32 rfl (lv_at hl 0 rfl) ?_
      refine lv_if_ne (tgt := 40) hx hb dX9_share_33 (by decide) (fun c_19 => ?_) (fun c_19 => ?_)
      ·
        have n_c_19 : (r_18.toInt : Int) ≠ 0 := c_ne rfl (by decide) c_19
        refine lv_aload_n hx hb dX9_share_40 rfl (lv_at hl 1 rfl) ?_
        refine va_get (D := (dC, dI)) (ci := 7) (v := .ref cu) (C := RX9) (T := TX9) (N := 10) hx hb hts iX9_share_X9 hown hK hP 0 rfl rfl 3 (by decide) (hts (.fieldLink RX9 35 "LuckyTicket" "current" "LLuckyTicket$Roll;") (List.mem_of_getElem? (i := 1) rfl)) (fun _ h9 => h9) rfl dX9_share_41 ?_
        refine va_getN (own := RX9) (index := 155) (ref := RX2) (host := RX9) (D := (dC, dI)) (ci := 1) (v := .int tk) (C := RX2) (T := TX2) (N := 7) hx hb hts iX9_share_X2 hown hK hP 1 rfl rfl 2 (by decide) (va_Nw.use rfl (hN _ (List.mem_of_getElem? (i := 18) rfl))) (fun _ h9 => h9) rfl dX9_share_44 ?_
        refine lv_iconst (v := 2) hx hb dX9_share_47 (by decide) ?_
        refine lv_aload_n hx hb dX9_share_48 rfl (lv_at hl 1 rfl) ?_
        refine va_get (D := (dC, dI)) (ci := 7) (v := .ref cu) (C := RX9) (T := TX9) (N := 10) hx hb hts iX9_share_X9 hown hK hP 0 rfl rfl 3 (by decide) (hts (.fieldLink RX9 35 "LuckyTicket" "current" "LLuckyTicket$Roll;") (List.mem_of_getElem? (i := 1) rfl)) (fun _ h9 => h9) rfl dX9_share_49 ?_
        refine va_getN (own := RX9) (index := 155) (ref := RX2) (host := RX9) (D := (dC, dI)) (ci := 1) (v := .int tk) (C := RX2) (T := TX2) (N := 7) hx hb hts iX9_share_X2 hown hK hP 1 rfl rfl 2 (by decide) (va_Nw.use rfl (hN _ (List.mem_of_getElem? (i := 18) rfl))) (fun _ h9 => h9) rfl dX9_share_52 ?_
        refine lv_imul hx hb dX9_share_55 ?_
        refine lv_topi (fun z_20 e_z_20 => ?_)
        obtain ⟨q_z_20, b_z_20⟩ := ti_mul (lo := 0) (hi := 40000) e_z_20 (by decide : (2 : Int32).toInt = 2) rfl (by decide : (2 : Int) ≤ (2 : Int32).toInt ∧ (2 : Int32).toInt ≤ 2) b_tk (by decide)
        refine lv_iload_n hx hb dX9_share_56 rfl (lv_at hl 0 rfl) ?_
        refine lv_isub hx hb dX9_share_57 ?_
        refine lv_topi (fun z_21 e_z_21 => ?_)
        refine lv_iload_n hx hb dX9_share_58 rfl (lv_at hl 3 rfl) ?_
        refine vp_callSi (W.runS (As := [.int tk, .int z_21, .int a2]) (rest := []) ⟨hx, hb, hml, hown, hts⟩ (kX9_lowestTerm l dC dI tk z_21 a2 ) (va_cwS 3 hts gX9_share__X9_lowestTerm_S188 rfl rfl rfl hd_yX9_lowestTerm.2 ⟨lel 1 3 rfl, lel 26 60 rfl⟩) ⟨pn_fb, pn_use⟩ rfl rfl hl.1 rfl (lv_room (Nat.le_of_ble_eq_true rfl)) dX9_share_59 ⟨lel 0 0 rfl, lel 0 0 rfl⟩) (fun r_22 h_r_22 => ?_)
        exact W.iret (v := r_22) hx hb hr (fun t ht hW => ⟨r_22, rfl, trivial, ht⟩) t_nil dX9_share_62
      ·
        have n_c_19 : (r_18.toInt : Int) = 0 := c_eq rfl (by decide) c_19
        have b_r_18 : (0 : Int) ≤ r_18.toInt ∧ r_18.toInt ≤ 0 := r_eq1 (ti_rng r_18) (by decide : (0 : Int) ≤ (0 : Int32).toInt ∧ (0 : Int32).toInt ≤ 0) n_c_19 (by decide)
        refine lv_iconst (v := (-1)) hx hb dX9_share_36 (by decide) ?_
        refine lv_goto (tgt := 62) hx hb dX9_share_37 (by decide) ?_
        exact W.iret (v := (-1)) hx hb hr (fun t ht hW => ⟨(-1), rfl, trivial, ht⟩) t_nil dX9_share_62
    ·
      have n_c_16 : (r_15.toInt : Int) = 0 := c_eq rfl (by decide) c_16
      have b_r_15 : (0 : Int) ≤ r_15.toInt ∧ r_15.toInt ≤ 0 := r_eq1 b_r_15 (by decide : (0 : Int) ≤ (0 : Int32).toInt ∧ (0 : Int32).toInt ≤ 0) n_c_16 (by decide)
      refine lv_bipush (v := (-2)) hx hb dX9_share_20 (by decide) ?_
      exact W.iret (v := (-2)) hx hb hr (fun t ht hW => ⟨(-2), rfl, trivial, ht⟩) t_nil dX9_share_22
theorem dX9_whose_0 : decode cX9_whose 0 = .ok (.aload_n 0, 1) := by decide +kernel
theorem dX9_whose_1 : decode cX9_whose 1 = .ok (.iload_n 1, 1) := by decide +kernel
theorem dX9_whose_2 : decode cX9_whose 2 = .ok (.iload_n 2, 1) := by decide +kernel
theorem dX9_whose_3 : decode cX9_whose 3 = .ok (.invokevirtual 137, 3) := by decide +kernel
theorem dX9_whose_6 : decode cX9_whose 6 = .ok (.ifCond .ne 6, 3) := by decide +kernel
theorem dX9_whose_9 : decode cX9_whose 9 = .ok (.bipush (-2), 2) := by decide +kernel
theorem dX9_whose_11 : decode cX9_whose 11 = .ok (.ireturn, 1) := by decide +kernel
theorem dX9_whose_12 : decode cX9_whose 12 = .ok (.aload_n 0, 1) := by decide +kernel
theorem dX9_whose_13 : decode cX9_whose 13 = .ok (.getfield 35, 3) := by decide +kernel
theorem dX9_whose_16 : decode cX9_whose 16 = .ok (.iload_n 1, 1) := by decide +kernel
theorem dX9_whose_17 : decode cX9_whose 17 = .ok (.iload_n 2, 1) := by decide +kernel
theorem dX9_whose_18 : decode cX9_whose 18 = .ok (.invokevirtual 166, 3) := by decide +kernel
theorem dX9_whose_21 : decode cX9_whose 21 = .ok (.istore_n 3, 1) := by decide +kernel
theorem dX9_whose_22 : decode cX9_whose 22 = .ok (.iload_n 3, 1) := by decide +kernel
theorem dX9_whose_23 : decode cX9_whose 23 = .ok (.iconst (-1), 1) := by decide +kernel
theorem dX9_whose_24 : decode cX9_whose 24 = .ok (.if_icmp .ne 7, 3) := by decide +kernel
theorem dX9_whose_27 : decode cX9_whose 27 = .ok (.iconst (-1), 1) := by decide +kernel
theorem dX9_whose_28 : decode cX9_whose 28 = .ok (.goto 8, 3) := by decide +kernel
theorem dX9_whose_31 : decode cX9_whose 31 = .ok (.iload_n 3, 1) := by decide +kernel
theorem dX9_whose_32 : decode cX9_whose 32 = .ok (.iload_n 2, 1) := by decide +kernel
theorem dX9_whose_33 : decode cX9_whose 33 = .ok (.isub, 1) := by decide +kernel
theorem dX9_whose_34 : decode cX9_whose 34 = .ok (.iconst 1, 1) := by decide +kernel
theorem dX9_whose_35 : decode cX9_whose 35 = .ok (.iand, 1) := by decide +kernel
theorem dX9_whose_36 : decode cX9_whose 36 = .ok (.ireturn, 1) := by decide +kernel
theorem hd_yX9_whose : yX9_whose.cls = RX9 ∧ yX9_whose.cls ≠ "java/lang/invoke/MethodHandle" ∧ yX9_whose.cls ≠ "java/lang/invoke/VarHandle" ∧ (parseMethodDescriptor yX9_whose.desc).map (fun d => d.parameters.length) = some 2 := by decide +kernel
def uX9_whose : List Cond := List.cons (.code yX9_whose cX9_whose 4 (some .int)) (HAppend.hAppend ([.methodLink RX9 137 yX9_hasBoth, .instanceMethod yX9_hasBoth, .selects RX9 yX9_hasBoth yX9_hasBoth, .initialized RX9, .fieldLink RX9 35 "LuckyTicket" "current" "LLuckyTicket$Roll;", .methodLink RX9 166 yX2_seekUp, .instanceMethod yX2_seekUp, .selects RX2 yX2_seekUp yX2_seekUp, .initialized RX2] : List Cond) (HAppend.hAppend uX9_hasBoth (HAppend.hAppend uX2_seekUp wsX90)))
theorem iX9_whose_X9 : ∀ w ∈ wsX90, w ∈ uX9_whose := fun _ h => (List.mem_cons_of_mem _ (List.mem_append_right _ (List.mem_append_right _ (List.mem_append_right _ h))))
theorem guX9_whose : GU uX9_whose := gu_cons (gu_app (by decide +kernel) (gu_ap guX9_hasBoth (gu_ap guX2_seekUp gws_X9)))
theorem gX9_whose__X9_hasBoth_V137 : GoodIn uX9_whose (wsV RX9 137 RX9 yX9_hasBoth uX9_hasBoth) := gin_V (List.mem_of_getElem? (i := 1) rfl) (List.mem_of_getElem? (i := 2) rfl) (List.mem_of_getElem? (i := 3) rfl) (List.mem_of_getElem? (i := 4) rfl) (fun _ h => (List.mem_cons_of_mem _ (List.mem_append_right _ (List.mem_append_left _ h)))) guX9_hasBoth
theorem gX9_whose__X2_seekUp_V166 : GoodIn uX9_whose (wsV RX9 166 RX2 yX2_seekUp uX2_seekUp) := gin_V (List.mem_of_getElem? (i := 6) rfl) (List.mem_of_getElem? (i := 7) rfl) (List.mem_of_getElem? (i := 8) rfl) (List.mem_of_getElem? (i := 9) rfl) (fun _ h => (List.mem_cons_of_mem _ (List.mem_append_right _ (List.mem_append_right _ (List.mem_append_left _ h))))) guX2_seekUp
set_option maxHeartbeats 4000000 in
set_option maxRecDepth 100000 in
theorem kX9_whose (l : Launch) (dC : Nat → ClassId) (dI : Nat → Nat → Nat) (h0 : Nat) (tp : Nat) (sc : Nat) (rd : Nat) (cu : Nat) (im : Nat) (ig : Nat) (sl : Nat) (se : Nat) (sm : Nat) (fc : Nat) (ln : Int32) (bs : Int32) (tk : Int32) (lw : Int32) (li : Int32) (fa : Nat) (lu : Nat) (cL : ClassId) (nl : Nat) (fl : Nat → Int32) (a1 : Int32) (a2 : Int32) (b_ln : (0 : Int) ≤ ln.toInt ∧ ln.toInt ≤ 12) (b_bs : (0 : Int) ≤ bs.toInt ∧ bs.toInt ≤ 16) (b_tk : (0 : Int) ≤ tk.toInt ∧ tk.toInt ≤ 20000) (b_lw : (0 : Int) ≤ lw.toInt ∧ lw.toInt ≤ 9) (hl1 : tk.toInt ≤ (nl : Int)) : Met l yX9_whose uX9_whose ({ frames := 2, cells := 0, slots := 0, locals := 45 }) (va_Pc [.ref h0, .int a1, .int a2] (pw (dC, dI) vwCl [(h0, .inr (7, [.ref tp, .ref sc, .ref rd, .ref cu, .ref im, .ref ig, .ref sl, .ref se, .ref sm, .ref fc])), (cu, .inr (1, [.int ln, .int bs, .int tk, .int lw, .int li, .ref fa, .ref lu])), (lu, .inl (cL, nl, .inl fl))] [(cL, .int)])) (vp_Si (fun r => ((-2 : Int) ≤ r.toInt ∧ r.toInt ≤ 1))) 0 0 (fun _ => False) := by
  refine Met.ofW (cc := cX9_whose) (maxL := 4) (ret := (some .int)) pn_X9 rfl ?_
  intro p e s m args below meth c s₁ B hml hv
  obtain ⟨rfl, hP, hK, hN⟩ := hv
  have hx := B.exec
  have hb := B.bytes
  have hr := B.returns
  have hts := atoms_spec (ws := uX9_whose) B.pre
  have hown : s.vm.findClass RX9 = some m.cls := hown_of B.named rfl
  have hlocks := B.notSynchronized
  have hl := lv_entry ([.ref h0, .int a1, .int a2]) (n := 4) (Nat.le_of_ble_eq_true rfl)
  rw [lg_entry_eq]
  generalize (lg_sl ([.ref h0, .int a1, .int a2]) ++ List.replicate (4 - (lg_sl ([.ref h0, .int a1, .int a2])).length) Slot.unset).toArray = ls at hl ⊢
  have hl : lv_has ls 4 [(0, .ref h0), (1, .int a1), (2, .int a2)] := hl
  refine lv_aload_n hx hb dX9_whose_0 rfl (lv_at hl 0 rfl) ?_
  refine lv_iload_n hx hb dX9_whose_1 rfl (lv_at hl 1 rfl) ?_
  refine lv_iload_n hx hb dX9_whose_2 rfl (lv_at hl 2 rfl) ?_
  refine vp_callSi (W.runV (As := [.int a1, .int a2]) (rest := []) ⟨hx, hb, hml, hown, hts⟩ (kX9_hasBoth l dC dI h0 tp sc rd cu im ig sl se sm fc ln bs tk lw li fa lu a1 a2 b_ln b_bs b_tk b_lw) (cwV 2 hts gX9_whose__X9_hasBoth_V137 rfl rfl rfl hd_yX9_hasBoth ⟨lel 2 2 rfl, lel 43 45 rfl⟩) ⟨pw_fb, rcv_X9 hK hP (q0 := 0) rfl, (pw_use hP hK hN [0, 1] rfl [] rfl)⟩ rfl rfl hl.1 rfl (lv_room (Nat.le_of_ble_eq_true rfl)) dX9_whose_3 ⟨lel 0 0 rfl, lel 0 0 rfl⟩) (fun r_8 h_r_8 => ?_)
  obtain ⟨b_r_8, nz_r_8⟩ := h_r_8
  have b_r_8 : (0 : Int) ≤ r_8.toInt ∧ r_8.toInt ≤ 1 := b_r_8
  refine lv_if_ne (tgt := 12) hx hb dX9_whose_6 (by decide) (fun c_9 => ?_) (fun c_9 => ?_)
  ·
    have n_c_9 : (r_8.toInt : Int) ≠ 0 := c_ne rfl (by decide) c_9
    have b_r_8 : (1 : Int) ≤ r_8.toInt ∧ r_8.toInt ≤ 1 := r_ne1 b_r_8 (by decide : (0 : Int) ≤ (0 : Int32).toInt ∧ (0 : Int32).toInt ≤ 0) n_c_9 (by decide)
    obtain ⟨b_a1, b_a2, g_10⟩ := nz_r_8 c_9
    refine lv_aload_n hx hb dX9_whose_12 rfl (lv_at hl 0 rfl) ?_
    refine va_get (D := (dC, dI)) (ci := 7) (v := .ref cu) (C := RX9) (T := TX9) (N := 10) hx hb hts iX9_whose_X9 hown hK hP 0 rfl rfl 3 (by decide) (hts (.fieldLink RX9 35 "LuckyTicket" "current" "LLuckyTicket$Roll;") (List.mem_of_getElem? (i := 5) rfl)) (fun _ h9 => h9) rfl dX9_whose_13 ?_
    refine lv_iload_n hx hb dX9_whose_16 rfl (lv_at hl 1 rfl) ?_
    refine lv_iload_n hx hb dX9_whose_17 rfl (lv_at hl 2 rfl) ?_
    refine vp_callSi (W.runV (As := [.int a1, .int a2]) (rest := []) ⟨hx, hb, hml, hown, hts⟩ (kX2_seekUp l dC dI cu ln bs tk lw li fa lu cL nl fl a1 a2 b_ln b_bs b_tk b_lw (by omega)) (cwV 2 hts gX9_whose__X2_seekUp_V166 rfl rfl rfl hd_yX2_seekUp ⟨lel 2 2 rfl, lel 45 45 rfl⟩) ⟨pw_fb, rcv_X2 hK hP (q0 := 1) rfl, (pw_use hP hK hN [1, 2] rfl [0] rfl)⟩ rfl rfl hl.1 rfl (lv_room (Nat.le_of_ble_eq_true rfl)) dX9_whose_18 ⟨lel 0 0 rfl, lel 0 0 rfl⟩) (fun r_11 h_r_11 => ?_)
    have b_r_11 := h_r_11
    have b_r_11 : (-2147483648 : Int) ≤ r_11.toInt ∧ r_11.toInt ≤ 19999 := b_r_11
    refine lv_istore_n (lv' := [(3, .int r_11), (0, .ref h0), (1, .int a1), (2, .int a2)]) hx hb dX9_whose_21 rfl hl (by decide) rfl (fun ls hl => ?_)
    refine lv_iload_n hx hb dX9_whose_22 rfl (lv_at hl 0 rfl) ?_
    refine lv_iconst (v := (-1)) hx hb dX9_whose_23 (by decide) ?_
    refine lv_icmp_ne (tgt := 31) hx hb dX9_whose_24 (by decide) (fun c_12 => ?_) (fun c_12 => ?_)
    ·
      have n_c_12 : (r_11.toInt : Int) ≠ (-1) := c_ne rfl (by decide) c_12
      refine lv_iload_n hx hb dX9_whose_31 rfl (lv_at hl 0 rfl) ?_
      refine lv_iload_n hx hb dX9_whose_32 rfl (lv_at hl 3 rfl) ?_
      refine lv_isub hx hb dX9_whose_33 ?_
      refine lv_topi (fun z_13 e_z_13 => ?_)
      refine lv_iconst (v := 1) hx hb dX9_whose_34 (by decide) ?_
      refine lv_iand hx hb dX9_whose_35 ?_
      refine lv_topi (fun z_14 e_z_14 => ?_)
      have b_z_14 : (0 : Int) ≤ z_14.toInt ∧ z_14.toInt ≤ 1 := ti_and (k := 1) e_z_14 (by decide) (by decide) (by decide)
      exact W.iret (v := z_14) hx hb hr (fun t ht hW => ⟨z_14, rfl, (rg_w b_z_14 (by decide) (by decide)), ht⟩) t_nil dX9_whose_36
    ·
      have n_c_12 : (r_11.toInt : Int) = (-1) := c_eq rfl (by decide) c_12
      have b_r_11 : (-1 : Int) ≤ r_11.toInt ∧ r_11.toInt ≤ -1 := r_eq1 b_r_11 (by decide : (-1 : Int) ≤ ((-1) : Int32).toInt ∧ ((-1) : Int32).toInt ≤ -1) n_c_12 (by decide)
      refine lv_iconst (v := (-1)) hx hb dX9_whose_27 (by decide) ?_
      refine lv_goto (tgt := 36) hx hb dX9_whose_28 (by decide) ?_
      exact W.iret (v := (-1)) hx hb hr (fun t ht hW => ⟨(-1), rfl, (rg_w (by decide : (-1 : Int) ≤ ((-1) : Int32).toInt ∧ ((-1) : Int32).toInt ≤ -1) (by decide) (by decide)), ht⟩) t_nil dX9_whose_36
  ·
    have n_c_9 : (r_8.toInt : Int) = 0 := c_eq rfl (by decide) c_9
    have b_r_8 : (0 : Int) ≤ r_8.toInt ∧ r_8.toInt ≤ 0 := r_eq1 b_r_8 (by decide : (0 : Int) ≤ (0 : Int32).toInt ∧ (0 : Int32).toInt ≤ 0) n_c_9 (by decide)
    refine lv_bipush (v := (-2)) hx hb dX9_whose_9 (by decide) ?_
    exact W.iret (v := (-2)) hx hb hr (fun t ht hW => ⟨(-2), rfl, (rg_w (by decide : (-2 : Int) ≤ ((-2) : Int32).toInt ∧ ((-2) : Int32).toInt ≤ -2) (by decide) (by decide)), ht⟩) t_nil dX9_whose_11
theorem dX9_both_0 : decode cX9_both 0 = .ok (.aload_n 0, 1) := by decide +kernel
theorem dX9_both_1 : decode cX9_both 1 = .ok (.getfield 35, 3) := by decide +kernel
theorem dX9_both_4 : decode cX9_both 4 = .ok (.iload_n 1, 1) := by decide +kernel
theorem dX9_both_5 : decode cX9_both 5 = .ok (.invokevirtual 191, 3) := by decide +kernel
theorem dX9_both_8 : decode cX9_both 8 = .ok (.ifCond .ne 6, 3) := by decide +kernel
theorem dX9_both_11 : decode cX9_both 11 = .ok (.bipush (-2), 2) := by decide +kernel
theorem dX9_both_13 : decode cX9_both 13 = .ok (.ireturn, 1) := by decide +kernel
theorem dX9_both_14 : decode cX9_both 14 = .ok (.iconst 0, 1) := by decide +kernel
theorem dX9_both_15 : decode cX9_both 15 = .ok (.istore_n 2, 1) := by decide +kernel
theorem dX9_both_16 : decode cX9_both 16 = .ok (.iconst 0, 1) := by decide +kernel
theorem dX9_both_17 : decode cX9_both 17 = .ok (.istore_n 3, 1) := by decide +kernel
theorem dX9_both_18 : decode cX9_both 18 = .ok (.iload_n 3, 1) := by decide +kernel
theorem dX9_both_19 : decode cX9_both 19 = .ok (.aload_n 0, 1) := by decide +kernel
theorem dX9_both_20 : decode cX9_both 20 = .ok (.getfield 35, 3) := by decide +kernel
theorem dX9_both_23 : decode cX9_both 23 = .ok (.getfield 155, 3) := by decide +kernel
theorem dX9_both_26 : decode cX9_both 26 = .ok (.if_icmp .ge 26, 3) := by decide +kernel
theorem dX9_both_29 : decode cX9_both 29 = .ok (.aload_n 0, 1) := by decide +kernel
theorem dX9_both_30 : decode cX9_both 30 = .ok (.getfield 35, 3) := by decide +kernel
theorem dX9_both_33 : decode cX9_both 33 = .ok (.iload_n 3, 1) := by decide +kernel
theorem dX9_both_34 : decode cX9_both 34 = .ok (.invokevirtual 145, 3) := by decide +kernel
theorem dX9_both_37 : decode cX9_both 37 = .ok (.iload_n 1, 1) := by decide +kernel
theorem dX9_both_38 : decode cX9_both 38 = .ok (.iand, 1) := by decide +kernel
theorem dX9_both_39 : decode cX9_both 39 = .ok (.iload_n 1, 1) := by decide +kernel
theorem dX9_both_40 : decode cX9_both 40 = .ok (.if_icmp .ne 6, 3) := by decide +kernel
theorem dX9_both_43 : decode cX9_both 43 = .ok (.iinc 2 1, 3) := by decide +kernel
theorem dX9_both_46 : decode cX9_both 46 = .ok (.iinc 3 1, 3) := by decide +kernel
theorem dX9_both_49 : decode cX9_both 49 = .ok (.goto (-31), 3) := by decide +kernel
theorem dX9_both_52 : decode cX9_both 52 = .ok (.iload_n 2, 1) := by decide +kernel
theorem dX9_both_53 : decode cX9_both 53 = .ok (.ireturn, 1) := by decide +kernel
theorem hd_yX9_both : yX9_both.cls = RX9 ∧ yX9_both.cls ≠ "java/lang/invoke/MethodHandle" ∧ yX9_both.cls ≠ "java/lang/invoke/VarHandle" ∧ (parseMethodDescriptor yX9_both.desc).map (fun d => d.parameters.length) = some 1 := by decide +kernel
def uX9_both : List Cond := List.cons (.code yX9_both cX9_both 4 (some .int)) (HAppend.hAppend ([.fieldLink RX9 35 "LuckyTicket" "current" "LLuckyTicket$Roll;", .methodLink RX9 191 yX2_hasSet, .instanceMethod yX2_hasSet, .selects RX2 yX2_hasSet yX2_hasSet, .initialized RX2, .methodLink RX9 145 yX2_luckOf, .instanceMethod yX2_luckOf, .selects RX2 yX2_luckOf yX2_luckOf] : List Cond) (HAppend.hAppend uX2_hasSet (HAppend.hAppend uX2_luckOf (HAppend.hAppend wsX90 wsX20))))
theorem iX9_both_X9 : ∀ w ∈ wsX90, w ∈ uX9_both := fun _ h => (List.mem_cons_of_mem _ (List.mem_append_right _ (List.mem_append_right _ (List.mem_append_right _ (List.mem_append_left _ h)))))
theorem iX9_both_X2 : ∀ w ∈ wsX20, w ∈ uX9_both := fun _ h => (List.mem_cons_of_mem _ (List.mem_append_right _ (List.mem_append_right _ (List.mem_append_right _ (List.mem_append_right _ h)))))
theorem guX9_both : GU uX9_both := gu_cons (gu_app (by decide +kernel) (gu_ap guX2_hasSet (gu_ap guX2_luckOf (gu_ap gws_X9 gws_X2))))
theorem gX9_both__X2_hasSet_V191 : GoodIn uX9_both (wsV RX9 191 RX2 yX2_hasSet uX2_hasSet) := gin_V (List.mem_of_getElem? (i := 2) rfl) (List.mem_of_getElem? (i := 3) rfl) (List.mem_of_getElem? (i := 4) rfl) (List.mem_of_getElem? (i := 5) rfl) (fun _ h => (List.mem_cons_of_mem _ (List.mem_append_right _ (List.mem_append_left _ h)))) guX2_hasSet
theorem gX9_both__X2_luckOf_V145 : GoodIn uX9_both (wsV RX9 145 RX2 yX2_luckOf uX2_luckOf) := gin_V (List.mem_of_getElem? (i := 6) rfl) (List.mem_of_getElem? (i := 7) rfl) (List.mem_of_getElem? (i := 8) rfl) (List.mem_of_getElem? (i := 5) rfl) (fun _ h => (List.mem_cons_of_mem _ (List.mem_append_right _ (List.mem_append_right _ (List.mem_append_left _ h))))) guX2_luckOf
set_option maxHeartbeats 4000000 in
set_option maxRecDepth 100000 in
theorem kX9_both (l : Launch) (dC : Nat → ClassId) (dI : Nat → Nat → Nat) (h0 : Nat) (tp : Nat) (sc : Nat) (rd : Nat) (cu : Nat) (im : Nat) (ig : Nat) (sl : Nat) (se : Nat) (sm : Nat) (fc : Nat) (ln : Int32) (bs : Int32) (tk : Int32) (lw : Int32) (li : Int32) (fa : Nat) (lu : Nat) (cL : ClassId) (nl : Nat) (fl : Nat → Int32) (a1 : Int32) (b_ln : (0 : Int) ≤ ln.toInt ∧ ln.toInt ≤ 12) (b_bs : (0 : Int) ≤ bs.toInt ∧ bs.toInt ≤ 16) (b_tk : (0 : Int) ≤ tk.toInt ∧ tk.toInt ≤ 20000) (b_lw : (0 : Int) ≤ lw.toInt ∧ lw.toInt ≤ 9) (hl1 : tk.toInt ≤ (nl : Int)) : Met l yX9_both uX9_both ({ frames := 2, cells := 0, slots := 0, locals := 42 }) (va_Pc [.ref h0, .int a1] (pw (dC, dI) vwCl [(h0, .inr (7, [.ref tp, .ref sc, .ref rd, .ref cu, .ref im, .ref ig, .ref sl, .ref se, .ref sm, .ref fc])), (cu, .inr (1, [.int ln, .int bs, .int tk, .int lw, .int li, .ref fa, .ref lu])), (lu, .inl (cL, nl, .inl fl))] [(cL, .int)])) (vp_Si (fun r => True)) 0 0 (fun _ => False) := by
  refine Met.ofW (cc := cX9_both) (maxL := 4) (ret := (some .int)) pn_X9 rfl ?_
  intro p e s m args below meth c s₁ B hml hv
  obtain ⟨rfl, hP, hK, hN⟩ := hv
  have hx := B.exec
  have hb := B.bytes
  have hr := B.returns
  have hts := atoms_spec (ws := uX9_both) B.pre
  have hown : s.vm.findClass RX9 = some m.cls := hown_of B.named rfl
  have hlocks := B.notSynchronized
  have hl := lv_entry ([.ref h0, .int a1]) (n := 4) (Nat.le_of_ble_eq_true rfl)
  rw [lg_entry_eq]
  generalize (lg_sl ([.ref h0, .int a1]) ++ List.replicate (4 - (lg_sl ([.ref h0, .int a1])).length) Slot.unset).toArray = ls at hl ⊢
  have hl : lv_has ls 4 [(0, .ref h0), (1, .int a1)] := hl
  refine lv_aload_n hx hb dX9_both_0 rfl (lv_at hl 0 rfl) ?_
  refine va_get (D := (dC, dI)) (ci := 7) (v := .ref cu) (C := RX9) (T := TX9) (N := 10) hx hb hts iX9_both_X9 hown hK hP 0 rfl rfl 3 (by decide) (hts (.fieldLink RX9 35 "LuckyTicket" "current" "LLuckyTicket$Roll;") (List.mem_of_getElem? (i := 1) rfl)) (fun _ h9 => h9) rfl dX9_both_1 ?_
  refine lv_iload_n hx hb dX9_both_4 rfl (lv_at hl 1 rfl) ?_
  refine vp_callSi (W.runV (As := [.int a1]) (rest := []) ⟨hx, hb, hml, hown, hts⟩ (kX2_hasSet l dC dI cu ln bs tk lw li fa lu a1 b_ln b_bs b_tk b_lw) (cwV 1 hts gX9_both__X2_hasSet_V191 rfl rfl rfl hd_yX2_hasSet ⟨lel 2 2 rfl, lel 41 42 rfl⟩) ⟨pw_fb, rcv_X2 hK hP (q0 := 1) rfl, (pw_use hP hK hN [1] rfl [] rfl)⟩ rfl rfl hl.1 rfl (lv_room (Nat.le_of_ble_eq_true rfl)) dX9_both_5 ⟨lel 0 0 rfl, lel 0 0 rfl⟩) (fun r_141 h_r_141 => ?_)
  have b_r_141 := h_r_141
  have b_r_141 : (0 : Int) ≤ r_141.toInt ∧ r_141.toInt ≤ 1 := b_r_141
  refine lv_if_ne (tgt := 14) hx hb dX9_both_8 (by decide) (fun c_142 => ?_) (fun c_142 => ?_)
  ·
    have n_c_142 : (r_141.toInt : Int) ≠ 0 := c_ne rfl (by decide) c_142
    have b_r_141 : (1 : Int) ≤ r_141.toInt ∧ r_141.toInt ≤ 1 := r_ne1 b_r_141 (by decide : (0 : Int) ≤ (0 : Int32).toInt ∧ (0 : Int32).toInt ≤ 0) n_c_142 (by decide)
    refine lv_iconst (v := 0) hx hb dX9_both_14 (by decide) ?_
    refine lv_istore_n (lv' := [(2, .int 0), (0, .ref h0), (1, .int a1)]) hx hb dX9_both_15 rfl hl (by decide) rfl (fun ls hl => ?_)
    refine lv_iconst (v := 0) hx hb dX9_both_16 (by decide) ?_
    refine lv_istore_n (lv' := [(3, .int 0), (2, .int 0), (0, .ref h0), (1, .int a1)]) hx hb dX9_both_17 rfl hl (by decide) rfl (fun ls hl => ?_)
    refine loopP (σ := Int32 × Int32) (fun v => (20000 - v.1.toInt).toNat) (fun v ls => ((0 : Int) ≤ v.1.toInt ∧ v.1.toInt ≤ 20000) ∧ lv_has ls 4 [(3, .int v.1), (2, .int v.2), (0, .ref h0), (1, .int a1)]) (fun v ls hI ih_18_272 => ?_) ((0 : Int32), (0 : Int32)) ⟨(show (0 : Int) ≤ (0 : Int32).toInt ∧ (0 : Int32).toInt ≤ 20000 from (rg_w (by decide : (0 : Int) ≤ (0 : Int32).toInt ∧ (0 : Int32).toInt ≤ 0) (by decide) (by decide))), lv_sub hl [0, 1, 2, 3] rfl⟩
    obtain ⟨y_151, y_152⟩ := v
    obtain ⟨b_y_151, hl⟩ := hI
    have b_y_151 : (0 : Int) ≤ y_151.toInt ∧ y_151.toInt ≤ 20000 := b_y_151
    have hl : lv_has ls 4 [(3, .int y_151), (2, .int y_152), (0, .ref h0), (1, .int a1)] := hl
    refine lv_iload_n hx hb dX9_both_18 rfl (lv_at hl 0 rfl) ?_
    refine lv_aload_n hx hb dX9_both_19 rfl (lv_at hl 2 rfl) ?_
    refine va_get (D := (dC, dI)) (ci := 7) (v := .ref cu) (C := RX9) (T := TX9) (N := 10) hx hb hts iX9_both_X9 hown hK hP 0 rfl rfl 3 (by decide) (hts (.fieldLink RX9 35 "LuckyTicket" "current" "LLuckyTicket$Roll;") (List.mem_of_getElem? (i := 1) rfl)) (fun _ h9 => h9) rfl dX9_both_20 ?_
    refine va_getN (own := RX9) (index := 155) (ref := RX2) (host := RX9) (D := (dC, dI)) (ci := 1) (v := .int tk) (C := RX2) (T := TX2) (N := 7) hx hb hts iX9_both_X2 hown hK hP 1 rfl rfl 2 (by decide) (va_Nw.use rfl (hN _ (List.mem_of_getElem? (i := 18) rfl))) (fun _ h9 => h9) rfl dX9_both_23 ?_
    refine lv_icmp_ge (tgt := 52) hx hb dX9_both_26 (by decide) (fun c_273 => ?_) (fun c_273 => ?_)
    ·
      have n_c_273 : (tk.toInt : Int) ≤ y_151.toInt := c_ge rfl rfl c_273
      refine lv_iload_n hx hb dX9_both_52 rfl (lv_at hl 1 rfl) ?_
      exact W.iret (v := y_152) hx hb hr (fun t ht hW => ⟨y_152, rfl, trivial, ht⟩) t_nil dX9_both_53
    ·
      have n_c_273 : (y_151.toInt : Int) < tk.toInt := c_nge rfl rfl c_273
      have b_y_151 : (0 : Int) ≤ y_151.toInt ∧ y_151.toInt ≤ 19999 := r_lt1 b_y_151 b_tk n_c_273 (by decide)
      have b_tk : (1 : Int) ≤ tk.toInt ∧ tk.toInt ≤ 20000 := r_lt2 b_y_151 b_tk n_c_273 (by decide)
      refine lv_aload_n hx hb dX9_both_29 rfl (lv_at hl 2 rfl) ?_
      refine va_get (D := (dC, dI)) (ci := 7) (v := .ref cu) (C := RX9) (T := TX9) (N := 10) hx hb hts iX9_both_X9 hown hK hP 0 rfl rfl 3 (by decide) (hts (.fieldLink RX9 35 "LuckyTicket" "current" "LLuckyTicket$Roll;") (List.mem_of_getElem? (i := 1) rfl)) (fun _ h9 => h9) rfl dX9_both_30 ?_
      refine lv_iload_n hx hb dX9_both_33 rfl (lv_at hl 0 rfl) ?_
      refine vp_callSi (W.runV (As := [.int y_151]) (rest := []) ⟨hx, hb, hml, hown, hts⟩ (kX2_luckOf l dC dI cu ln bs tk lw li fa lu cL nl fl y_151 b_ln b_bs (rg_w b_tk (by decide) (by decide)) b_lw (by omega)) (cwV 1 hts gX9_both__X2_luckOf_V145 rfl rfl rfl hd_yX2_luckOf ⟨lel 2 2 rfl, lel 42 42 rfl⟩) ⟨pw_fb, rcv_X2 hK hP (q0 := 1) rfl, (pw_use hP hK hN [1, 2] rfl [0] rfl)⟩ rfl rfl hl.1 rfl (lv_room (Nat.le_of_ble_eq_true rfl)) dX9_both_34 ⟨lel 0 0 rfl, lel 0 0 rfl⟩) (fun r_274 h_r_274 => ?_)
      refine lv_iload_n hx hb dX9_both_37 rfl (lv_at hl 3 rfl) ?_
      refine lv_iand hx hb dX9_both_38 ?_
      refine lv_topi (fun z_275 e_z_275 => ?_)
      refine lv_iload_n hx hb dX9_both_39 rfl (lv_at hl 3 rfl) ?_
      refine cutP (σ := Int32) (pc2 := 46) (st2 := fun v => []) (cells2 := 0) (slots2 := 0) (fun v ls => lv_has ls 4 [(3, .int y_151), (2, .int v), (0, .ref h0), (1, .int a1)]) (fun v ls hI => ?_) (fun hj_46_278 => ?_)
      ·
        obtain ⟨y_278, rfl⟩ : ∃ z, z = v := ⟨_, rfl⟩
        have hl := hI
        have hl : lv_has ls 4 [(3, .int y_151), (2, .int y_278), (0, .ref h0), (1, .int a1)] := hl
        obtain ⟨z_279, e_z_279⟩ : ∃ y : Int32, y = y_151 + 1 := ⟨_, rfl⟩
        refine lv_iinc (v := z_279) (lv' := [(3, .int z_279), (2, .int y_278), (0, .ref h0), (1, .int a1)]) hx hb dX9_both_46 hl (k := 0) rfl (by rw [e_z_279]; rfl) (by decide) rfl (fun ls hl => ?_)
        obtain ⟨q_z_279, b_z_279⟩ := ti_add (lo := 1) (hi := 20000) e_z_279 rfl (by decide : (1 : Int32).toInt = 1) b_y_151 (by decide : (1 : Int) ≤ (1 : Int32).toInt ∧ (1 : Int32).toInt ≤ 1) (by decide)
        refine lv_goto (tgt := 18) hx hb dX9_both_49 (by decide) ?_
        exact ih_18_272 (z_279, y_278) _ ⟨(show (0 : Int) ≤ z_279.toInt ∧ z_279.toInt ≤ 20000 from (rg_w b_z_279 (by decide) (by decide))), lv_sub hl [0, 1, 2, 3] rfl⟩ (show (20000 - z_279.toInt).toNat < (20000 - y_151.toInt).toNat by omega)
      ·
        refine lv_icmp_ne (tgt := 46) hx hb dX9_both_40 (by decide) (fun c_276 => ?_) (fun c_276 => ?_)
        ·
          have n_c_276 : (z_275.toInt : Int) ≠ a1.toInt := c_ne rfl rfl c_276
          exact hj_46_278 y_152 _ (lv_sub hl [0, 1, 2, 3] rfl)
        ·
          have n_c_276 : (z_275.toInt : Int) = a1.toInt := c_eq rfl rfl c_276
          obtain ⟨z_280, e_z_280⟩ : ∃ y : Int32, y = y_152 + 1 := ⟨_, rfl⟩
          refine lv_iinc (v := z_280) (lv' := [(2, .int z_280), (3, .int y_151), (0, .ref h0), (1, .int a1)]) hx hb dX9_both_43 hl (k := 1) rfl (by rw [e_z_280]; rfl) (by decide) rfl (fun ls hl => ?_)
          exact hj_46_278 z_280 _ (lv_sub hl [1, 0, 2, 3] rfl)
  ·
    have n_c_142 : (r_141.toInt : Int) = 0 := c_eq rfl (by decide) c_142
    have b_r_141 : (0 : Int) ≤ r_141.toInt ∧ r_141.toInt ≤ 0 := r_eq1 b_r_141 (by decide : (0 : Int) ≤ (0 : Int32).toInt ∧ (0 : Int32).toInt ≤ 0) n_c_142 (by decide)
    refine lv_bipush (v := (-2)) hx hb dX9_both_11 (by decide) ?_
    exact W.iret (v := (-2)) hx hb hr (fun t ht hW => ⟨(-2), rfl, trivial, ht⟩) t_nil dX9_both_13
theorem dX9_just_0 : decode cX9_just 0 = .ok (.aload_n 0, 1) := by decide +kernel
theorem dX9_just_1 : decode cX9_just 1 = .ok (.getfield 35, 3) := by decide +kernel
theorem dX9_just_4 : decode cX9_just 4 = .ok (.iload_n 1, 1) := by decide +kernel
theorem dX9_just_5 : decode cX9_just 5 = .ok (.invokevirtual 191, 3) := by decide +kernel
theorem dX9_just_8 : decode cX9_just 8 = .ok (.ifCond .ne 6, 3) := by decide +kernel
theorem dX9_just_11 : decode cX9_just 11 = .ok (.bipush (-2), 2) := by decide +kernel
theorem dX9_just_13 : decode cX9_just 13 = .ok (.ireturn, 1) := by decide +kernel
theorem dX9_just_14 : decode cX9_just 14 = .ok (.iconst 0, 1) := by decide +kernel
theorem dX9_just_15 : decode cX9_just 15 = .ok (.istore_n 2, 1) := by decide +kernel
theorem dX9_just_16 : decode cX9_just 16 = .ok (.iconst 0, 1) := by decide +kernel
theorem dX9_just_17 : decode cX9_just 17 = .ok (.istore_n 3, 1) := by decide +kernel
theorem dX9_just_18 : decode cX9_just 18 = .ok (.iload_n 3, 1) := by decide +kernel
theorem dX9_just_19 : decode cX9_just 19 = .ok (.aload_n 0, 1) := by decide +kernel
theorem dX9_just_20 : decode cX9_just 20 = .ok (.getfield 35, 3) := by decide +kernel
theorem dX9_just_23 : decode cX9_just 23 = .ok (.getfield 155, 3) := by decide +kernel
theorem dX9_just_26 : decode cX9_just 26 = .ok (.if_icmp .ge 24, 3) := by decide +kernel
theorem dX9_just_29 : decode cX9_just 29 = .ok (.aload_n 0, 1) := by decide +kernel
theorem dX9_just_30 : decode cX9_just 30 = .ok (.getfield 35, 3) := by decide +kernel
theorem dX9_just_33 : decode cX9_just 33 = .ok (.iload_n 3, 1) := by decide +kernel
theorem dX9_just_34 : decode cX9_just 34 = .ok (.invokevirtual 145, 3) := by decide +kernel
theorem dX9_just_37 : decode cX9_just 37 = .ok (.iload_n 1, 1) := by decide +kernel
theorem dX9_just_38 : decode cX9_just 38 = .ok (.if_icmp .ne 6, 3) := by decide +kernel
theorem dX9_just_41 : decode cX9_just 41 = .ok (.iinc 2 1, 3) := by decide +kernel
theorem dX9_just_44 : decode cX9_just 44 = .ok (.iinc 3 1, 3) := by decide +kernel
theorem dX9_just_47 : decode cX9_just 47 = .ok (.goto (-29), 3) := by decide +kernel
theorem dX9_just_50 : decode cX9_just 50 = .ok (.iload_n 2, 1) := by decide +kernel
theorem dX9_just_51 : decode cX9_just 51 = .ok (.ireturn, 1) := by decide +kernel
theorem hd_yX9_just : yX9_just.cls = RX9 ∧ yX9_just.cls ≠ "java/lang/invoke/MethodHandle" ∧ yX9_just.cls ≠ "java/lang/invoke/VarHandle" ∧ (parseMethodDescriptor yX9_just.desc).map (fun d => d.parameters.length) = some 1 := by decide +kernel
def uX9_just : List Cond := List.cons (.code yX9_just cX9_just 4 (some .int)) (HAppend.hAppend ([.fieldLink RX9 35 "LuckyTicket" "current" "LLuckyTicket$Roll;", .methodLink RX9 191 yX2_hasSet, .instanceMethod yX2_hasSet, .selects RX2 yX2_hasSet yX2_hasSet, .initialized RX2, .methodLink RX9 145 yX2_luckOf, .instanceMethod yX2_luckOf, .selects RX2 yX2_luckOf yX2_luckOf] : List Cond) (HAppend.hAppend uX2_hasSet (HAppend.hAppend uX2_luckOf (HAppend.hAppend wsX90 wsX20))))
theorem iX9_just_X9 : ∀ w ∈ wsX90, w ∈ uX9_just := fun _ h => (List.mem_cons_of_mem _ (List.mem_append_right _ (List.mem_append_right _ (List.mem_append_right _ (List.mem_append_left _ h)))))
theorem iX9_just_X2 : ∀ w ∈ wsX20, w ∈ uX9_just := fun _ h => (List.mem_cons_of_mem _ (List.mem_append_right _ (List.mem_append_right _ (List.mem_append_right _ (List.mem_append_right _ h)))))
theorem guX9_just : GU uX9_just := gu_cons (gu_app (by decide +kernel) (gu_ap guX2_hasSet (gu_ap guX2_luckOf (gu_ap gws_X9 gws_X2))))
theorem gX9_just__X2_hasSet_V191 : GoodIn uX9_just (wsV RX9 191 RX2 yX2_hasSet uX2_hasSet) := gin_V (List.mem_of_getElem? (i := 2) rfl) (List.mem_of_getElem? (i := 3) rfl) (List.mem_of_getElem? (i := 4) rfl) (List.mem_of_getElem? (i := 5) rfl) (fun _ h => (List.mem_cons_of_mem _ (List.mem_append_right _ (List.mem_append_left _ h)))) guX2_hasSet
theorem gX9_just__X2_luckOf_V145 : GoodIn uX9_just (wsV RX9 145 RX2 yX2_luckOf uX2_luckOf) := gin_V (List.mem_of_getElem? (i := 6) rfl) (List.mem_of_getElem? (i := 7) rfl) (List.mem_of_getElem? (i := 8) rfl) (List.mem_of_getElem? (i := 5) rfl) (fun _ h => (List.mem_cons_of_mem _ (List.mem_append_right _ (List.mem_append_right _ (List.mem_append_left _ h))))) guX2_luckOf
set_option maxHeartbeats 4000000 in
set_option maxRecDepth 100000 in
theorem kX9_just (l : Launch) (dC : Nat → ClassId) (dI : Nat → Nat → Nat) (h0 : Nat) (tp : Nat) (sc : Nat) (rd : Nat) (cu : Nat) (im : Nat) (ig : Nat) (sl : Nat) (se : Nat) (sm : Nat) (fc : Nat) (ln : Int32) (bs : Int32) (tk : Int32) (lw : Int32) (li : Int32) (fa : Nat) (lu : Nat) (cL : ClassId) (nl : Nat) (fl : Nat → Int32) (a1 : Int32) (b_ln : (0 : Int) ≤ ln.toInt ∧ ln.toInt ≤ 12) (b_bs : (0 : Int) ≤ bs.toInt ∧ bs.toInt ≤ 16) (b_tk : (0 : Int) ≤ tk.toInt ∧ tk.toInt ≤ 20000) (b_lw : (0 : Int) ≤ lw.toInt ∧ lw.toInt ≤ 9) (hl1 : tk.toInt ≤ (nl : Int)) : Met l yX9_just uX9_just ({ frames := 2, cells := 0, slots := 0, locals := 42 }) (va_Pc [.ref h0, .int a1] (pw (dC, dI) vwCl [(h0, .inr (7, [.ref tp, .ref sc, .ref rd, .ref cu, .ref im, .ref ig, .ref sl, .ref se, .ref sm, .ref fc])), (cu, .inr (1, [.int ln, .int bs, .int tk, .int lw, .int li, .ref fa, .ref lu])), (lu, .inl (cL, nl, .inl fl))] [(cL, .int)])) (vp_Si (fun r => True)) 0 0 (fun _ => False) := by
  refine Met.ofW (cc := cX9_just) (maxL := 4) (ret := (some .int)) pn_X9 rfl ?_
  intro p e s m args below meth c s₁ B hml hv
  obtain ⟨rfl, hP, hK, hN⟩ := hv
  have hx := B.exec
  have hb := B.bytes
  have hr := B.returns
  have hts := atoms_spec (ws := uX9_just) B.pre
  have hown : s.vm.findClass RX9 = some m.cls := hown_of B.named rfl
  have hlocks := B.notSynchronized
  have hl := lv_entry ([.ref h0, .int a1]) (n := 4) (Nat.le_of_ble_eq_true rfl)
  rw [lg_entry_eq]
  generalize (lg_sl ([.ref h0, .int a1]) ++ List.replicate (4 - (lg_sl ([.ref h0, .int a1])).length) Slot.unset).toArray = ls at hl ⊢
  have hl : lv_has ls 4 [(0, .ref h0), (1, .int a1)] := hl
  refine lv_aload_n hx hb dX9_just_0 rfl (lv_at hl 0 rfl) ?_
  refine va_get (D := (dC, dI)) (ci := 7) (v := .ref cu) (C := RX9) (T := TX9) (N := 10) hx hb hts iX9_just_X9 hown hK hP 0 rfl rfl 3 (by decide) (hts (.fieldLink RX9 35 "LuckyTicket" "current" "LLuckyTicket$Roll;") (List.mem_of_getElem? (i := 1) rfl)) (fun _ h9 => h9) rfl dX9_just_1 ?_
  refine lv_iload_n hx hb dX9_just_4 rfl (lv_at hl 1 rfl) ?_
  refine vp_callSi (W.runV (As := [.int a1]) (rest := []) ⟨hx, hb, hml, hown, hts⟩ (kX2_hasSet l dC dI cu ln bs tk lw li fa lu a1 b_ln b_bs b_tk b_lw) (cwV 1 hts gX9_just__X2_hasSet_V191 rfl rfl rfl hd_yX2_hasSet ⟨lel 2 2 rfl, lel 41 42 rfl⟩) ⟨pw_fb, rcv_X2 hK hP (q0 := 1) rfl, (pw_use hP hK hN [1] rfl [] rfl)⟩ rfl rfl hl.1 rfl (lv_room (Nat.le_of_ble_eq_true rfl)) dX9_just_5 ⟨lel 0 0 rfl, lel 0 0 rfl⟩) (fun r_124 h_r_124 => ?_)
  have b_r_124 := h_r_124
  have b_r_124 : (0 : Int) ≤ r_124.toInt ∧ r_124.toInt ≤ 1 := b_r_124
  refine lv_if_ne (tgt := 14) hx hb dX9_just_8 (by decide) (fun c_125 => ?_) (fun c_125 => ?_)
  ·
    have n_c_125 : (r_124.toInt : Int) ≠ 0 := c_ne rfl (by decide) c_125
    have b_r_124 : (1 : Int) ≤ r_124.toInt ∧ r_124.toInt ≤ 1 := r_ne1 b_r_124 (by decide : (0 : Int) ≤ (0 : Int32).toInt ∧ (0 : Int32).toInt ≤ 0) n_c_125 (by decide)
    refine lv_iconst (v := 0) hx hb dX9_just_14 (by decide) ?_
    refine lv_istore_n (lv' := [(2, .int 0), (0, .ref h0), (1, .int a1)]) hx hb dX9_just_15 rfl hl (by decide) rfl (fun ls hl => ?_)
    refine lv_iconst (v := 0) hx hb dX9_just_16 (by decide) ?_
    refine lv_istore_n (lv' := [(3, .int 0), (2, .int 0), (0, .ref h0), (1, .int a1)]) hx hb dX9_just_17 rfl hl (by decide) rfl (fun ls hl => ?_)
    refine loopP (σ := Int32 × Int32) (fun v => (20000 - v.1.toInt).toNat) (fun v ls => ((0 : Int) ≤ v.1.toInt ∧ v.1.toInt ≤ 20000) ∧ lv_has ls 4 [(3, .int v.1), (2, .int v.2), (0, .ref h0), (1, .int a1)]) (fun v ls hI ih_18_239 => ?_) ((0 : Int32), (0 : Int32)) ⟨(show (0 : Int) ≤ (0 : Int32).toInt ∧ (0 : Int32).toInt ≤ 20000 from (rg_w (by decide : (0 : Int) ≤ (0 : Int32).toInt ∧ (0 : Int32).toInt ≤ 0) (by decide) (by decide))), lv_sub hl [0, 1, 2, 3] rfl⟩
    obtain ⟨y_133, y_134⟩ := v
    obtain ⟨b_y_133, hl⟩ := hI
    have b_y_133 : (0 : Int) ≤ y_133.toInt ∧ y_133.toInt ≤ 20000 := b_y_133
    have hl : lv_has ls 4 [(3, .int y_133), (2, .int y_134), (0, .ref h0), (1, .int a1)] := hl
    refine lv_iload_n hx hb dX9_just_18 rfl (lv_at hl 0 rfl) ?_
    refine lv_aload_n hx hb dX9_just_19 rfl (lv_at hl 2 rfl) ?_
    refine va_get (D := (dC, dI)) (ci := 7) (v := .ref cu) (C := RX9) (T := TX9) (N := 10) hx hb hts iX9_just_X9 hown hK hP 0 rfl rfl 3 (by decide) (hts (.fieldLink RX9 35 "LuckyTicket" "current" "LLuckyTicket$Roll;") (List.mem_of_getElem? (i := 1) rfl)) (fun _ h9 => h9) rfl dX9_just_20 ?_
    refine va_getN (own := RX9) (index := 155) (ref := RX2) (host := RX9) (D := (dC, dI)) (ci := 1) (v := .int tk) (C := RX2) (T := TX2) (N := 7) hx hb hts iX9_just_X2 hown hK hP 1 rfl rfl 2 (by decide) (va_Nw.use rfl (hN _ (List.mem_of_getElem? (i := 18) rfl))) (fun _ h9 => h9) rfl dX9_just_23 ?_
    refine lv_icmp_ge (tgt := 50) hx hb dX9_just_26 (by decide) (fun c_240 => ?_) (fun c_240 => ?_)
    ·
      have n_c_240 : (tk.toInt : Int) ≤ y_133.toInt := c_ge rfl rfl c_240
      refine lv_iload_n hx hb dX9_just_50 rfl (lv_at hl 1 rfl) ?_
      exact W.iret (v := y_134) hx hb hr (fun t ht hW => ⟨y_134, rfl, trivial, ht⟩) t_nil dX9_just_51
    ·
      have n_c_240 : (y_133.toInt : Int) < tk.toInt := c_nge rfl rfl c_240
      have b_y_133 : (0 : Int) ≤ y_133.toInt ∧ y_133.toInt ≤ 19999 := r_lt1 b_y_133 b_tk n_c_240 (by decide)
      have b_tk : (1 : Int) ≤ tk.toInt ∧ tk.toInt ≤ 20000 := r_lt2 b_y_133 b_tk n_c_240 (by decide)
      refine lv_aload_n hx hb dX9_just_29 rfl (lv_at hl 2 rfl) ?_
      refine va_get (D := (dC, dI)) (ci := 7) (v := .ref cu) (C := RX9) (T := TX9) (N := 10) hx hb hts iX9_just_X9 hown hK hP 0 rfl rfl 3 (by decide) (hts (.fieldLink RX9 35 "LuckyTicket" "current" "LLuckyTicket$Roll;") (List.mem_of_getElem? (i := 1) rfl)) (fun _ h9 => h9) rfl dX9_just_30 ?_
      refine lv_iload_n hx hb dX9_just_33 rfl (lv_at hl 0 rfl) ?_
      refine vp_callSi (W.runV (As := [.int y_133]) (rest := []) ⟨hx, hb, hml, hown, hts⟩ (kX2_luckOf l dC dI cu ln bs tk lw li fa lu cL nl fl y_133 b_ln b_bs (rg_w b_tk (by decide) (by decide)) b_lw (by omega)) (cwV 1 hts gX9_just__X2_luckOf_V145 rfl rfl rfl hd_yX2_luckOf ⟨lel 2 2 rfl, lel 42 42 rfl⟩) ⟨pw_fb, rcv_X2 hK hP (q0 := 1) rfl, (pw_use hP hK hN [1, 2] rfl [0] rfl)⟩ rfl rfl hl.1 rfl (lv_room (Nat.le_of_ble_eq_true rfl)) dX9_just_34 ⟨lel 0 0 rfl, lel 0 0 rfl⟩) (fun r_241 h_r_241 => ?_)
      refine lv_iload_n hx hb dX9_just_37 rfl (lv_at hl 3 rfl) ?_
      refine cutP (σ := Int32) (pc2 := 44) (st2 := fun v => []) (cells2 := 0) (slots2 := 0) (fun v ls => lv_has ls 4 [(3, .int y_133), (2, .int v), (0, .ref h0), (1, .int a1)]) (fun v ls hI => ?_) (fun hj_44_244 => ?_)
      ·
        obtain ⟨y_244, rfl⟩ : ∃ z, z = v := ⟨_, rfl⟩
        have hl := hI
        have hl : lv_has ls 4 [(3, .int y_133), (2, .int y_244), (0, .ref h0), (1, .int a1)] := hl
        obtain ⟨z_245, e_z_245⟩ : ∃ y : Int32, y = y_133 + 1 := ⟨_, rfl⟩
        refine lv_iinc (v := z_245) (lv' := [(3, .int z_245), (2, .int y_244), (0, .ref h0), (1, .int a1)]) hx hb dX9_just_44 hl (k := 0) rfl (by rw [e_z_245]; rfl) (by decide) rfl (fun ls hl => ?_)
        obtain ⟨q_z_245, b_z_245⟩ := ti_add (lo := 1) (hi := 20000) e_z_245 rfl (by decide : (1 : Int32).toInt = 1) b_y_133 (by decide : (1 : Int) ≤ (1 : Int32).toInt ∧ (1 : Int32).toInt ≤ 1) (by decide)
        refine lv_goto (tgt := 18) hx hb dX9_just_47 (by decide) ?_
        exact ih_18_239 (z_245, y_244) _ ⟨(show (0 : Int) ≤ z_245.toInt ∧ z_245.toInt ≤ 20000 from (rg_w b_z_245 (by decide) (by decide))), lv_sub hl [0, 1, 2, 3] rfl⟩ (show (20000 - z_245.toInt).toNat < (20000 - y_133.toInt).toNat by omega)
      ·
        refine lv_icmp_ne (tgt := 44) hx hb dX9_just_38 (by decide) (fun c_242 => ?_) (fun c_242 => ?_)
        ·
          have n_c_242 : (r_241.toInt : Int) ≠ a1.toInt := c_ne rfl rfl c_242
          exact hj_44_244 y_134 _ (lv_sub hl [0, 1, 2, 3] rfl)
        ·
          have n_c_242 : (r_241.toInt : Int) = a1.toInt := c_eq rfl rfl c_242
          obtain ⟨z_246, e_z_246⟩ : ∃ y : Int32, y = y_134 + 1 := ⟨_, rfl⟩
          refine lv_iinc (v := z_246) (lv' := [(2, .int z_246), (3, .int y_133), (0, .ref h0), (1, .int a1)]) hx hb dX9_just_41 hl (k := 1) rfl (by rw [e_z_246]; rfl) (by decide) rfl (fun ls hl => ?_)
          exact hj_44_244 z_246 _ (lv_sub hl [1, 0, 2, 3] rfl)
  ·
    have n_c_125 : (r_124.toInt : Int) = 0 := c_eq rfl (by decide) c_125
    have b_r_124 : (0 : Int) ≤ r_124.toInt ∧ r_124.toInt ≤ 0 := r_eq1 b_r_124 (by decide : (0 : Int) ≤ (0 : Int32).toInt ∧ (0 : Int32).toInt ≤ 0) n_c_125 (by decide)
    refine lv_bipush (v := (-2)) hx hb dX9_just_11 (by decide) ?_
    exact W.iret (v := (-2)) hx hb hr (fun t ht hW => ⟨(-2), rfl, trivial, ht⟩) t_nil dX9_just_13
theorem dX9_so_0 : decode cX9_so 0 = .ok (.aload_n 0, 1) := by decide +kernel
theorem dX9_so_1 : decode cX9_so 1 = .ok (.getfield 35, 3) := by decide +kernel
theorem dX9_so_4 : decode cX9_so 4 = .ok (.invokevirtual 194, 3) := by decide +kernel
theorem dX9_so_7 : decode cX9_so 7 = .ok (.ifCond .eq 13, 3) := by decide +kernel
theorem dX9_so_10 : decode cX9_so 10 = .ok (.iload_n 1, 1) := by decide +kernel
theorem dX9_so_11 : decode cX9_so 11 = .ok (.iconst 0, 1) := by decide +kernel
theorem dX9_so_12 : decode cX9_so 12 = .ok (.bipush 9, 2) := by decide +kernel
theorem dX9_so_14 : decode cX9_so 14 = .ok (.invokestatic 158, 3) := by decide +kernel
theorem dX9_so_17 : decode cX9_so 17 = .ok (.ifCond .ne 6, 3) := by decide +kernel
theorem dX9_so_20 : decode cX9_so 20 = .ok (.bipush (-2), 2) := by decide +kernel
theorem dX9_so_22 : decode cX9_so 22 = .ok (.ireturn, 1) := by decide +kernel
theorem dX9_so_23 : decode cX9_so 23 = .ok (.iconst 0, 1) := by decide +kernel
theorem dX9_so_24 : decode cX9_so 24 = .ok (.istore_n 2, 1) := by decide +kernel
theorem dX9_so_25 : decode cX9_so 25 = .ok (.iconst 0, 1) := by decide +kernel
theorem dX9_so_26 : decode cX9_so 26 = .ok (.istore_n 3, 1) := by decide +kernel
theorem dX9_so_27 : decode cX9_so 27 = .ok (.iload_n 3, 1) := by decide +kernel
theorem dX9_so_28 : decode cX9_so 28 = .ok (.aload_n 0, 1) := by decide +kernel
theorem dX9_so_29 : decode cX9_so 29 = .ok (.getfield 35, 3) := by decide +kernel
theorem dX9_so_32 : decode cX9_so 32 = .ok (.getfield 155, 3) := by decide +kernel
theorem dX9_so_35 : decode cX9_so 35 = .ok (.if_icmp .ge 27, 3) := by decide +kernel
theorem dX9_so_38 : decode cX9_so 38 = .ok (.aload_n 0, 1) := by decide +kernel
theorem dX9_so_39 : decode cX9_so 39 = .ok (.getfield 35, 3) := by decide +kernel
theorem dX9_so_42 : decode cX9_so 42 = .ok (.iload_n 3, 1) := by decide +kernel
theorem dX9_so_43 : decode cX9_so 43 = .ok (.invokevirtual 145, 3) := by decide +kernel
theorem dX9_so_46 : decode cX9_so 46 = .ok (.invokestatic 198, 3) := by decide +kernel
theorem dX9_so_49 : decode cX9_so 49 = .ok (.iload_n 1, 1) := by decide +kernel
theorem dX9_so_50 : decode cX9_so 50 = .ok (.if_icmp .ne 6, 3) := by decide +kernel
theorem dX9_so_53 : decode cX9_so 53 = .ok (.iinc 2 1, 3) := by decide +kernel
theorem dX9_so_56 : decode cX9_so 56 = .ok (.iinc 3 1, 3) := by decide +kernel
theorem dX9_so_59 : decode cX9_so 59 = .ok (.goto (-32), 3) := by decide +kernel
theorem dX9_so_62 : decode cX9_so 62 = .ok (.iload_n 2, 1) := by decide +kernel
theorem dX9_so_63 : decode cX9_so 63 = .ok (.ireturn, 1) := by decide +kernel
theorem hd_yX9_so : yX9_so.cls = RX9 ∧ yX9_so.cls ≠ "java/lang/invoke/MethodHandle" ∧ yX9_so.cls ≠ "java/lang/invoke/VarHandle" ∧ (parseMethodDescriptor yX9_so.desc).map (fun d => d.parameters.length) = some 1 := by decide +kernel
def uX9_so : List Cond := List.cons (.code yX9_so cX9_so 4 (some .int)) (HAppend.hAppend ([.fieldLink RX9 35 "LuckyTicket" "current" "LLuckyTicket$Roll;", .methodLink RX9 194 yX2_stands, .instanceMethod yX2_stands, .selects RX2 yX2_stands yX2_stands, .initialized RX2, .methodLink RX9 158 yX9_isWithin, .static yX9_isWithin, .initialized RX9, .methodLink RX9 145 yX2_luckOf, .instanceMethod yX2_luckOf, .selects RX2 yX2_luckOf yX2_luckOf, .methodLink RX9 198 yJ6_bitCount_0f7a4, .static yJ6_bitCount_0f7a4, .initialized RJ6] : List Cond) (HAppend.hAppend uX2_stands (HAppend.hAppend uX9_isWithin (HAppend.hAppend uX2_luckOf (HAppend.hAppend uJ6_bitCount_0f7a4 (HAppend.hAppend wsX90 wsX20))))))
theorem iX9_so_X9 : ∀ w ∈ wsX90, w ∈ uX9_so := fun _ h => (List.mem_cons_of_mem _ (List.mem_append_right _ (List.mem_append_right _ (List.mem_append_right _ (List.mem_append_right _ (List.mem_append_right _ (List.mem_append_left _ h)))))))
theorem iX9_so_X2 : ∀ w ∈ wsX20, w ∈ uX9_so := fun _ h => (List.mem_cons_of_mem _ (List.mem_append_right _ (List.mem_append_right _ (List.mem_append_right _ (List.mem_append_right _ (List.mem_append_right _ (List.mem_append_right _ h)))))))
theorem guX9_so : GU uX9_so := gu_cons (gu_app (by decide +kernel) (gu_ap guX2_stands (gu_ap guX9_isWithin (gu_ap guX2_luckOf (gu_ap guJ6_bitCount_0f7a4 (gu_ap gws_X9 gws_X2))))))
theorem gX9_so__X2_stands_V194 : GoodIn uX9_so (wsV RX9 194 RX2 yX2_stands uX2_stands) := gin_V (List.mem_of_getElem? (i := 2) rfl) (List.mem_of_getElem? (i := 3) rfl) (List.mem_of_getElem? (i := 4) rfl) (List.mem_of_getElem? (i := 5) rfl) (fun _ h => (List.mem_cons_of_mem _ (List.mem_append_right _ (List.mem_append_left _ h)))) guX2_stands
theorem gX9_so__X9_isWithin_S158 : GoodIn uX9_so (va_wsS RX9 158 yX9_isWithin uX9_isWithin) := gin_S (List.mem_of_getElem? (i := 6) rfl) (List.mem_of_getElem? (i := 7) rfl) (List.mem_of_getElem? (i := 8) rfl) (fun _ h => (List.mem_cons_of_mem _ (List.mem_append_right _ (List.mem_append_right _ (List.mem_append_left _ h))))) guX9_isWithin
theorem gX9_so__X2_luckOf_V145 : GoodIn uX9_so (wsV RX9 145 RX2 yX2_luckOf uX2_luckOf) := gin_V (List.mem_of_getElem? (i := 9) rfl) (List.mem_of_getElem? (i := 10) rfl) (List.mem_of_getElem? (i := 11) rfl) (List.mem_of_getElem? (i := 5) rfl) (fun _ h => (List.mem_cons_of_mem _ (List.mem_append_right _ (List.mem_append_right _ (List.mem_append_right _ (List.mem_append_left _ h)))))) guX2_luckOf
theorem gX9_so__J6_bitCount_0f7a4_S198 : GoodIn uX9_so (va_wsS RX9 198 yJ6_bitCount_0f7a4 uJ6_bitCount_0f7a4) := gin_S (List.mem_of_getElem? (i := 12) rfl) (List.mem_of_getElem? (i := 13) rfl) (List.mem_of_getElem? (i := 14) rfl) (fun _ h => (List.mem_cons_of_mem _ (List.mem_append_right _ (List.mem_append_right _ (List.mem_append_right _ (List.mem_append_right _ (List.mem_append_left _ h))))))) guJ6_bitCount_0f7a4
set_option maxHeartbeats 4000000 in
set_option maxRecDepth 100000 in
theorem kX9_so (l : Launch) (dC : Nat → ClassId) (dI : Nat → Nat → Nat) (h0 : Nat) (tp : Nat) (sc : Nat) (rd : Nat) (cu : Nat) (im : Nat) (ig : Nat) (sl : Nat) (se : Nat) (sm : Nat) (fc : Nat) (ln : Int32) (bs : Int32) (tk : Int32) (lw : Int32) (li : Int32) (fa : Nat) (lu : Nat) (cL : ClassId) (nl : Nat) (fl : Nat → Int32) (a1 : Int32) (b_ln : (0 : Int) ≤ ln.toInt ∧ ln.toInt ≤ 12) (b_bs : (0 : Int) ≤ bs.toInt ∧ bs.toInt ≤ 16) (b_tk : (0 : Int) ≤ tk.toInt ∧ tk.toInt ≤ 20000) (b_lw : (0 : Int) ≤ lw.toInt ∧ lw.toInt ≤ 9) (hl1 : tk.toInt ≤ (nl : Int)) : Met l yX9_so uX9_so ({ frames := 2, cells := 0, slots := 0, locals := 42 }) (va_Pc [.ref h0, .int a1] (pw (dC, dI) vwCl [(h0, .inr (7, [.ref tp, .ref sc, .ref rd, .ref cu, .ref im, .ref ig, .ref sl, .ref se, .ref sm, .ref fc])), (cu, .inr (1, [.int ln, .int bs, .int tk, .int lw, .int li, .ref fa, .ref lu])), (lu, .inl (cL, nl, .inl fl))] [(cL, .int)])) (vp_Si (fun r => True)) 0 0 (fun _ => False) := by
  refine Met.ofW (cc := cX9_so) (maxL := 4) (ret := (some .int)) pn_X9 rfl ?_
  intro p e s m args below meth c s₁ B hml hv
  obtain ⟨rfl, hP, hK, hN⟩ := hv
  have hx := B.exec
  have hb := B.bytes
  have hr := B.returns
  have hts := atoms_spec (ws := uX9_so) B.pre
  have hown : s.vm.findClass RX9 = some m.cls := hown_of B.named rfl
  have hlocks := B.notSynchronized
  have hl := lv_entry ([.ref h0, .int a1]) (n := 4) (Nat.le_of_ble_eq_true rfl)
  rw [lg_entry_eq]
  generalize (lg_sl ([.ref h0, .int a1]) ++ List.replicate (4 - (lg_sl ([.ref h0, .int a1])).length) Slot.unset).toArray = ls at hl ⊢
  have hl : lv_has ls 4 [(0, .ref h0), (1, .int a1)] := hl
  refine lv_aload_n hx hb dX9_so_0 rfl (lv_at hl 0 rfl) ?_
  refine va_get (D := (dC, dI)) (ci := 7) (v := .ref cu) (C := RX9) (T := TX9) (N := 10) hx hb hts iX9_so_X9 hown hK hP 0 rfl rfl 3 (by decide) (hts (.fieldLink RX9 35 "LuckyTicket" "current" "LLuckyTicket$Roll;") (List.mem_of_getElem? (i := 1) rfl)) (fun _ h9 => h9) rfl dX9_so_1 ?_
  refine vp_callSi (W.runV (As := []) (rest := []) ⟨hx, hb, hml, hown, hts⟩ (kX2_stands l dC dI cu ln bs tk lw li fa lu b_ln b_bs b_tk b_lw) (cwV 0 hts gX9_so__X2_stands_V194 rfl rfl rfl hd_yX2_stands ⟨lel 1 2 rfl, lel 20 42 rfl⟩) ⟨pw_fb, rcv_X2 hK hP (q0 := 1) rfl, (pw_use hP hK hN [1] rfl [] rfl)⟩ rfl rfl hl.1 rfl (lv_room (Nat.le_of_ble_eq_true rfl)) dX9_so_4 ⟨lel 0 0 rfl, lel 0 0 rfl⟩) (fun r_145 h_r_145 => ?_)
  obtain ⟨b_r_145, nz_r_145⟩ := h_r_145
  have b_r_145 : (0 : Int) ≤ r_145.toInt ∧ r_145.toInt ≤ 1 := b_r_145
  refine lv_if_eq (tgt := 20) hx hb dX9_so_7 (by decide) (fun c_146 => ?_) (fun c_146 => ?_)
  ·
    have n_c_146 : (r_145.toInt : Int) = 0 := c_eq rfl (by decide) c_146
    have b_r_145 : (0 : Int) ≤ r_145.toInt ∧ r_145.toInt ≤ 0 := r_eq1 b_r_145 (by decide : (0 : Int) ≤ (0 : Int32).toInt ∧ (0 : Int32).toInt ≤ 0) n_c_146 (by decide)
    refine lv_bipush (v := (-2)) hx hb dX9_so_20 (by decide) ?_
    exact W.iret (v := (-2)) hx hb hr (fun t ht hW => ⟨(-2), rfl, trivial, ht⟩) t_nil dX9_so_22
  ·
    have n_c_146 : (r_145.toInt : Int) ≠ 0 := c_ne rfl (by decide) c_146
    have b_r_145 : (1 : Int) ≤ r_145.toInt ∧ r_145.toInt ≤ 1 := r_ne1 b_r_145 (by decide : (0 : Int) ≤ (0 : Int32).toInt ∧ (0 : Int32).toInt ≤ 0) n_c_146 (by decide)
    have g_147 := nz_r_145 c_146
    refine lv_iload_n hx hb dX9_so_10 rfl (lv_at hl 1 rfl) ?_
    refine lv_iconst (v := 0) hx hb dX9_so_11 (by decide) ?_
    refine lv_bipush (v := 9) hx hb dX9_so_12 (by decide) ?_
    refine vp_callSi (W.runS (As := [.int a1, .int 0, .int 9]) (rest := []) ⟨hx, hb, hml, hown, hts⟩ (kX9_isWithin l dC dI a1 0 9 ) (va_cwS 3 hts gX9_so__X9_isWithin_S158 rfl rfl rfl hd_yX9_isWithin.2 ⟨lel 1 2 rfl, lel 22 42 rfl⟩) ⟨pn_fb, pn_use⟩ rfl rfl hl.1 rfl (lv_room (Nat.le_of_ble_eq_true rfl)) dX9_so_14 ⟨lel 0 0 rfl, lel 0 0 rfl⟩) (fun r_148 h_r_148 => ?_)
    obtain ⟨b_r_148, nz_r_148⟩ := h_r_148
    have b_r_148 : (0 : Int) ≤ r_148.toInt ∧ r_148.toInt ≤ 1 := b_r_148
    refine lv_if_ne (tgt := 23) hx hb dX9_so_17 (by decide) (fun c_149 => ?_) (fun c_149 => ?_)
    ·
      have n_c_149 : (r_148.toInt : Int) ≠ 0 := c_ne rfl (by decide) c_149
      have b_r_148 : (1 : Int) ≤ r_148.toInt ∧ r_148.toInt ≤ 1 := r_ne1 b_r_148 (by decide : (0 : Int) ≤ (0 : Int32).toInt ∧ (0 : Int32).toInt ≤ 0) n_c_149 (by decide)
      have g_150 := nz_r_148 c_149
      have lt0_g_150 := (by decide : (0 : Int32).toInt = 0)
      have lt1_g_150 := (by decide : (9 : Int32).toInt = 9)
      have b_a1 : (0 : Int) ≤ a1.toInt ∧ a1.toInt ≤ 9 := by
        have q0 := (ti_rng a1)
        have q1 := (by decide : (0 : Int) ≤ (0 : Int32).toInt ∧ (0 : Int32).toInt ≤ 0)
        have q2 := (by decide : (9 : Int) ≤ (9 : Int32).toInt ∧ (9 : Int32).toInt ≤ 9)
        omega
      refine lv_iconst (v := 0) hx hb dX9_so_23 (by decide) ?_
      refine lv_istore_n (lv' := [(2, .int 0), (0, .ref h0), (1, .int a1)]) hx hb dX9_so_24 rfl hl (by decide) rfl (fun ls hl => ?_)
      refine lv_iconst (v := 0) hx hb dX9_so_25 (by decide) ?_
      refine lv_istore_n (lv' := [(3, .int 0), (2, .int 0), (0, .ref h0), (1, .int a1)]) hx hb dX9_so_26 rfl hl (by decide) rfl (fun ls hl => ?_)
      refine loopP (σ := Int32 × Int32) (fun v => (20000 - v.1.toInt).toNat) (fun v ls => ((0 : Int) ≤ v.1.toInt ∧ v.1.toInt ≤ 20000) ∧ lv_has ls 4 [(3, .int v.1), (2, .int v.2), (0, .ref h0), (1, .int a1)]) (fun v ls hI ih_27_280 => ?_) ((0 : Int32), (0 : Int32)) ⟨(show (0 : Int) ≤ (0 : Int32).toInt ∧ (0 : Int32).toInt ≤ 20000 from (rg_w (by decide : (0 : Int) ≤ (0 : Int32).toInt ∧ (0 : Int32).toInt ≤ 0) (by decide) (by decide))), lv_sub hl [0, 1, 2, 3] rfl⟩
      obtain ⟨y_159, y_160⟩ := v
      obtain ⟨b_y_159, hl⟩ := hI
      have b_y_159 : (0 : Int) ≤ y_159.toInt ∧ y_159.toInt ≤ 20000 := b_y_159
      have hl : lv_has ls 4 [(3, .int y_159), (2, .int y_160), (0, .ref h0), (1, .int a1)] := hl
      refine lv_iload_n hx hb dX9_so_27 rfl (lv_at hl 0 rfl) ?_
      refine lv_aload_n hx hb dX9_so_28 rfl (lv_at hl 2 rfl) ?_
      refine va_get (D := (dC, dI)) (ci := 7) (v := .ref cu) (C := RX9) (T := TX9) (N := 10) hx hb hts iX9_so_X9 hown hK hP 0 rfl rfl 3 (by decide) (hts (.fieldLink RX9 35 "LuckyTicket" "current" "LLuckyTicket$Roll;") (List.mem_of_getElem? (i := 1) rfl)) (fun _ h9 => h9) rfl dX9_so_29 ?_
      refine va_getN (own := RX9) (index := 155) (ref := RX2) (host := RX9) (D := (dC, dI)) (ci := 1) (v := .int tk) (C := RX2) (T := TX2) (N := 7) hx hb hts iX9_so_X2 hown hK hP 1 rfl rfl 2 (by decide) (va_Nw.use rfl (hN _ (List.mem_of_getElem? (i := 18) rfl))) (fun _ h9 => h9) rfl dX9_so_32 ?_
      refine lv_icmp_ge (tgt := 62) hx hb dX9_so_35 (by decide) (fun c_281 => ?_) (fun c_281 => ?_)
      ·
        have n_c_281 : (tk.toInt : Int) ≤ y_159.toInt := c_ge rfl rfl c_281
        refine lv_iload_n hx hb dX9_so_62 rfl (lv_at hl 1 rfl) ?_
        exact W.iret (v := y_160) hx hb hr (fun t ht hW => ⟨y_160, rfl, trivial, ht⟩) t_nil dX9_so_63
      ·
        have n_c_281 : (y_159.toInt : Int) < tk.toInt := c_nge rfl rfl c_281
        have b_y_159 : (0 : Int) ≤ y_159.toInt ∧ y_159.toInt ≤ 19999 := r_lt1 b_y_159 b_tk n_c_281 (by decide)
        have b_tk : (1 : Int) ≤ tk.toInt ∧ tk.toInt ≤ 20000 := r_lt2 b_y_159 b_tk n_c_281 (by decide)
        refine lv_aload_n hx hb dX9_so_38 rfl (lv_at hl 2 rfl) ?_
        refine va_get (D := (dC, dI)) (ci := 7) (v := .ref cu) (C := RX9) (T := TX9) (N := 10) hx hb hts iX9_so_X9 hown hK hP 0 rfl rfl 3 (by decide) (hts (.fieldLink RX9 35 "LuckyTicket" "current" "LLuckyTicket$Roll;") (List.mem_of_getElem? (i := 1) rfl)) (fun _ h9 => h9) rfl dX9_so_39 ?_
        refine lv_iload_n hx hb dX9_so_42 rfl (lv_at hl 0 rfl) ?_
        refine vp_callSi (W.runV (As := [.int y_159]) (rest := []) ⟨hx, hb, hml, hown, hts⟩ (kX2_luckOf l dC dI cu ln bs tk lw li fa lu cL nl fl y_159 b_ln b_bs (rg_w b_tk (by decide) (by decide)) b_lw (by omega)) (cwV 1 hts gX9_so__X2_luckOf_V145 rfl rfl rfl hd_yX2_luckOf ⟨lel 2 2 rfl, lel 42 42 rfl⟩) ⟨pw_fb, rcv_X2 hK hP (q0 := 1) rfl, (pw_use hP hK hN [1, 2] rfl [0] rfl)⟩ rfl rfl hl.1 rfl (lv_room (Nat.le_of_ble_eq_true rfl)) dX9_so_43 ⟨lel 0 0 rfl, lel 0 0 rfl⟩) (fun r_282 h_r_282 => ?_)
        refine vp_callSi (W.runS (As := [.int r_282]) (rest := []) ⟨hx, hb, hml, hown, hts⟩ (kJ6_bitCount_0f7a4 l dC dI r_282 ) (va_cwS 1 hts gX9_so__J6_bitCount_0f7a4_S198 rfl rfl rfl hd_yJ6_bitCount_0f7a4.2 ⟨lel 1 2 rfl, lel 20 42 rfl⟩) ⟨pn_fb, pn_use⟩ rfl rfl hl.1 rfl (lv_room (Nat.le_of_ble_eq_true rfl)) dX9_so_46 ⟨lel 0 0 rfl, lel 0 0 rfl⟩) (fun r_283 h_r_283 => ?_)
        have b_r_283 := h_r_283
        have b_r_283 : (0 : Int) ≤ r_283.toInt ∧ r_283.toInt ≤ 63 := b_r_283
        refine lv_iload_n hx hb dX9_so_49 rfl (lv_at hl 3 rfl) ?_
        refine cutP (σ := Int32) (pc2 := 56) (st2 := fun v => []) (cells2 := 0) (slots2 := 0) (fun v ls => lv_has ls 4 [(3, .int y_159), (2, .int v), (0, .ref h0), (1, .int a1)]) (fun v ls hI => ?_) (fun hj_56_286 => ?_)
        ·
          obtain ⟨y_286, rfl⟩ : ∃ z, z = v := ⟨_, rfl⟩
          have hl := hI
          have hl : lv_has ls 4 [(3, .int y_159), (2, .int y_286), (0, .ref h0), (1, .int a1)] := hl
          obtain ⟨z_287, e_z_287⟩ : ∃ y : Int32, y = y_159 + 1 := ⟨_, rfl⟩
          refine lv_iinc (v := z_287) (lv' := [(3, .int z_287), (2, .int y_286), (0, .ref h0), (1, .int a1)]) hx hb dX9_so_56 hl (k := 0) rfl (by rw [e_z_287]; rfl) (by decide) rfl (fun ls hl => ?_)
          obtain ⟨q_z_287, b_z_287⟩ := ti_add (lo := 1) (hi := 20000) e_z_287 rfl (by decide : (1 : Int32).toInt = 1) b_y_159 (by decide : (1 : Int) ≤ (1 : Int32).toInt ∧ (1 : Int32).toInt ≤ 1) (by decide)
          refine lv_goto (tgt := 27) hx hb dX9_so_59 (by decide) ?_
          exact ih_27_280 (z_287, y_286) _ ⟨(show (0 : Int) ≤ z_287.toInt ∧ z_287.toInt ≤ 20000 from (rg_w b_z_287 (by decide) (by decide))), lv_sub hl [0, 1, 2, 3] rfl⟩ (show (20000 - z_287.toInt).toNat < (20000 - y_159.toInt).toNat by omega)
        ·
          refine lv_icmp_ne (tgt := 56) hx hb dX9_so_50 (by decide) (fun c_284 => ?_) (fun c_284 => ?_)
          ·
            have n_c_284 : (r_283.toInt : Int) ≠ a1.toInt := c_ne rfl rfl c_284
            exact hj_56_286 y_160 _ (lv_sub hl [0, 1, 2, 3] rfl)
          ·
            have n_c_284 : (r_283.toInt : Int) = a1.toInt := c_eq rfl rfl c_284
            have b_r_283 : (0 : Int) ≤ r_283.toInt ∧ r_283.toInt ≤ 9 := r_eq1 b_r_283 b_a1 n_c_284 (by decide)
            obtain ⟨z_288, e_z_288⟩ : ∃ y : Int32, y = y_160 + 1 := ⟨_, rfl⟩
            refine lv_iinc (v := z_288) (lv' := [(2, .int z_288), (3, .int y_159), (0, .ref h0), (1, .int a1)]) hx hb dX9_so_53 hl (k := 1) rfl (by rw [e_z_288]; rfl) (by decide) rfl (fun ls hl => ?_)
            exact hj_56_286 z_288 _ (lv_sub hl [1, 0, 2, 3] rfl)
    ·
      have n_c_149 : (r_148.toInt : Int) = 0 := c_eq rfl (by decide) c_149
      have b_r_148 : (0 : Int) ≤ r_148.toInt ∧ r_148.toInt ≤ 0 := r_eq1 b_r_148 (by decide : (0 : Int) ≤ (0 : Int32).toInt ∧ (0 : Int32).toInt ≤ 0) n_c_149 (by decide)
      refine lv_bipush (v := (-2)) hx hb dX9_so_20 (by decide) ?_
      exact W.iret (v := (-2)) hx hb hr (fun t ht hW => ⟨(-2), rfl, trivial, ht⟩) t_nil dX9_so_22
theorem dX9_alike_0 : decode cX9_alike 0 = .ok (.aload_n 0, 1) := by decide +kernel
theorem dX9_alike_1 : decode cX9_alike 1 = .ok (.getfield 35, 3) := by decide +kernel
theorem dX9_alike_4 : decode cX9_alike 4 = .ok (.iload_n 1, 1) := by decide +kernel
theorem dX9_alike_5 : decode cX9_alike 5 = .ok (.invokevirtual 149, 3) := by decide +kernel
theorem dX9_alike_8 : decode cX9_alike 8 = .ok (.ifCond .eq 14, 3) := by decide +kernel
theorem dX9_alike_11 : decode cX9_alike 11 = .ok (.aload_n 0, 1) := by decide +kernel
theorem dX9_alike_12 : decode cX9_alike 12 = .ok (.getfield 35, 3) := by decide +kernel
theorem dX9_alike_15 : decode cX9_alike 15 = .ok (.iload_n 2, 1) := by decide +kernel
theorem dX9_alike_16 : decode cX9_alike 16 = .ok (.invokevirtual 149, 3) := by decide +kernel
theorem dX9_alike_19 : decode cX9_alike 19 = .ok (.ifCond .ne 6, 3) := by decide +kernel
theorem dX9_alike_22 : decode cX9_alike 22 = .ok (.bipush (-2), 2) := by decide +kernel
theorem dX9_alike_24 : decode cX9_alike 24 = .ok (.ireturn, 1) := by decide +kernel
theorem dX9_alike_25 : decode cX9_alike 25 = .ok (.aload_n 0, 1) := by decide +kernel
theorem dX9_alike_26 : decode cX9_alike 26 = .ok (.getfield 35, 3) := by decide +kernel
theorem dX9_alike_29 : decode cX9_alike 29 = .ok (.iload_n 1, 1) := by decide +kernel
theorem dX9_alike_30 : decode cX9_alike 30 = .ok (.iload_n 2, 1) := by decide +kernel
theorem dX9_alike_31 : decode cX9_alike 31 = .ok (.invokevirtual 203, 3) := by decide +kernel
theorem dX9_alike_34 : decode cX9_alike 34 = .ok (.iconst (-1), 1) := by decide +kernel
theorem dX9_alike_35 : decode cX9_alike 35 = .ok (.if_icmp .ne 7, 3) := by decide +kernel
theorem dX9_alike_38 : decode cX9_alike 38 = .ok (.iconst 1, 1) := by decide +kernel
theorem dX9_alike_39 : decode cX9_alike 39 = .ok (.goto 4, 3) := by decide +kernel
theorem dX9_alike_42 : decode cX9_alike 42 = .ok (.iconst 0, 1) := by decide +kernel
theorem dX9_alike_43 : decode cX9_alike 43 = .ok (.ireturn, 1) := by decide +kernel
theorem hd_yX9_alike : yX9_alike.cls = RX9 ∧ yX9_alike.cls ≠ "java/lang/invoke/MethodHandle" ∧ yX9_alike.cls ≠ "java/lang/invoke/VarHandle" ∧ (parseMethodDescriptor yX9_alike.desc).map (fun d => d.parameters.length) = some 2 := by decide +kernel
def uX9_alike : List Cond := List.cons (.code yX9_alike cX9_alike 3 (some .int)) (HAppend.hAppend ([.fieldLink RX9 35 "LuckyTicket" "current" "LLuckyTicket$Roll;", .methodLink RX9 149 yX2_hasLaw, .instanceMethod yX2_hasLaw, .selects RX2 yX2_hasLaw yX2_hasLaw, .initialized RX2, .methodLink RX9 203 yX2_firstUnlike, .instanceMethod yX2_firstUnlike, .selects RX2 yX2_firstUnlike yX2_firstUnlike] : List Cond) (HAppend.hAppend uX2_hasLaw (HAppend.hAppend uX2_firstUnlike wsX90)))
theorem iX9_alike_X9 : ∀ w ∈ wsX90, w ∈ uX9_alike := fun _ h => (List.mem_cons_of_mem _ (List.mem_append_right _ (List.mem_append_right _ (List.mem_append_right _ h))))
theorem guX9_alike : GU uX9_alike := gu_cons (gu_app (by decide +kernel) (gu_ap guX2_hasLaw (gu_ap guX2_firstUnlike gws_X9)))
theorem gX9_alike__X2_hasLaw_V149 : GoodIn uX9_alike (wsV RX9 149 RX2 yX2_hasLaw uX2_hasLaw) := gin_V (List.mem_of_getElem? (i := 2) rfl) (List.mem_of_getElem? (i := 3) rfl) (List.mem_of_getElem? (i := 4) rfl) (List.mem_of_getElem? (i := 5) rfl) (fun _ h => (List.mem_cons_of_mem _ (List.mem_append_right _ (List.mem_append_left _ h)))) guX2_hasLaw
theorem gX9_alike__X2_firstUnlike_V203 : GoodIn uX9_alike (wsV RX9 203 RX2 yX2_firstUnlike uX2_firstUnlike) := gin_V (List.mem_of_getElem? (i := 6) rfl) (List.mem_of_getElem? (i := 7) rfl) (List.mem_of_getElem? (i := 8) rfl) (List.mem_of_getElem? (i := 5) rfl) (fun _ h => (List.mem_cons_of_mem _ (List.mem_append_right _ (List.mem_append_right _ (List.mem_append_left _ h))))) guX2_firstUnlike
set_option maxHeartbeats 4000000 in
set_option maxRecDepth 100000 in
theorem kX9_alike (l : Launch) (dC : Nat → ClassId) (dI : Nat → Nat → Nat) (h0 : Nat) (tp : Nat) (sc : Nat) (rd : Nat) (cu : Nat) (im : Nat) (ig : Nat) (sl : Nat) (se : Nat) (sm : Nat) (fc : Nat) (ln : Int32) (bs : Int32) (tk : Int32) (lw : Int32) (li : Int32) (fa : Nat) (lu : Nat) (cL : ClassId) (nl : Nat) (fl : Nat → Int32) (a1 : Int32) (a2 : Int32) (b_ln : (0 : Int) ≤ ln.toInt ∧ ln.toInt ≤ 12) (b_bs : (0 : Int) ≤ bs.toInt ∧ bs.toInt ≤ 16) (b_tk : (0 : Int) ≤ tk.toInt ∧ tk.toInt ≤ 20000) (b_lw : (0 : Int) ≤ lw.toInt ∧ lw.toInt ≤ 9) (hl1 : tk.toInt ≤ (nl : Int)) : Met l yX9_alike uX9_alike ({ frames := 3, cells := 0, slots := 0, locals := 66 }) (va_Pc [.ref h0, .int a1, .int a2] (pw (dC, dI) vwCl [(h0, .inr (7, [.ref tp, .ref sc, .ref rd, .ref cu, .ref im, .ref ig, .ref sl, .ref se, .ref sm, .ref fc])), (cu, .inr (1, [.int ln, .int bs, .int tk, .int lw, .int li, .ref fa, .ref lu])), (lu, .inl (cL, nl, .inl fl))] [(cL, .int)])) (vp_Si (fun r => ((-2 : Int) ≤ r.toInt ∧ r.toInt ≤ 1))) 0 0 (fun _ => False) := by
  refine Met.ofW (cc := cX9_alike) (maxL := 3) (ret := (some .int)) pn_X9 rfl ?_
  intro p e s m args below meth c s₁ B hml hv
  obtain ⟨rfl, hP, hK, hN⟩ := hv
  have hx := B.exec
  have hb := B.bytes
  have hr := B.returns
  have hts := atoms_spec (ws := uX9_alike) B.pre
  have hown : s.vm.findClass RX9 = some m.cls := hown_of B.named rfl
  have hlocks := B.notSynchronized
  have hl := lv_entry ([.ref h0, .int a1, .int a2]) (n := 3) (Nat.le_of_ble_eq_true rfl)
  rw [lg_entry_eq]
  generalize (lg_sl ([.ref h0, .int a1, .int a2]) ++ List.replicate (3 - (lg_sl ([.ref h0, .int a1, .int a2])).length) Slot.unset).toArray = ls at hl ⊢
  have hl : lv_has ls 3 [(0, .ref h0), (1, .int a1), (2, .int a2)] := hl
  refine lv_aload_n hx hb dX9_alike_0 rfl (lv_at hl 0 rfl) ?_
  refine va_get (D := (dC, dI)) (ci := 7) (v := .ref cu) (C := RX9) (T := TX9) (N := 10) hx hb hts iX9_alike_X9 hown hK hP 0 rfl rfl 3 (by decide) (hts (.fieldLink RX9 35 "LuckyTicket" "current" "LLuckyTicket$Roll;") (List.mem_of_getElem? (i := 1) rfl)) (fun _ h9 => h9) rfl dX9_alike_1 ?_
  refine lv_iload_n hx hb dX9_alike_4 rfl (lv_at hl 1 rfl) ?_
  refine vp_callSi (W.runV (As := [.int a1]) (rest := []) ⟨hx, hb, hml, hown, hts⟩ (kX2_hasLaw l dC dI cu ln bs tk lw li fa lu a1 b_ln b_bs b_tk b_lw) (cwV 1 hts gX9_alike__X2_hasLaw_V149 rfl rfl rfl hd_yX2_hasLaw ⟨lel 1 3 rfl, lel 21 66 rfl⟩) ⟨pw_fb, rcv_X2 hK hP (q0 := 1) rfl, (pw_use hP hK hN [1] rfl [] rfl)⟩ rfl rfl hl.1 rfl (lv_room (Nat.le_of_ble_eq_true rfl)) dX9_alike_5 ⟨lel 0 0 rfl, lel 0 0 rfl⟩) (fun r_9 h_r_9 => ?_)
  obtain ⟨b_r_9, nz_r_9⟩ := h_r_9
  have b_r_9 : (0 : Int) ≤ r_9.toInt ∧ r_9.toInt ≤ 1 := b_r_9
  refine lv_if_eq (tgt := 22) hx hb dX9_alike_8 (by decide) (fun c_10 => ?_) (fun c_10 => ?_)
  ·
    have n_c_10 : (r_9.toInt : Int) = 0 := c_eq rfl (by decide) c_10
    have b_r_9 : (0 : Int) ≤ r_9.toInt ∧ r_9.toInt ≤ 0 := r_eq1 b_r_9 (by decide : (0 : Int) ≤ (0 : Int32).toInt ∧ (0 : Int32).toInt ≤ 0) n_c_10 (by decide)
    refine lv_bipush (v := (-2)) hx hb dX9_alike_22 (by decide) ?_
    exact W.iret (v := (-2)) hx hb hr (fun t ht hW => ⟨(-2), rfl, (rg_w (by decide : (-2 : Int) ≤ ((-2) : Int32).toInt ∧ ((-2) : Int32).toInt ≤ -2) (by decide) (by decide)), ht⟩) t_nil dX9_alike_24
  ·
    have n_c_10 : (r_9.toInt : Int) ≠ 0 := c_ne rfl (by decide) c_10
    have b_r_9 : (1 : Int) ≤ r_9.toInt ∧ r_9.toInt ≤ 1 := r_ne1 b_r_9 (by decide : (0 : Int) ≤ (0 : Int32).toInt ∧ (0 : Int32).toInt ≤ 0) n_c_10 (by decide)
    obtain ⟨b_a1, g_11⟩ := nz_r_9 c_10
    refine lv_aload_n hx hb dX9_alike_11 rfl (lv_at hl 0 rfl) ?_
    refine va_get (D := (dC, dI)) (ci := 7) (v := .ref cu) (C := RX9) (T := TX9) (N := 10) hx hb hts iX9_alike_X9 hown hK hP 0 rfl rfl 3 (by decide) (hts (.fieldLink RX9 35 "LuckyTicket" "current" "LLuckyTicket$Roll;") (List.mem_of_getElem? (i := 1) rfl)) (fun _ h9 => h9) rfl dX9_alike_12 ?_
    refine lv_iload_n hx hb dX9_alike_15 rfl (lv_at hl 2 rfl) ?_
    refine vp_callSi (W.runV (As := [.int a2]) (rest := []) ⟨hx, hb, hml, hown, hts⟩ (kX2_hasLaw l dC dI cu ln bs tk lw li fa lu a2 b_ln b_bs b_tk b_lw) (cwV 1 hts gX9_alike__X2_hasLaw_V149 rfl rfl rfl hd_yX2_hasLaw ⟨lel 1 3 rfl, lel 21 66 rfl⟩) ⟨pw_fb, rcv_X2 hK hP (q0 := 1) rfl, (pw_use hP hK hN [1] rfl [] rfl)⟩ rfl rfl hl.1 rfl (lv_room (Nat.le_of_ble_eq_true rfl)) dX9_alike_16 ⟨lel 0 0 rfl, lel 0 0 rfl⟩) (fun r_12 h_r_12 => ?_)
    obtain ⟨b_r_12, nz_r_12⟩ := h_r_12
    have b_r_12 : (0 : Int) ≤ r_12.toInt ∧ r_12.toInt ≤ 1 := b_r_12
    refine lv_if_ne (tgt := 25) hx hb dX9_alike_19 (by decide) (fun c_13 => ?_) (fun c_13 => ?_)
    ·
      have n_c_13 : (r_12.toInt : Int) ≠ 0 := c_ne rfl (by decide) c_13
      have b_r_12 : (1 : Int) ≤ r_12.toInt ∧ r_12.toInt ≤ 1 := r_ne1 b_r_12 (by decide : (0 : Int) ≤ (0 : Int32).toInt ∧ (0 : Int32).toInt ≤ 0) n_c_13 (by decide)
      obtain ⟨b_a2, g_14⟩ := nz_r_12 c_13
      refine lv_aload_n hx hb dX9_alike_25 rfl (lv_at hl 0 rfl) ?_
      refine va_get (D := (dC, dI)) (ci := 7) (v := .ref cu) (C := RX9) (T := TX9) (N := 10) hx hb hts iX9_alike_X9 hown hK hP 0 rfl rfl 3 (by decide) (hts (.fieldLink RX9 35 "LuckyTicket" "current" "LLuckyTicket$Roll;") (List.mem_of_getElem? (i := 1) rfl)) (fun _ h9 => h9) rfl dX9_alike_26 ?_
      refine lv_iload_n hx hb dX9_alike_29 rfl (lv_at hl 1 rfl) ?_
      refine lv_iload_n hx hb dX9_alike_30 rfl (lv_at hl 2 rfl) ?_
      refine vp_callSi (W.runV (As := [.int a1, .int a2]) (rest := []) ⟨hx, hb, hml, hown, hts⟩ (kX2_firstUnlike l dC dI cu ln bs tk lw li fa lu cL nl fl a1 a2 b_ln b_bs b_tk b_lw (by omega)) (cwV 2 hts gX9_alike__X2_firstUnlike_V203 rfl rfl rfl hd_yX2_firstUnlike ⟨lel 3 3 rfl, lel 66 66 rfl⟩) ⟨pw_fb, rcv_X2 hK hP (q0 := 1) rfl, (pw_use hP hK hN [1, 2] rfl [0] rfl)⟩ rfl rfl hl.1 rfl (lv_room (Nat.le_of_ble_eq_true rfl)) dX9_alike_31 ⟨lel 0 0 rfl, lel 0 0 rfl⟩) (fun r_15 h_r_15 => ?_)
      have b_r_15 := h_r_15
      have b_r_15 : (-1 : Int) ≤ r_15.toInt ∧ r_15.toInt ≤ 19999 := b_r_15
      refine lv_iconst (v := (-1)) hx hb dX9_alike_34 (by decide) ?_
      refine lv_icmp_ne (tgt := 42) hx hb dX9_alike_35 (by decide) (fun c_16 => ?_) (fun c_16 => ?_)
      ·
        have n_c_16 : (r_15.toInt : Int) ≠ (-1) := c_ne rfl (by decide) c_16
        have b_r_15 : (0 : Int) ≤ r_15.toInt ∧ r_15.toInt ≤ 19999 := r_ne1 b_r_15 (by decide : (-1 : Int) ≤ ((-1) : Int32).toInt ∧ ((-1) : Int32).toInt ≤ -1) n_c_16 (by decide)
        refine lv_iconst (v := 0) hx hb dX9_alike_42 (by decide) ?_
        exact W.iret (v := 0) hx hb hr (fun t ht hW => ⟨0, rfl, (rg_w (by decide : (0 : Int) ≤ (0 : Int32).toInt ∧ (0 : Int32).toInt ≤ 0) (by decide) (by decide)), ht⟩) t_nil dX9_alike_43
      ·
        have n_c_16 : (r_15.toInt : Int) = (-1) := c_eq rfl (by decide) c_16
        have b_r_15 : (-1 : Int) ≤ r_15.toInt ∧ r_15.toInt ≤ -1 := r_eq1 b_r_15 (by decide : (-1 : Int) ≤ ((-1) : Int32).toInt ∧ ((-1) : Int32).toInt ≤ -1) n_c_16 (by decide)
        refine lv_iconst (v := 1) hx hb dX9_alike_38 (by decide) ?_
        refine lv_goto (tgt := 43) hx hb dX9_alike_39 (by decide) ?_
        exact W.iret (v := 1) hx hb hr (fun t ht hW => ⟨1, rfl, (rg_w (by decide : (1 : Int) ≤ (1 : Int32).toInt ∧ (1 : Int32).toInt ≤ 1) (by decide) (by decide)), ht⟩) t_nil dX9_alike_43
    ·
      have n_c_13 : (r_12.toInt : Int) = 0 := c_eq rfl (by decide) c_13
      have b_r_12 : (0 : Int) ≤ r_12.toInt ∧ r_12.toInt ≤ 0 := r_eq1 b_r_12 (by decide : (0 : Int) ≤ (0 : Int32).toInt ∧ (0 : Int32).toInt ≤ 0) n_c_13 (by decide)
      refine lv_bipush (v := (-2)) hx hb dX9_alike_22 (by decide) ?_
      exact W.iret (v := (-2)) hx hb hr (fun t ht hW => ⟨(-2), rfl, (rg_w (by decide : (-2 : Int) ≤ ((-2) : Int32).toInt ∧ ((-2) : Int32).toInt ≤ -2) (by decide) (by decide)), ht⟩) t_nil dX9_alike_24
theorem dX9_differ_0 : decode cX9_differ 0 = .ok (.aload_n 0, 1) := by decide +kernel
theorem dX9_differ_1 : decode cX9_differ 1 = .ok (.getfield 35, 3) := by decide +kernel
theorem dX9_differ_4 : decode cX9_differ 4 = .ok (.iload_n 1, 1) := by decide +kernel
theorem dX9_differ_5 : decode cX9_differ 5 = .ok (.invokevirtual 149, 3) := by decide +kernel
theorem dX9_differ_8 : decode cX9_differ 8 = .ok (.ifCond .eq 14, 3) := by decide +kernel
theorem dX9_differ_11 : decode cX9_differ 11 = .ok (.aload_n 0, 1) := by decide +kernel
theorem dX9_differ_12 : decode cX9_differ 12 = .ok (.getfield 35, 3) := by decide +kernel
theorem dX9_differ_15 : decode cX9_differ 15 = .ok (.iload_n 2, 1) := by decide +kernel
theorem dX9_differ_16 : decode cX9_differ 16 = .ok (.invokevirtual 149, 3) := by decide +kernel
theorem dX9_differ_19 : decode cX9_differ 19 = .ok (.ifCond .ne 6, 3) := by decide +kernel
theorem dX9_differ_22 : decode cX9_differ 22 = .ok (.bipush (-2), 2) := by decide +kernel
theorem dX9_differ_24 : decode cX9_differ 24 = .ok (.ireturn, 1) := by decide +kernel
theorem dX9_differ_25 : decode cX9_differ 25 = .ok (.aload_n 0, 1) := by decide +kernel
theorem dX9_differ_26 : decode cX9_differ 26 = .ok (.getfield 35, 3) := by decide +kernel
theorem dX9_differ_29 : decode cX9_differ 29 = .ok (.iload_n 1, 1) := by decide +kernel
theorem dX9_differ_30 : decode cX9_differ 30 = .ok (.iload_n 2, 1) := by decide +kernel
theorem dX9_differ_31 : decode cX9_differ 31 = .ok (.invokevirtual 203, 3) := by decide +kernel
theorem dX9_differ_34 : decode cX9_differ 34 = .ok (.ireturn, 1) := by decide +kernel
theorem hd_yX9_differ : yX9_differ.cls = RX9 ∧ yX9_differ.cls ≠ "java/lang/invoke/MethodHandle" ∧ yX9_differ.cls ≠ "java/lang/invoke/VarHandle" ∧ (parseMethodDescriptor yX9_differ.desc).map (fun d => d.parameters.length) = some 2 := by decide +kernel
def uX9_differ : List Cond := List.cons (.code yX9_differ cX9_differ 3 (some .int)) (HAppend.hAppend ([.fieldLink RX9 35 "LuckyTicket" "current" "LLuckyTicket$Roll;", .methodLink RX9 149 yX2_hasLaw, .instanceMethod yX2_hasLaw, .selects RX2 yX2_hasLaw yX2_hasLaw, .initialized RX2, .methodLink RX9 203 yX2_firstUnlike, .instanceMethod yX2_firstUnlike, .selects RX2 yX2_firstUnlike yX2_firstUnlike] : List Cond) (HAppend.hAppend uX2_hasLaw (HAppend.hAppend uX2_firstUnlike wsX90)))
theorem iX9_differ_X9 : ∀ w ∈ wsX90, w ∈ uX9_differ := fun _ h => (List.mem_cons_of_mem _ (List.mem_append_right _ (List.mem_append_right _ (List.mem_append_right _ h))))
theorem guX9_differ : GU uX9_differ := gu_cons (gu_app (by decide +kernel) (gu_ap guX2_hasLaw (gu_ap guX2_firstUnlike gws_X9)))
theorem gX9_differ__X2_hasLaw_V149 : GoodIn uX9_differ (wsV RX9 149 RX2 yX2_hasLaw uX2_hasLaw) := gin_V (List.mem_of_getElem? (i := 2) rfl) (List.mem_of_getElem? (i := 3) rfl) (List.mem_of_getElem? (i := 4) rfl) (List.mem_of_getElem? (i := 5) rfl) (fun _ h => (List.mem_cons_of_mem _ (List.mem_append_right _ (List.mem_append_left _ h)))) guX2_hasLaw
theorem gX9_differ__X2_firstUnlike_V203 : GoodIn uX9_differ (wsV RX9 203 RX2 yX2_firstUnlike uX2_firstUnlike) := gin_V (List.mem_of_getElem? (i := 6) rfl) (List.mem_of_getElem? (i := 7) rfl) (List.mem_of_getElem? (i := 8) rfl) (List.mem_of_getElem? (i := 5) rfl) (fun _ h => (List.mem_cons_of_mem _ (List.mem_append_right _ (List.mem_append_right _ (List.mem_append_left _ h))))) guX2_firstUnlike
set_option maxHeartbeats 4000000 in
set_option maxRecDepth 100000 in
theorem kX9_differ (l : Launch) (dC : Nat → ClassId) (dI : Nat → Nat → Nat) (h0 : Nat) (tp : Nat) (sc : Nat) (rd : Nat) (cu : Nat) (im : Nat) (ig : Nat) (sl : Nat) (se : Nat) (sm : Nat) (fc : Nat) (ln : Int32) (bs : Int32) (tk : Int32) (lw : Int32) (li : Int32) (fa : Nat) (lu : Nat) (cL : ClassId) (nl : Nat) (fl : Nat → Int32) (a1 : Int32) (a2 : Int32) (b_ln : (0 : Int) ≤ ln.toInt ∧ ln.toInt ≤ 12) (b_bs : (0 : Int) ≤ bs.toInt ∧ bs.toInt ≤ 16) (b_tk : (0 : Int) ≤ tk.toInt ∧ tk.toInt ≤ 20000) (b_lw : (0 : Int) ≤ lw.toInt ∧ lw.toInt ≤ 9) (hl1 : tk.toInt ≤ (nl : Int)) : Met l yX9_differ uX9_differ ({ frames := 3, cells := 0, slots := 0, locals := 66 }) (va_Pc [.ref h0, .int a1, .int a2] (pw (dC, dI) vwCl [(h0, .inr (7, [.ref tp, .ref sc, .ref rd, .ref cu, .ref im, .ref ig, .ref sl, .ref se, .ref sm, .ref fc])), (cu, .inr (1, [.int ln, .int bs, .int tk, .int lw, .int li, .ref fa, .ref lu])), (lu, .inl (cL, nl, .inl fl))] [(cL, .int)])) (vp_Si (fun r => ((-2 : Int) ≤ r.toInt ∧ r.toInt ≤ 19999))) 0 0 (fun _ => False) := by
  refine Met.ofW (cc := cX9_differ) (maxL := 3) (ret := (some .int)) pn_X9 rfl ?_
  intro p e s m args below meth c s₁ B hml hv
  obtain ⟨rfl, hP, hK, hN⟩ := hv
  have hx := B.exec
  have hb := B.bytes
  have hr := B.returns
  have hts := atoms_spec (ws := uX9_differ) B.pre
  have hown : s.vm.findClass RX9 = some m.cls := hown_of B.named rfl
  have hlocks := B.notSynchronized
  have hl := lv_entry ([.ref h0, .int a1, .int a2]) (n := 3) (Nat.le_of_ble_eq_true rfl)
  rw [lg_entry_eq]
  generalize (lg_sl ([.ref h0, .int a1, .int a2]) ++ List.replicate (3 - (lg_sl ([.ref h0, .int a1, .int a2])).length) Slot.unset).toArray = ls at hl ⊢
  have hl : lv_has ls 3 [(0, .ref h0), (1, .int a1), (2, .int a2)] := hl
  refine lv_aload_n hx hb dX9_differ_0 rfl (lv_at hl 0 rfl) ?_
  refine va_get (D := (dC, dI)) (ci := 7) (v := .ref cu) (C := RX9) (T := TX9) (N := 10) hx hb hts iX9_differ_X9 hown hK hP 0 rfl rfl 3 (by decide) (hts (.fieldLink RX9 35 "LuckyTicket" "current" "LLuckyTicket$Roll;") (List.mem_of_getElem? (i := 1) rfl)) (fun _ h9 => h9) rfl dX9_differ_1 ?_
  refine lv_iload_n hx hb dX9_differ_4 rfl (lv_at hl 1 rfl) ?_
  refine vp_callSi (W.runV (As := [.int a1]) (rest := []) ⟨hx, hb, hml, hown, hts⟩ (kX2_hasLaw l dC dI cu ln bs tk lw li fa lu a1 b_ln b_bs b_tk b_lw) (cwV 1 hts gX9_differ__X2_hasLaw_V149 rfl rfl rfl hd_yX2_hasLaw ⟨lel 1 3 rfl, lel 21 66 rfl⟩) ⟨pw_fb, rcv_X2 hK hP (q0 := 1) rfl, (pw_use hP hK hN [1] rfl [] rfl)⟩ rfl rfl hl.1 rfl (lv_room (Nat.le_of_ble_eq_true rfl)) dX9_differ_5 ⟨lel 0 0 rfl, lel 0 0 rfl⟩) (fun r_8 h_r_8 => ?_)
  obtain ⟨b_r_8, nz_r_8⟩ := h_r_8
  have b_r_8 : (0 : Int) ≤ r_8.toInt ∧ r_8.toInt ≤ 1 := b_r_8
  refine lv_if_eq (tgt := 22) hx hb dX9_differ_8 (by decide) (fun c_9 => ?_) (fun c_9 => ?_)
  ·
    have n_c_9 : (r_8.toInt : Int) = 0 := c_eq rfl (by decide) c_9
    have b_r_8 : (0 : Int) ≤ r_8.toInt ∧ r_8.toInt ≤ 0 := r_eq1 b_r_8 (by decide : (0 : Int) ≤ (0 : Int32).toInt ∧ (0 : Int32).toInt ≤ 0) n_c_9 (by decide)
    refine lv_bipush (v := (-2)) hx hb dX9_differ_22 (by decide) ?_
    exact W.iret (v := (-2)) hx hb hr (fun t ht hW => ⟨(-2), rfl, (rg_w (by decide : (-2 : Int) ≤ ((-2) : Int32).toInt ∧ ((-2) : Int32).toInt ≤ -2) (by decide) (by decide)), ht⟩) t_nil dX9_differ_24
  ·
    have n_c_9 : (r_8.toInt : Int) ≠ 0 := c_ne rfl (by decide) c_9
    have b_r_8 : (1 : Int) ≤ r_8.toInt ∧ r_8.toInt ≤ 1 := r_ne1 b_r_8 (by decide : (0 : Int) ≤ (0 : Int32).toInt ∧ (0 : Int32).toInt ≤ 0) n_c_9 (by decide)
    obtain ⟨b_a1, g_10⟩ := nz_r_8 c_9
    refine lv_aload_n hx hb dX9_differ_11 rfl (lv_at hl 0 rfl) ?_
    refine va_get (D := (dC, dI)) (ci := 7) (v := .ref cu) (C := RX9) (T := TX9) (N := 10) hx hb hts iX9_differ_X9 hown hK hP 0 rfl rfl 3 (by decide) (hts (.fieldLink RX9 35 "LuckyTicket" "current" "LLuckyTicket$Roll;") (List.mem_of_getElem? (i := 1) rfl)) (fun _ h9 => h9) rfl dX9_differ_12 ?_
    refine lv_iload_n hx hb dX9_differ_15 rfl (lv_at hl 2 rfl) ?_
    refine vp_callSi (W.runV (As := [.int a2]) (rest := []) ⟨hx, hb, hml, hown, hts⟩ (kX2_hasLaw l dC dI cu ln bs tk lw li fa lu a2 b_ln b_bs b_tk b_lw) (cwV 1 hts gX9_differ__X2_hasLaw_V149 rfl rfl rfl hd_yX2_hasLaw ⟨lel 1 3 rfl, lel 21 66 rfl⟩) ⟨pw_fb, rcv_X2 hK hP (q0 := 1) rfl, (pw_use hP hK hN [1] rfl [] rfl)⟩ rfl rfl hl.1 rfl (lv_room (Nat.le_of_ble_eq_true rfl)) dX9_differ_16 ⟨lel 0 0 rfl, lel 0 0 rfl⟩) (fun r_11 h_r_11 => ?_)
    obtain ⟨b_r_11, nz_r_11⟩ := h_r_11
    have b_r_11 : (0 : Int) ≤ r_11.toInt ∧ r_11.toInt ≤ 1 := b_r_11
    refine lv_if_ne (tgt := 25) hx hb dX9_differ_19 (by decide) (fun c_12 => ?_) (fun c_12 => ?_)
    ·
      have n_c_12 : (r_11.toInt : Int) ≠ 0 := c_ne rfl (by decide) c_12
      have b_r_11 : (1 : Int) ≤ r_11.toInt ∧ r_11.toInt ≤ 1 := r_ne1 b_r_11 (by decide : (0 : Int) ≤ (0 : Int32).toInt ∧ (0 : Int32).toInt ≤ 0) n_c_12 (by decide)
      obtain ⟨b_a2, g_13⟩ := nz_r_11 c_12
      refine lv_aload_n hx hb dX9_differ_25 rfl (lv_at hl 0 rfl) ?_
      refine va_get (D := (dC, dI)) (ci := 7) (v := .ref cu) (C := RX9) (T := TX9) (N := 10) hx hb hts iX9_differ_X9 hown hK hP 0 rfl rfl 3 (by decide) (hts (.fieldLink RX9 35 "LuckyTicket" "current" "LLuckyTicket$Roll;") (List.mem_of_getElem? (i := 1) rfl)) (fun _ h9 => h9) rfl dX9_differ_26 ?_
      refine lv_iload_n hx hb dX9_differ_29 rfl (lv_at hl 1 rfl) ?_
      refine lv_iload_n hx hb dX9_differ_30 rfl (lv_at hl 2 rfl) ?_
      refine vp_callSi (W.runV (As := [.int a1, .int a2]) (rest := []) ⟨hx, hb, hml, hown, hts⟩ (kX2_firstUnlike l dC dI cu ln bs tk lw li fa lu cL nl fl a1 a2 b_ln b_bs b_tk b_lw (by omega)) (cwV 2 hts gX9_differ__X2_firstUnlike_V203 rfl rfl rfl hd_yX2_firstUnlike ⟨lel 3 3 rfl, lel 66 66 rfl⟩) ⟨pw_fb, rcv_X2 hK hP (q0 := 1) rfl, (pw_use hP hK hN [1, 2] rfl [0] rfl)⟩ rfl rfl hl.1 rfl (lv_room (Nat.le_of_ble_eq_true rfl)) dX9_differ_31 ⟨lel 0 0 rfl, lel 0 0 rfl⟩) (fun r_14 h_r_14 => ?_)
      have b_r_14 := h_r_14
      have b_r_14 : (-1 : Int) ≤ r_14.toInt ∧ r_14.toInt ≤ 19999 := b_r_14
      exact W.iret (v := r_14) hx hb hr (fun t ht hW => ⟨r_14, rfl, (rg_w b_r_14 (by decide) (by decide)), ht⟩) t_nil dX9_differ_34
    ·
      have n_c_12 : (r_11.toInt : Int) = 0 := c_eq rfl (by decide) c_12
      have b_r_11 : (0 : Int) ≤ r_11.toInt ∧ r_11.toInt ≤ 0 := r_eq1 b_r_11 (by decide : (0 : Int) ≤ (0 : Int32).toInt ∧ (0 : Int32).toInt ≤ 0) n_c_12 (by decide)
      refine lv_bipush (v := (-2)) hx hb dX9_differ_22 (by decide) ?_
      exact W.iret (v := (-2)) hx hb hr (fun t ht hW => ⟨(-2), rfl, (rg_w (by decide : (-2 : Int) ≤ ((-2) : Int32).toInt ∧ ((-2) : Int32).toInt ≤ -2) (by decide) (by decide)), ht⟩) t_nil dX9_differ_24
theorem dX9_mend_0 : decode cX9_mend 0 = .ok (.aload_n 0, 1) := by decide +kernel
theorem dX9_mend_1 : decode cX9_mend 1 = .ok (.iload_n 1, 1) := by decide +kernel
theorem dX9_mend_2 : decode cX9_mend 2 = .ok (.iload_n 2, 1) := by decide +kernel
theorem dX9_mend_3 : decode cX9_mend 3 = .ok (.invokevirtual 137, 3) := by decide +kernel
theorem dX9_mend_6 : decode cX9_mend 6 = .ok (.ifCond .eq 15, 3) := by decide +kernel
theorem dX9_mend_9 : decode cX9_mend 9 = .ok (.aload_n 0, 1) := by decide +kernel
theorem dX9_mend_10 : decode cX9_mend 10 = .ok (.getfield 35, 3) := by decide +kernel
theorem dX9_mend_13 : decode cX9_mend 13 = .ok (.iload_n 1, 1) := by decide +kernel
theorem dX9_mend_14 : decode cX9_mend 14 = .ok (.iload_n 2, 1) := by decide +kernel
theorem dX9_mend_15 : decode cX9_mend 15 = .ok (.invokevirtual 250, 3) := by decide +kernel
theorem dX9_mend_18 : decode cX9_mend 18 = .ok (.goto 5, 3) := by decide +kernel
theorem dX9_mend_21 : decode cX9_mend 21 = .ok (.bipush (-2), 2) := by decide +kernel
theorem dX9_mend_23 : decode cX9_mend 23 = .ok (.ireturn, 1) := by decide +kernel
theorem hd_yX9_mend : yX9_mend.cls = RX9 ∧ yX9_mend.cls ≠ "java/lang/invoke/MethodHandle" ∧ yX9_mend.cls ≠ "java/lang/invoke/VarHandle" ∧ (parseMethodDescriptor yX9_mend.desc).map (fun d => d.parameters.length) = some 2 := by decide +kernel
def uX9_mend : List Cond := List.cons (.code yX9_mend cX9_mend 3 (some .int)) (HAppend.hAppend ([.methodLink RX9 137 yX9_hasBoth, .instanceMethod yX9_hasBoth, .selects RX9 yX9_hasBoth yX9_hasBoth, .initialized RX9, .fieldLink RX9 35 "LuckyTicket" "current" "LLuckyTicket$Roll;", .methodLink RX9 250 yX2_fewestChanges, .instanceMethod yX2_fewestChanges, .selects RX2 yX2_fewestChanges yX2_fewestChanges, .initialized RX2] : List Cond) (HAppend.hAppend uX9_hasBoth (HAppend.hAppend uX2_fewestChanges wsX90)))
theorem iX9_mend_X9 : ∀ w ∈ wsX90, w ∈ uX9_mend := fun _ h => (List.mem_cons_of_mem _ (List.mem_append_right _ (List.mem_append_right _ (List.mem_append_right _ h))))
theorem guX9_mend : GU uX9_mend := gu_cons (gu_app (by decide +kernel) (gu_ap guX9_hasBoth (gu_ap guX2_fewestChanges gws_X9)))
theorem gX9_mend__X9_hasBoth_V137 : GoodIn uX9_mend (wsV RX9 137 RX9 yX9_hasBoth uX9_hasBoth) := gin_V (List.mem_of_getElem? (i := 1) rfl) (List.mem_of_getElem? (i := 2) rfl) (List.mem_of_getElem? (i := 3) rfl) (List.mem_of_getElem? (i := 4) rfl) (fun _ h => (List.mem_cons_of_mem _ (List.mem_append_right _ (List.mem_append_left _ h)))) guX9_hasBoth
theorem gX9_mend__X2_fewestChanges_V250 : GoodIn uX9_mend (wsV RX9 250 RX2 yX2_fewestChanges uX2_fewestChanges) := gin_V (List.mem_of_getElem? (i := 6) rfl) (List.mem_of_getElem? (i := 7) rfl) (List.mem_of_getElem? (i := 8) rfl) (List.mem_of_getElem? (i := 9) rfl) (fun _ h => (List.mem_cons_of_mem _ (List.mem_append_right _ (List.mem_append_right _ (List.mem_append_left _ h))))) guX2_fewestChanges
set_option maxHeartbeats 4000000 in
set_option maxRecDepth 100000 in
theorem kX9_mend (l : Launch) (dC : Nat → ClassId) (dI : Nat → Nat → Nat) (h0 : Nat) (tp : Nat) (sc : Nat) (rd : Nat) (cu : Nat) (im : Nat) (ig : Nat) (sl : Nat) (se : Nat) (sm : Nat) (fc : Nat) (ln : Int32) (bs : Int32) (tk : Int32) (lw : Int32) (li : Int32) (fa : Nat) (lu : Nat) (cL : ClassId) (nl : Nat) (fl : Nat → Int32) (cF : ClassId) (nf : Nat) (ff : Nat → Int64) (a1 : Int32) (a2 : Int32) (b_ln : (0 : Int) ≤ ln.toInt ∧ ln.toInt ≤ 12) (b_bs : (0 : Int) ≤ bs.toInt ∧ bs.toInt ≤ 16) (b_tk : (0 : Int) ≤ tk.toInt ∧ tk.toInt ≤ 20000) (b_lw : (0 : Int) ≤ lw.toInt ∧ lw.toInt ≤ 9) (hl1 : tk.toInt ≤ (nl : Int)) (hf1 : tk.toInt ≤ (nf : Int)) : Met l yX9_mend uX9_mend ({ frames := 3, cells := 0, slots := 0, locals := 73 }) (va_Pc [.ref h0, .int a1, .int a2] (pw (dC, dI) vwCl [(h0, .inr (7, [.ref tp, .ref sc, .ref rd, .ref cu, .ref im, .ref ig, .ref sl, .ref se, .ref sm, .ref fc])), (cu, .inr (1, [.int ln, .int bs, .int tk, .int lw, .int li, .ref fa, .ref lu])), (lu, .inl (cL, nl, .inl fl)), (fa, .inl (cF, nf, .inr (.inl ff)))] [(cL, .int), (cF, .long)])) (vp_Si (fun r => ((-2 : Int) ≤ r.toInt ∧ r.toInt ≤ 127))) 0 0 (fun _ => False) := by
  refine Met.ofW (cc := cX9_mend) (maxL := 3) (ret := (some .int)) pn_X9 rfl ?_
  intro p e s m args below meth c s₁ B hml hv
  obtain ⟨rfl, hP, hK, hN⟩ := hv
  have hx := B.exec
  have hb := B.bytes
  have hr := B.returns
  have hts := atoms_spec (ws := uX9_mend) B.pre
  have hown : s.vm.findClass RX9 = some m.cls := hown_of B.named rfl
  have hlocks := B.notSynchronized
  have hl := lv_entry ([.ref h0, .int a1, .int a2]) (n := 3) (Nat.le_of_ble_eq_true rfl)
  rw [lg_entry_eq]
  generalize (lg_sl ([.ref h0, .int a1, .int a2]) ++ List.replicate (3 - (lg_sl ([.ref h0, .int a1, .int a2])).length) Slot.unset).toArray = ls at hl ⊢
  have hl : lv_has ls 3 [(0, .ref h0), (1, .int a1), (2, .int a2)] := hl
  refine lv_aload_n hx hb dX9_mend_0 rfl (lv_at hl 0 rfl) ?_
  refine lv_iload_n hx hb dX9_mend_1 rfl (lv_at hl 1 rfl) ?_
  refine lv_iload_n hx hb dX9_mend_2 rfl (lv_at hl 2 rfl) ?_
  refine vp_callSi (W.runV (As := [.int a1, .int a2]) (rest := []) ⟨hx, hb, hml, hown, hts⟩ (kX9_hasBoth l dC dI h0 tp sc rd cu im ig sl se sm fc ln bs tk lw li fa lu a1 a2 b_ln b_bs b_tk b_lw) (cwV 2 hts gX9_mend__X9_hasBoth_V137 rfl rfl rfl hd_yX9_hasBoth ⟨lel 2 3 rfl, lel 43 73 rfl⟩) ⟨pw_fb, rcv_X9 hK hP (q0 := 0) rfl, (pw_use hP hK hN [0, 1] rfl [] rfl)⟩ rfl rfl hl.1 rfl (lv_room (Nat.le_of_ble_eq_true rfl)) dX9_mend_3 ⟨lel 0 0 rfl, lel 0 0 rfl⟩) (fun r_5 h_r_5 => ?_)
  obtain ⟨b_r_5, nz_r_5⟩ := h_r_5
  have b_r_5 : (0 : Int) ≤ r_5.toInt ∧ r_5.toInt ≤ 1 := b_r_5
  refine lv_if_eq (tgt := 21) hx hb dX9_mend_6 (by decide) (fun c_6 => ?_) (fun c_6 => ?_)
  ·
    have n_c_6 : (r_5.toInt : Int) = 0 := c_eq rfl (by decide) c_6
    have b_r_5 : (0 : Int) ≤ r_5.toInt ∧ r_5.toInt ≤ 0 := r_eq1 b_r_5 (by decide : (0 : Int) ≤ (0 : Int32).toInt ∧ (0 : Int32).toInt ≤ 0) n_c_6 (by decide)
    refine lv_bipush (v := (-2)) hx hb dX9_mend_21 (by decide) ?_
    exact W.iret (v := (-2)) hx hb hr (fun t ht hW => ⟨(-2), rfl, (rg_w (by decide : (-2 : Int) ≤ ((-2) : Int32).toInt ∧ ((-2) : Int32).toInt ≤ -2) (by decide) (by decide)), ht⟩) t_nil dX9_mend_23
  ·
    have n_c_6 : (r_5.toInt : Int) ≠ 0 := c_ne rfl (by decide) c_6
    have b_r_5 : (1 : Int) ≤ r_5.toInt ∧ r_5.toInt ≤ 1 := r_ne1 b_r_5 (by decide : (0 : Int) ≤ (0 : Int32).toInt ∧ (0 : Int32).toInt ≤ 0) n_c_6 (by decide)
    obtain ⟨b_a1, b_a2, g_7⟩ := nz_r_5 c_6
    refine lv_aload_n hx hb dX9_mend_9 rfl (lv_at hl 0 rfl) ?_
    refine va_get (D := (dC, dI)) (ci := 7) (v := .ref cu) (C := RX9) (T := TX9) (N := 10) hx hb hts iX9_mend_X9 hown hK hP 0 rfl rfl 3 (by decide) (hts (.fieldLink RX9 35 "LuckyTicket" "current" "LLuckyTicket$Roll;") (List.mem_of_getElem? (i := 5) rfl)) (fun _ h9 => h9) rfl dX9_mend_10 ?_
    refine lv_iload_n hx hb dX9_mend_13 rfl (lv_at hl 1 rfl) ?_
    refine lv_iload_n hx hb dX9_mend_14 rfl (lv_at hl 2 rfl) ?_
    refine vp_callSi (W.runV (As := [.int a1, .int a2]) (rest := []) ⟨hx, hb, hml, hown, hts⟩ (kX2_fewestChanges l dC dI cu ln bs tk lw li fa lu cL nl fl cF nf ff a1 a2 b_ln b_bs b_tk b_lw (by omega) (by omega)) (cwV 2 hts gX9_mend__X2_fewestChanges_V250 rfl rfl rfl hd_yX2_fewestChanges ⟨lel 3 3 rfl, lel 73 73 rfl⟩) ⟨pw_fb, rcv_X2 hK hP (q0 := 1) rfl, (pw_use hP hK hN [1, 2, 3] rfl [0, 1] rfl)⟩ rfl rfl hl.1 rfl (lv_room (Nat.le_of_ble_eq_true rfl)) dX9_mend_15 ⟨lel 0 0 rfl, lel 0 0 rfl⟩) (fun r_8 h_r_8 => ?_)
    have b_r_8 := h_r_8
    have b_r_8 : (-1 : Int) ≤ r_8.toInt ∧ r_8.toInt ≤ 127 := b_r_8
    refine lv_goto (tgt := 23) hx hb dX9_mend_18 (by decide) ?_
    exact W.iret (v := r_8) hx hb hr (fun t ht hW => ⟨r_8, rfl, (rg_w b_r_8 (by decide) (by decide)), ht⟩) t_nil dX9_mend_23
theorem dX9_mended_0 : decode cX9_mended 0 = .ok (.aload_n 0, 1) := by decide +kernel
theorem dX9_mended_1 : decode cX9_mended 1 = .ok (.iload_n 1, 1) := by decide +kernel
theorem dX9_mended_2 : decode cX9_mended 2 = .ok (.iload_n 2, 1) := by decide +kernel
theorem dX9_mended_3 : decode cX9_mended 3 = .ok (.invokevirtual 137, 3) := by decide +kernel
theorem dX9_mended_6 : decode cX9_mended 6 = .ok (.ifCond .ne 6, 3) := by decide +kernel
theorem dX9_mended_9 : decode cX9_mended 9 = .ok (.bipush (-2), 2) := by decide +kernel
theorem dX9_mended_11 : decode cX9_mended 11 = .ok (.ireturn, 1) := by decide +kernel
theorem dX9_mended_12 : decode cX9_mended 12 = .ok (.aload_n 0, 1) := by decide +kernel
theorem dX9_mended_13 : decode cX9_mended 13 = .ok (.getfield 35, 3) := by decide +kernel
theorem dX9_mended_16 : decode cX9_mended 16 = .ok (.iload_n 1, 1) := by decide +kernel
theorem dX9_mended_17 : decode cX9_mended 17 = .ok (.iload_n 2, 1) := by decide +kernel
theorem dX9_mended_18 : decode cX9_mended 18 = .ok (.invokevirtual 250, 3) := by decide +kernel
theorem dX9_mended_21 : decode cX9_mended 21 = .ok (.istore_n 3, 1) := by decide +kernel
theorem dX9_mended_22 : decode cX9_mended 22 = .ok (.aload_n 0, 1) := by decide +kernel
theorem dX9_mended_23 : decode cX9_mended 23 = .ok (.getfield 35, 3) := by decide +kernel
theorem dX9_mended_26 : decode cX9_mended 26 = .ok (.iload_n 2, 1) := by decide +kernel
theorem dX9_mended_27 : decode cX9_mended 27 = .ok (.invokevirtual 106, 3) := by decide +kernel
theorem dX9_mended_30 : decode cX9_mended 30 = .ok (.lstore 4, 2) := by decide +kernel
theorem dX9_mended_32 : decode cX9_mended 32 = .ok (.iconst 0, 1) := by decide +kernel
theorem dX9_mended_33 : decode cX9_mended 33 = .ok (.istore 6, 2) := by decide +kernel
theorem dX9_mended_35 : decode cX9_mended 35 = .ok (.iload 6, 2) := by decide +kernel
theorem dX9_mended_37 : decode cX9_mended 37 = .ok (.aload_n 0, 1) := by decide +kernel
theorem dX9_mended_38 : decode cX9_mended 38 = .ok (.getfield 35, 3) := by decide +kernel
theorem dX9_mended_41 : decode cX9_mended 41 = .ok (.getfield 155, 3) := by decide +kernel
theorem dX9_mended_44 : decode cX9_mended 44 = .ok (.if_icmp .ge 43, 3) := by decide +kernel
theorem dX9_mended_47 : decode cX9_mended 47 = .ok (.aload_n 0, 1) := by decide +kernel
theorem dX9_mended_48 : decode cX9_mended 48 = .ok (.getfield 35, 3) := by decide +kernel
theorem dX9_mended_51 : decode cX9_mended 51 = .ok (.iload_n 1, 1) := by decide +kernel
theorem dX9_mended_52 : decode cX9_mended 52 = .ok (.iload 6, 2) := by decide +kernel
theorem dX9_mended_54 : decode cX9_mended 54 = .ok (.invokevirtual 175, 3) := by decide +kernel
theorem dX9_mended_57 : decode cX9_mended 57 = .ok (.ifCond .eq 24, 3) := by decide +kernel
theorem dX9_mended_60 : decode cX9_mended 60 = .ok (.lload 4, 2) := by decide +kernel
theorem dX9_mended_62 : decode cX9_mended 62 = .ok (.aload_n 0, 1) := by decide +kernel
theorem dX9_mended_63 : decode cX9_mended 63 = .ok (.getfield 35, 3) := by decide +kernel
theorem dX9_mended_66 : decode cX9_mended 66 = .ok (.iload 6, 2) := by decide +kernel
theorem dX9_mended_68 : decode cX9_mended 68 = .ok (.invokevirtual 106, 3) := by decide +kernel
theorem dX9_mended_71 : decode cX9_mended 71 = .ok (.invokestatic 253, 3) := by decide +kernel
theorem dX9_mended_74 : decode cX9_mended 74 = .ok (.iload_n 3, 1) := by decide +kernel
theorem dX9_mended_75 : decode cX9_mended 75 = .ok (.if_icmp .ne 6, 3) := by decide +kernel
theorem dX9_mended_78 : decode cX9_mended 78 = .ok (.iload 6, 2) := by decide +kernel
theorem dX9_mended_80 : decode cX9_mended 80 = .ok (.ireturn, 1) := by decide +kernel
theorem dX9_mended_81 : decode cX9_mended 81 = .ok (.iinc 6 1, 3) := by decide +kernel
theorem dX9_mended_84 : decode cX9_mended 84 = .ok (.goto (-49), 3) := by decide +kernel
theorem dX9_mended_87 : decode cX9_mended 87 = .ok (.iconst (-1), 1) := by decide +kernel
theorem dX9_mended_88 : decode cX9_mended 88 = .ok (.ireturn, 1) := by decide +kernel
theorem hd_yX9_mended : yX9_mended.cls = RX9 ∧ yX9_mended.cls ≠ "java/lang/invoke/MethodHandle" ∧ yX9_mended.cls ≠ "java/lang/invoke/VarHandle" ∧ (parseMethodDescriptor yX9_mended.desc).map (fun d => d.parameters.length) = some 2 := by decide +kernel
def uX9_mended : List Cond := List.cons (.code yX9_mended cX9_mended 7 (some .int)) (HAppend.hAppend ([.methodLink RX9 137 yX9_hasBoth, .instanceMethod yX9_hasBoth, .selects RX9 yX9_hasBoth yX9_hasBoth, .initialized RX9, .fieldLink RX9 35 "LuckyTicket" "current" "LLuckyTicket$Roll;", .methodLink RX9 250 yX2_fewestChanges, .instanceMethod yX2_fewestChanges, .selects RX2 yX2_fewestChanges yX2_fewestChanges, .initialized RX2, .methodLink RX9 106 yX2_faceOf, .instanceMethod yX2_faceOf, .selects RX2 yX2_faceOf yX2_faceOf, .methodLink RX9 175 yX2_isLucky, .instanceMethod yX2_isLucky, .selects RX2 yX2_isLucky yX2_isLucky, .methodLink RX9 253 yX0_changes, .static yX0_changes, .initialized RX0] : List Cond) (HAppend.hAppend uX9_hasBoth (HAppend.hAppend uX2_fewestChanges (HAppend.hAppend uX2_faceOf (HAppend.hAppend uX2_isLucky (HAppend.hAppend uX0_changes (HAppend.hAppend wsX90 wsX20)))))))
theorem iX9_mended_X9 : ∀ w ∈ wsX90, w ∈ uX9_mended := fun _ h => (List.mem_cons_of_mem _ (List.mem_append_right _ (List.mem_append_right _ (List.mem_append_right _ (List.mem_append_right _ (List.mem_append_right _ (List.mem_append_right _ (List.mem_append_left _ h))))))))
theorem iX9_mended_X2 : ∀ w ∈ wsX20, w ∈ uX9_mended := fun _ h => (List.mem_cons_of_mem _ (List.mem_append_right _ (List.mem_append_right _ (List.mem_append_right _ (List.mem_append_right _ (List.mem_append_right _ (List.mem_append_right _ (List.mem_append_right _ h))))))))
theorem guX9_mended : GU uX9_mended := gu_cons (gu_app (by decide +kernel) (gu_ap guX9_hasBoth (gu_ap guX2_fewestChanges (gu_ap guX2_faceOf (gu_ap guX2_isLucky (gu_ap guX0_changes (gu_ap gws_X9 gws_X2)))))))
theorem gX9_mended__X9_hasBoth_V137 : GoodIn uX9_mended (wsV RX9 137 RX9 yX9_hasBoth uX9_hasBoth) := gin_V (List.mem_of_getElem? (i := 1) rfl) (List.mem_of_getElem? (i := 2) rfl) (List.mem_of_getElem? (i := 3) rfl) (List.mem_of_getElem? (i := 4) rfl) (fun _ h => (List.mem_cons_of_mem _ (List.mem_append_right _ (List.mem_append_left _ h)))) guX9_hasBoth
theorem gX9_mended__X2_fewestChanges_V250 : GoodIn uX9_mended (wsV RX9 250 RX2 yX2_fewestChanges uX2_fewestChanges) := gin_V (List.mem_of_getElem? (i := 6) rfl) (List.mem_of_getElem? (i := 7) rfl) (List.mem_of_getElem? (i := 8) rfl) (List.mem_of_getElem? (i := 9) rfl) (fun _ h => (List.mem_cons_of_mem _ (List.mem_append_right _ (List.mem_append_right _ (List.mem_append_left _ h))))) guX2_fewestChanges
theorem gX9_mended__X2_faceOf_V106 : GoodIn uX9_mended (wsV RX9 106 RX2 yX2_faceOf uX2_faceOf) := gin_V (List.mem_of_getElem? (i := 10) rfl) (List.mem_of_getElem? (i := 11) rfl) (List.mem_of_getElem? (i := 12) rfl) (List.mem_of_getElem? (i := 9) rfl) (fun _ h => (List.mem_cons_of_mem _ (List.mem_append_right _ (List.mem_append_right _ (List.mem_append_right _ (List.mem_append_left _ h)))))) guX2_faceOf
theorem gX9_mended__X2_isLucky_V175 : GoodIn uX9_mended (wsV RX9 175 RX2 yX2_isLucky uX2_isLucky) := gin_V (List.mem_of_getElem? (i := 13) rfl) (List.mem_of_getElem? (i := 14) rfl) (List.mem_of_getElem? (i := 15) rfl) (List.mem_of_getElem? (i := 9) rfl) (fun _ h => (List.mem_cons_of_mem _ (List.mem_append_right _ (List.mem_append_right _ (List.mem_append_right _ (List.mem_append_right _ (List.mem_append_left _ h))))))) guX2_isLucky
theorem gX9_mended__X0_changes_S253 : GoodIn uX9_mended (va_wsS RX9 253 yX0_changes uX0_changes) := gin_S (List.mem_of_getElem? (i := 16) rfl) (List.mem_of_getElem? (i := 17) rfl) (List.mem_of_getElem? (i := 18) rfl) (fun _ h => (List.mem_cons_of_mem _ (List.mem_append_right _ (List.mem_append_right _ (List.mem_append_right _ (List.mem_append_right _ (List.mem_append_right _ (List.mem_append_left _ h)))))))) guX0_changes
set_option maxHeartbeats 4000000 in
set_option maxRecDepth 100000 in
theorem kX9_mended (l : Launch) (dC : Nat → ClassId) (dI : Nat → Nat → Nat) (h0 : Nat) (tp : Nat) (sc : Nat) (rd : Nat) (cu : Nat) (im : Nat) (ig : Nat) (sl : Nat) (se : Nat) (sm : Nat) (fc : Nat) (ln : Int32) (bs : Int32) (tk : Int32) (lw : Int32) (li : Int32) (fa : Nat) (lu : Nat) (cL : ClassId) (nl : Nat) (fl : Nat → Int32) (cF : ClassId) (nf : Nat) (ff : Nat → Int64) (a1 : Int32) (a2 : Int32) (b_ln : (0 : Int) ≤ ln.toInt ∧ ln.toInt ≤ 12) (b_bs : (0 : Int) ≤ bs.toInt ∧ bs.toInt ≤ 16) (b_tk : (0 : Int) ≤ tk.toInt ∧ tk.toInt ≤ 20000) (b_lw : (0 : Int) ≤ lw.toInt ∧ lw.toInt ≤ 9) (hl1 : tk.toInt ≤ (nl : Int)) (hf1 : tk.toInt ≤ (nf : Int)) : Met l yX9_mended uX9_mended ({ frames := 3, cells := 0, slots := 0, locals := 73 }) (va_Pc [.ref h0, .int a1, .int a2] (pw (dC, dI) vwCl [(h0, .inr (7, [.ref tp, .ref sc, .ref rd, .ref cu, .ref im, .ref ig, .ref sl, .ref se, .ref sm, .ref fc])), (cu, .inr (1, [.int ln, .int bs, .int tk, .int lw, .int li, .ref fa, .ref lu])), (lu, .inl (cL, nl, .inl fl)), (fa, .inl (cF, nf, .inr (.inl ff)))] [(cL, .int), (cF, .long)])) (vp_Si (fun r => ((-2 : Int) ≤ r.toInt ∧ r.toInt ≤ 19999))) 0 0 (fun _ => False) := by
  refine Met.ofW (cc := cX9_mended) (maxL := 7) (ret := (some .int)) pn_X9 rfl ?_
  intro p e s m args below meth c s₁ B hml hv
  obtain ⟨rfl, hP, hK, hN⟩ := hv
  have hx := B.exec
  have hb := B.bytes
  have hr := B.returns
  have hts := atoms_spec (ws := uX9_mended) B.pre
  have hown : s.vm.findClass RX9 = some m.cls := hown_of B.named rfl
  have hlocks := B.notSynchronized
  have hl := lv_entry ([.ref h0, .int a1, .int a2]) (n := 7) (Nat.le_of_ble_eq_true rfl)
  rw [lg_entry_eq]
  generalize (lg_sl ([.ref h0, .int a1, .int a2]) ++ List.replicate (7 - (lg_sl ([.ref h0, .int a1, .int a2])).length) Slot.unset).toArray = ls at hl ⊢
  have hl : lv_has ls 7 [(0, .ref h0), (1, .int a1), (2, .int a2)] := hl
  refine lv_aload_n hx hb dX9_mended_0 rfl (lv_at hl 0 rfl) ?_
  refine lv_iload_n hx hb dX9_mended_1 rfl (lv_at hl 1 rfl) ?_
  refine lv_iload_n hx hb dX9_mended_2 rfl (lv_at hl 2 rfl) ?_
  refine vp_callSi (W.runV (As := [.int a1, .int a2]) (rest := []) ⟨hx, hb, hml, hown, hts⟩ (kX9_hasBoth l dC dI h0 tp sc rd cu im ig sl se sm fc ln bs tk lw li fa lu a1 a2 b_ln b_bs b_tk b_lw) (cwV 2 hts gX9_mended__X9_hasBoth_V137 rfl rfl rfl hd_yX9_hasBoth ⟨lel 2 3 rfl, lel 43 73 rfl⟩) ⟨pw_fb, rcv_X9 hK hP (q0 := 0) rfl, (pw_use hP hK hN [0, 1] rfl [] rfl)⟩ rfl rfl hl.1 rfl (lv_room (Nat.le_of_ble_eq_true rfl)) dX9_mended_3 ⟨lel 0 0 rfl, lel 0 0 rfl⟩) (fun r_111 h_r_111 => ?_)
  obtain ⟨b_r_111, nz_r_111⟩ := h_r_111
  have b_r_111 : (0 : Int) ≤ r_111.toInt ∧ r_111.toInt ≤ 1 := b_r_111
  refine lv_if_ne (tgt := 12) hx hb dX9_mended_6 (by decide) (fun c_112 => ?_) (fun c_112 => ?_)
  ·
    have n_c_112 : (r_111.toInt : Int) ≠ 0 := c_ne rfl (by decide) c_112
    have b_r_111 : (1 : Int) ≤ r_111.toInt ∧ r_111.toInt ≤ 1 := r_ne1 b_r_111 (by decide : (0 : Int) ≤ (0 : Int32).toInt ∧ (0 : Int32).toInt ≤ 0) n_c_112 (by decide)
    obtain ⟨b_a1, b_a2, g_113⟩ := nz_r_111 c_112
    refine lv_aload_n hx hb dX9_mended_12 rfl (lv_at hl 0 rfl) ?_
    refine va_get (D := (dC, dI)) (ci := 7) (v := .ref cu) (C := RX9) (T := TX9) (N := 10) hx hb hts iX9_mended_X9 hown hK hP 0 rfl rfl 3 (by decide) (hts (.fieldLink RX9 35 "LuckyTicket" "current" "LLuckyTicket$Roll;") (List.mem_of_getElem? (i := 5) rfl)) (fun _ h9 => h9) rfl dX9_mended_13 ?_
    refine lv_iload_n hx hb dX9_mended_16 rfl (lv_at hl 1 rfl) ?_
    refine lv_iload_n hx hb dX9_mended_17 rfl (lv_at hl 2 rfl) ?_
    refine vp_callSi (W.runV (As := [.int a1, .int a2]) (rest := []) ⟨hx, hb, hml, hown, hts⟩ (kX2_fewestChanges l dC dI cu ln bs tk lw li fa lu cL nl fl cF nf ff a1 a2 b_ln b_bs b_tk b_lw (by omega) (by omega)) (cwV 2 hts gX9_mended__X2_fewestChanges_V250 rfl rfl rfl hd_yX2_fewestChanges ⟨lel 3 3 rfl, lel 73 73 rfl⟩) ⟨pw_fb, rcv_X2 hK hP (q0 := 1) rfl, (pw_use hP hK hN [1, 2, 3] rfl [0, 1] rfl)⟩ rfl rfl hl.1 rfl (lv_room (Nat.le_of_ble_eq_true rfl)) dX9_mended_18 ⟨lel 0 0 rfl, lel 0 0 rfl⟩) (fun r_114 h_r_114 => ?_)
    have b_r_114 := h_r_114
    have b_r_114 : (-1 : Int) ≤ r_114.toInt ∧ r_114.toInt ≤ 127 := b_r_114
    refine lv_istore_n (lv' := [(3, .int r_114), (0, .ref h0), (1, .int a1), (2, .int a2)]) hx hb dX9_mended_21 rfl hl (by decide) rfl (fun ls hl => ?_)
    refine lv_aload_n hx hb dX9_mended_22 rfl (lv_at hl 1 rfl) ?_
    refine va_get (D := (dC, dI)) (ci := 7) (v := .ref cu) (C := RX9) (T := TX9) (N := 10) hx hb hts iX9_mended_X9 hown hK hP 0 rfl rfl 3 (by decide) (hts (.fieldLink RX9 35 "LuckyTicket" "current" "LLuckyTicket$Roll;") (List.mem_of_getElem? (i := 5) rfl)) (fun _ h9 => h9) rfl dX9_mended_23 ?_
    refine lv_iload_n hx hb dX9_mended_26 rfl (lv_at hl 3 rfl) ?_
    refine vp_callSl (W.runV (As := [.int a2]) (rest := []) ⟨hx, hb, hml, hown, hts⟩ (kX2_faceOf l dC dI cu ln bs tk lw li fa lu cF nf ff a2 b_ln b_bs b_tk b_lw (by omega)) (cwV 1 hts gX9_mended__X2_faceOf_V106 rfl rfl rfl hd_yX2_faceOf ⟨lel 2 3 rfl, lel 42 73 rfl⟩) ⟨pw_fb, rcv_X2 hK hP (q0 := 1) rfl, (pw_use hP hK hN [1, 3] rfl [1] rfl)⟩ rfl rfl hl.1 rfl (lv_room (Nat.le_of_ble_eq_true rfl)) dX9_mended_27 ⟨lel 0 0 rfl, lel 0 0 rfl⟩) (fun r_115 h_r_115 => ?_)
    refine lv_lstore (lv' := [(4, .long r_115), (3, .int r_114), (0, .ref h0), (1, .int a1), (2, .int a2)]) hx hb dX9_mended_30 hl (by decide) rfl (fun ls hl => ?_)
    refine lv_iconst (v := 0) hx hb dX9_mended_32 (by decide) ?_
    refine lv_istore (lv' := [(6, .int 0), (4, .long r_115), (3, .int r_114), (0, .ref h0), (1, .int a1), (2, .int a2)]) hx hb dX9_mended_33 hl (by decide) rfl (fun ls hl => ?_)
    refine loopP (σ := Int32) (fun v => (20000 - v.toInt).toNat) (fun v ls => ((0 : Int) ≤ v.toInt ∧ v.toInt ≤ 20000) ∧ lv_has ls 7 [(6, .int v), (4, .long r_115), (3, .int r_114), (0, .ref h0), (1, .int a1), (2, .int a2)]) (fun v ls hI ih_35_212 => ?_) (0 : Int32) ⟨(show (0 : Int) ≤ (0 : Int32).toInt ∧ (0 : Int32).toInt ≤ 20000 from (rg_w (by decide : (0 : Int) ≤ (0 : Int32).toInt ∧ (0 : Int32).toInt ≤ 0) (by decide) (by decide))), lv_sub hl [0, 1, 2, 3, 4, 5] rfl⟩
    obtain ⟨y_124, rfl⟩ : ∃ z, z = v := ⟨_, rfl⟩
    obtain ⟨b_y_124, hl⟩ := hI
    have b_y_124 : (0 : Int) ≤ y_124.toInt ∧ y_124.toInt ≤ 20000 := b_y_124
    have hl : lv_has ls 7 [(6, .int y_124), (4, .long r_115), (3, .int r_114), (0, .ref h0), (1, .int a1), (2, .int a2)] := hl
    refine lv_iload hx hb dX9_mended_35 (lv_at hl 0 rfl) ?_
    refine lv_aload_n hx hb dX9_mended_37 rfl (lv_at hl 3 rfl) ?_
    refine va_get (D := (dC, dI)) (ci := 7) (v := .ref cu) (C := RX9) (T := TX9) (N := 10) hx hb hts iX9_mended_X9 hown hK hP 0 rfl rfl 3 (by decide) (hts (.fieldLink RX9 35 "LuckyTicket" "current" "LLuckyTicket$Roll;") (List.mem_of_getElem? (i := 5) rfl)) (fun _ h9 => h9) rfl dX9_mended_38 ?_
    refine va_getN (own := RX9) (index := 155) (ref := RX2) (host := RX9) (D := (dC, dI)) (ci := 1) (v := .int tk) (C := RX2) (T := TX2) (N := 7) hx hb hts iX9_mended_X2 hown hK hP 1 rfl rfl 2 (by decide) (va_Nw.use rfl (hN _ (List.mem_of_getElem? (i := 18) rfl))) (fun _ h9 => h9) rfl dX9_mended_41 ?_
    refine lv_icmp_ge (tgt := 87) hx hb dX9_mended_44 (by decide) (fun c_213 => ?_) (fun c_213 => ?_)
    ·
      have n_c_213 : (tk.toInt : Int) ≤ y_124.toInt := c_ge rfl rfl c_213
      refine lv_iconst (v := (-1)) hx hb dX9_mended_87 (by decide) ?_
      exact W.iret (v := (-1)) hx hb hr (fun t ht hW => ⟨(-1), rfl, (rg_w (by decide : (-1 : Int) ≤ ((-1) : Int32).toInt ∧ ((-1) : Int32).toInt ≤ -1) (by decide) (by decide)), ht⟩) t_nil dX9_mended_88
    ·
      have n_c_213 : (y_124.toInt : Int) < tk.toInt := c_nge rfl rfl c_213
      have b_y_124 : (0 : Int) ≤ y_124.toInt ∧ y_124.toInt ≤ 19999 := r_lt1 b_y_124 b_tk n_c_213 (by decide)
      have b_tk : (1 : Int) ≤ tk.toInt ∧ tk.toInt ≤ 20000 := r_lt2 b_y_124 b_tk n_c_213 (by decide)
      refine lv_aload_n hx hb dX9_mended_47 rfl (lv_at hl 3 rfl) ?_
      refine va_get (D := (dC, dI)) (ci := 7) (v := .ref cu) (C := RX9) (T := TX9) (N := 10) hx hb hts iX9_mended_X9 hown hK hP 0 rfl rfl 3 (by decide) (hts (.fieldLink RX9 35 "LuckyTicket" "current" "LLuckyTicket$Roll;") (List.mem_of_getElem? (i := 5) rfl)) (fun _ h9 => h9) rfl dX9_mended_48 ?_
      refine lv_iload_n hx hb dX9_mended_51 rfl (lv_at hl 4 rfl) ?_
      refine lv_iload hx hb dX9_mended_52 (lv_at hl 0 rfl) ?_
      refine vp_callSi (W.runV (As := [.int a1, .int y_124]) (rest := []) ⟨hx, hb, hml, hown, hts⟩ (kX2_isLucky l dC dI cu ln bs tk lw li fa lu cL nl fl a1 y_124 b_ln b_bs (rg_w b_tk (by decide) (by decide)) b_lw (by omega)) (cwV 2 hts gX9_mended__X2_isLucky_V175 rfl rfl rfl hd_yX2_isLucky ⟨lel 1 3 rfl, lel 22 73 rfl⟩) ⟨pw_fb, rcv_X2 hK hP (q0 := 1) rfl, (pw_use hP hK hN [1, 2] rfl [0] rfl)⟩ rfl rfl hl.1 rfl (lv_room (Nat.le_of_ble_eq_true rfl)) dX9_mended_54 ⟨lel 0 0 rfl, lel 0 0 rfl⟩) (fun r_214 h_r_214 => ?_)
      have b_r_214 := h_r_214
      have b_r_214 : (0 : Int) ≤ r_214.toInt ∧ r_214.toInt ≤ 1 := b_r_214
      refine lv_if_eq (tgt := 81) hx hb dX9_mended_57 (by decide) (fun c_215 => ?_) (fun c_215 => ?_)
      ·
        have n_c_215 : (r_214.toInt : Int) = 0 := c_eq rfl (by decide) c_215
        have b_r_214 : (0 : Int) ≤ r_214.toInt ∧ r_214.toInt ≤ 0 := r_eq1 b_r_214 (by decide : (0 : Int) ≤ (0 : Int32).toInt ∧ (0 : Int32).toInt ≤ 0) n_c_215 (by decide)
        obtain ⟨z_216, e_z_216⟩ : ∃ y : Int32, y = y_124 + 1 := ⟨_, rfl⟩
        refine lv_iinc (v := z_216) (lv' := [(6, .int z_216), (4, .long r_115), (3, .int r_114), (0, .ref h0), (1, .int a1), (2, .int a2)]) hx hb dX9_mended_81 hl (k := 0) rfl (by rw [e_z_216]; rfl) (by decide) rfl (fun ls hl => ?_)
        obtain ⟨q_z_216, b_z_216⟩ := ti_add (lo := 1) (hi := 20000) e_z_216 rfl (by decide : (1 : Int32).toInt = 1) b_y_124 (by decide : (1 : Int) ≤ (1 : Int32).toInt ∧ (1 : Int32).toInt ≤ 1) (by decide)
        refine lv_goto (tgt := 35) hx hb dX9_mended_84 (by decide) ?_
        exact ih_35_212 z_216 _ ⟨(show (0 : Int) ≤ z_216.toInt ∧ z_216.toInt ≤ 20000 from (rg_w b_z_216 (by decide) (by decide))), lv_sub hl [0, 1, 2, 3, 4, 5] rfl⟩ (show (20000 - z_216.toInt).toNat < (20000 - y_124.toInt).toNat by omega)
      ·
        have n_c_215 : (r_214.toInt : Int) ≠ 0 := c_ne rfl (by decide) c_215
        have b_r_214 : (1 : Int) ≤ r_214.toInt ∧ r_214.toInt ≤ 1 := r_ne1 b_r_214 (by decide : (0 : Int) ≤ (0 : Int32).toInt ∧ (0 : Int32).toInt ≤ 0) n_c_215 (by decide)
        refine lv_lload hx hb dX9_mended_60 (lv_at hl 1 rfl) ?_
        refine lv_aload_n hx hb dX9_mended_62 rfl (lv_at hl 3 rfl) ?_
        refine va_get (D := (dC, dI)) (ci := 7) (v := .ref cu) (C := RX9) (T := TX9) (N := 10) hx hb hts iX9_mended_X9 hown hK hP 0 rfl rfl 3 (by decide) (hts (.fieldLink RX9 35 "LuckyTicket" "current" "LLuckyTicket$Roll;") (List.mem_of_getElem? (i := 5) rfl)) (fun _ h9 => h9) rfl dX9_mended_63 ?_
        refine lv_iload hx hb dX9_mended_66 (lv_at hl 0 rfl) ?_
        refine vp_callSl (W.runV (As := [.int y_124]) (rest := [.long r_115]) ⟨hx, hb, hml, hown, hts⟩ (kX2_faceOf l dC dI cu ln bs tk lw li fa lu cF nf ff y_124 b_ln b_bs (rg_w b_tk (by decide) (by decide)) b_lw (by omega)) (cwV 1 hts gX9_mended__X2_faceOf_V106 rfl rfl rfl hd_yX2_faceOf ⟨lel 2 3 rfl, lel 42 73 rfl⟩) ⟨pw_fb, rcv_X2 hK hP (q0 := 1) rfl, (pw_use hP hK hN [1, 3] rfl [1] rfl)⟩ rfl rfl hl.1 rfl (lv_room (Nat.le_of_ble_eq_true rfl)) dX9_mended_68 ⟨lel 0 0 rfl, lel 0 0 rfl⟩) (fun r_217 h_r_217 => ?_)
        refine vp_callSi (W.runS (As := [.long r_115, .long r_217]) (rest := []) ⟨hx, hb, hml, hown, hts⟩ (kX0_changes l dC dI r_115 r_217 ) (va_cwS 2 hts gX9_mended__X0_changes_S253 rfl rfl rfl hd_yX0_changes.2 ⟨lel 2 3 rfl, lel 46 73 rfl⟩) ⟨pn_fb, pn_use⟩ rfl rfl hl.1 rfl (lv_room (Nat.le_of_ble_eq_true rfl)) dX9_mended_71 ⟨lel 0 0 rfl, lel 0 0 rfl⟩) (fun r_218 h_r_218 => ?_)
        have b_r_218 := h_r_218
        have b_r_218 : (0 : Int) ≤ r_218.toInt ∧ r_218.toInt ≤ 127 := b_r_218
        refine lv_iload_n hx hb dX9_mended_74 rfl (lv_at hl 2 rfl) ?_
        refine lv_icmp_ne (tgt := 81) hx hb dX9_mended_75 (by decide) (fun c_219 => ?_) (fun c_219 => ?_)
        ·
          have n_c_219 : (r_218.toInt : Int) ≠ r_114.toInt := c_ne rfl rfl c_219
          obtain ⟨z_220, e_z_220⟩ : ∃ y : Int32, y = y_124 + 1 := ⟨_, rfl⟩
          refine lv_iinc (v := z_220) (lv' := [(6, .int z_220), (4, .long r_115), (3, .int r_114), (0, .ref h0), (1, .int a1), (2, .int a2)]) hx hb dX9_mended_81 hl (k := 0) rfl (by rw [e_z_220]; rfl) (by decide) rfl (fun ls hl => ?_)
          obtain ⟨q_z_220, b_z_220⟩ := ti_add (lo := 1) (hi := 20000) e_z_220 rfl (by decide : (1 : Int32).toInt = 1) b_y_124 (by decide : (1 : Int) ≤ (1 : Int32).toInt ∧ (1 : Int32).toInt ≤ 1) (by decide)
          refine lv_goto (tgt := 35) hx hb dX9_mended_84 (by decide) ?_
          exact ih_35_212 z_220 _ ⟨(show (0 : Int) ≤ z_220.toInt ∧ z_220.toInt ≤ 20000 from (rg_w b_z_220 (by decide) (by decide))), lv_sub hl [0, 1, 2, 3, 4, 5] rfl⟩ (show (20000 - z_220.toInt).toNat < (20000 - y_124.toInt).toNat by omega)
        ·
          have n_c_219 : (r_218.toInt : Int) = r_114.toInt := c_eq rfl rfl c_219
          have b_r_114 : (0 : Int) ≤ r_114.toInt ∧ r_114.toInt ≤ 127 := r_eq2 b_r_218 b_r_114 n_c_219 (by decide)
          refine lv_iload hx hb dX9_mended_78 (lv_at hl 0 rfl) ?_
          exact W.iret (v := y_124) hx hb hr (fun t ht hW => ⟨y_124, rfl, (rg_w b_y_124 (by decide) (by decide)), ht⟩) t_nil dX9_mended_80
  ·
    have n_c_112 : (r_111.toInt : Int) = 0 := c_eq rfl (by decide) c_112
    have b_r_111 : (0 : Int) ≤ r_111.toInt ∧ r_111.toInt ≤ 0 := r_eq1 b_r_111 (by decide : (0 : Int) ≤ (0 : Int32).toInt ∧ (0 : Int32).toInt ≤ 0) n_c_112 (by decide)
    refine lv_bipush (v := (-2)) hx hb dX9_mended_9 (by decide) ?_
    exact W.iret (v := (-2)) hx hb hr (fun t ht hW => ⟨(-2), rfl, (rg_w (by decide : (-2 : Int) ≤ ((-2) : Int32).toInt ∧ ((-2) : Int32).toInt ≤ -2) (by decide) (by decide)), ht⟩) t_nil dX9_mended_11
