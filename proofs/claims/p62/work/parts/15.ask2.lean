theorem dX9_nearest_0 : decode cX9_nearest 0 = .ok (.aload_n 0, 1) := by decide +kernel
theorem dX9_nearest_1 : decode cX9_nearest 1 = .ok (.iload_n 1, 1) := by decide +kernel
theorem dX9_nearest_2 : decode cX9_nearest 2 = .ok (.iload_n 2, 1) := by decide +kernel
theorem dX9_nearest_3 : decode cX9_nearest 3 = .ok (.invokevirtual 137, 3) := by decide +kernel
theorem dX9_nearest_6 : decode cX9_nearest 6 = .ok (.ifCond .ne 6, 3) := by decide +kernel
theorem dX9_nearest_9 : decode cX9_nearest 9 = .ok (.bipush (-2), 2) := by decide +kernel
theorem dX9_nearest_11 : decode cX9_nearest 11 = .ok (.ireturn, 1) := by decide +kernel
theorem dX9_nearest_12 : decode cX9_nearest 12 = .ok (.aload_n 0, 1) := by decide +kernel
theorem dX9_nearest_13 : decode cX9_nearest 13 = .ok (.getfield 35, 3) := by decide +kernel
theorem dX9_nearest_16 : decode cX9_nearest 16 = .ok (.iload_n 1, 1) := by decide +kernel
theorem dX9_nearest_17 : decode cX9_nearest 17 = .ok (.iload_n 2, 1) := by decide +kernel
theorem dX9_nearest_18 : decode cX9_nearest 18 = .ok (.invokevirtual 169, 3) := by decide +kernel
theorem dX9_nearest_21 : decode cX9_nearest 21 = .ok (.istore_n 3, 1) := by decide +kernel
theorem dX9_nearest_22 : decode cX9_nearest 22 = .ok (.aload_n 0, 1) := by decide +kernel
theorem dX9_nearest_23 : decode cX9_nearest 23 = .ok (.getfield 35, 3) := by decide +kernel
theorem dX9_nearest_26 : decode cX9_nearest 26 = .ok (.iload_n 1, 1) := by decide +kernel
theorem dX9_nearest_27 : decode cX9_nearest 27 = .ok (.iload_n 2, 1) := by decide +kernel
theorem dX9_nearest_28 : decode cX9_nearest 28 = .ok (.invokevirtual 166, 3) := by decide +kernel
theorem dX9_nearest_31 : decode cX9_nearest 31 = .ok (.istore 4, 2) := by decide +kernel
theorem dX9_nearest_33 : decode cX9_nearest 33 = .ok (.iload_n 3, 1) := by decide +kernel
theorem dX9_nearest_34 : decode cX9_nearest 34 = .ok (.iconst (-1), 1) := by decide +kernel
theorem dX9_nearest_35 : decode cX9_nearest 35 = .ok (.if_icmp .eq 9, 3) := by decide +kernel
theorem dX9_nearest_38 : decode cX9_nearest 38 = .ok (.iload 4, 2) := by decide +kernel
theorem dX9_nearest_40 : decode cX9_nearest 40 = .ok (.iconst (-1), 1) := by decide +kernel
theorem dX9_nearest_41 : decode cX9_nearest 41 = .ok (.if_icmp .ne 15, 3) := by decide +kernel
theorem dX9_nearest_44 : decode cX9_nearest 44 = .ok (.iload_n 3, 1) := by decide +kernel
theorem dX9_nearest_45 : decode cX9_nearest 45 = .ok (.iconst (-1), 1) := by decide +kernel
theorem dX9_nearest_46 : decode cX9_nearest 46 = .ok (.if_icmp .ne 8, 3) := by decide +kernel
theorem dX9_nearest_49 : decode cX9_nearest 49 = .ok (.iload 4, 2) := by decide +kernel
theorem dX9_nearest_51 : decode cX9_nearest 51 = .ok (.goto 4, 3) := by decide +kernel
theorem dX9_nearest_54 : decode cX9_nearest 54 = .ok (.iload_n 3, 1) := by decide +kernel
theorem dX9_nearest_55 : decode cX9_nearest 55 = .ok (.ireturn, 1) := by decide +kernel
theorem dX9_nearest_56 : decode cX9_nearest 56 = .ok (.iload_n 2, 1) := by decide +kernel
theorem dX9_nearest_57 : decode cX9_nearest 57 = .ok (.iload_n 3, 1) := by decide +kernel
theorem dX9_nearest_58 : decode cX9_nearest 58 = .ok (.isub, 1) := by decide +kernel
theorem dX9_nearest_59 : decode cX9_nearest 59 = .ok (.iload 4, 2) := by decide +kernel
theorem dX9_nearest_61 : decode cX9_nearest 61 = .ok (.iload_n 2, 1) := by decide +kernel
theorem dX9_nearest_62 : decode cX9_nearest 62 = .ok (.isub, 1) := by decide +kernel
theorem dX9_nearest_63 : decode cX9_nearest 63 = .ok (.if_icmp .gt 7, 3) := by decide +kernel
theorem dX9_nearest_66 : decode cX9_nearest 66 = .ok (.iload_n 3, 1) := by decide +kernel
theorem dX9_nearest_67 : decode cX9_nearest 67 = .ok (.goto 5, 3) := by decide +kernel
theorem dX9_nearest_70 : decode cX9_nearest 70 = .ok (.iload 4, 2) := by decide +kernel
theorem dX9_nearest_72 : decode cX9_nearest 72 = .ok (.ireturn, 1) := by decide +kernel
theorem hd_yX9_nearest : yX9_nearest.cls = RX9 ∧ yX9_nearest.cls ≠ "java/lang/invoke/MethodHandle" ∧ yX9_nearest.cls ≠ "java/lang/invoke/VarHandle" ∧ (parseMethodDescriptor yX9_nearest.desc).map (fun d => d.parameters.length) = some 2 := by decide +kernel
def uX9_nearest : List Cond := List.cons (.code yX9_nearest cX9_nearest 5 (some .int)) (HAppend.hAppend ([.methodLink RX9 137 yX9_hasBoth, .instanceMethod yX9_hasBoth, .selects RX9 yX9_hasBoth yX9_hasBoth, .initialized RX9, .fieldLink RX9 35 "LuckyTicket" "current" "LLuckyTicket$Roll;", .methodLink RX9 169 yX2_seekDown, .instanceMethod yX2_seekDown, .selects RX2 yX2_seekDown yX2_seekDown, .initialized RX2, .methodLink RX9 166 yX2_seekUp, .instanceMethod yX2_seekUp, .selects RX2 yX2_seekUp yX2_seekUp] : List Cond) (HAppend.hAppend uX9_hasBoth (HAppend.hAppend uX2_seekDown (HAppend.hAppend uX2_seekUp wsX90))))
theorem iX9_nearest_X9 : ∀ w ∈ wsX90, w ∈ uX9_nearest := fun _ h => (List.mem_cons_of_mem _ (List.mem_append_right _ (List.mem_append_right _ (List.mem_append_right _ (List.mem_append_right _ h)))))
theorem guX9_nearest : GU uX9_nearest := gu_cons (gu_app (by decide +kernel) (gu_ap guX9_hasBoth (gu_ap guX2_seekDown (gu_ap guX2_seekUp gws_X9))))
theorem gX9_nearest__X9_hasBoth_V137 : GoodIn uX9_nearest (wsV RX9 137 RX9 yX9_hasBoth uX9_hasBoth) := gin_V (List.mem_of_getElem? (i := 1) rfl) (List.mem_of_getElem? (i := 2) rfl) (List.mem_of_getElem? (i := 3) rfl) (List.mem_of_getElem? (i := 4) rfl) (fun _ h => (List.mem_cons_of_mem _ (List.mem_append_right _ (List.mem_append_left _ h)))) guX9_hasBoth
theorem gX9_nearest__X2_seekDown_V169 : GoodIn uX9_nearest (wsV RX9 169 RX2 yX2_seekDown uX2_seekDown) := gin_V (List.mem_of_getElem? (i := 6) rfl) (List.mem_of_getElem? (i := 7) rfl) (List.mem_of_getElem? (i := 8) rfl) (List.mem_of_getElem? (i := 9) rfl) (fun _ h => (List.mem_cons_of_mem _ (List.mem_append_right _ (List.mem_append_right _ (List.mem_append_left _ h))))) guX2_seekDown
theorem gX9_nearest__X2_seekUp_V166 : GoodIn uX9_nearest (wsV RX9 166 RX2 yX2_seekUp uX2_seekUp) := gin_V (List.mem_of_getElem? (i := 10) rfl) (List.mem_of_getElem? (i := 11) rfl) (List.mem_of_getElem? (i := 12) rfl) (List.mem_of_getElem? (i := 9) rfl) (fun _ h => (List.mem_cons_of_mem _ (List.mem_append_right _ (List.mem_append_right _ (List.mem_append_right _ (List.mem_append_left _ h)))))) guX2_seekUp
set_option maxHeartbeats 4000000 in
set_option maxRecDepth 100000 in
theorem kX9_nearest (l : Launch) (dC : Nat → ClassId) (dI : Nat → Nat → Nat) (h0 : Nat) (tp : Nat) (sc : Nat) (rd : Nat) (cu : Nat) (im : Nat) (ig : Nat) (sl : Nat) (se : Nat) (sm : Nat) (fc : Nat) (ln : Int32) (bs : Int32) (tk : Int32) (lw : Int32) (li : Int32) (fa : Nat) (lu : Nat) (cL : ClassId) (nl : Nat) (fl : Nat → Int32) (a1 : Int32) (a2 : Int32) (b_ln : (0 : Int) ≤ ln.toInt ∧ ln.toInt ≤ 12) (b_bs : (0 : Int) ≤ bs.toInt ∧ bs.toInt ≤ 16) (b_tk : (0 : Int) ≤ tk.toInt ∧ tk.toInt ≤ 20000) (b_lw : (0 : Int) ≤ lw.toInt ∧ lw.toInt ≤ 9) (hl1 : tk.toInt ≤ (nl : Int)) : Met l yX9_nearest uX9_nearest ({ frames := 2, cells := 0, slots := 0, locals := 45 }) (va_Pc [.ref h0, .int a1, .int a2] (pw (dC, dI) vwCl [(h0, .inr (7, [.ref tp, .ref sc, .ref rd, .ref cu, .ref im, .ref ig, .ref sl, .ref se, .ref sm, .ref fc])), (cu, .inr (1, [.int ln, .int bs, .int tk, .int lw, .int li, .ref fa, .ref lu])), (lu, .inl (cL, nl, .inl fl))] [(cL, .int)])) (vp_Si (fun r => True)) 0 0 (fun _ => False) := by
  refine Met.ofW (cc := cX9_nearest) (maxL := 5) (ret := (some .int)) pn_X9 rfl ?_
  intro p e s m args below meth c s₁ B hml hv
  obtain ⟨rfl, hP, hK, hN⟩ := hv
  have hx := B.exec
  have hb := B.bytes
  have hr := B.returns
  have hts := atoms_spec (ws := uX9_nearest) B.pre
  have hown : s.vm.findClass RX9 = some m.cls := hown_of B.named rfl
  have hlocks := B.notSynchronized
  have hl := lv_entry ([.ref h0, .int a1, .int a2]) (n := 5) (Nat.le_of_ble_eq_true rfl)
  rw [lg_entry_eq]
  generalize (lg_sl ([.ref h0, .int a1, .int a2]) ++ List.replicate (5 - (lg_sl ([.ref h0, .int a1, .int a2])).length) Slot.unset).toArray = ls at hl ⊢
  have hl : lv_has ls 5 [(0, .ref h0), (1, .int a1), (2, .int a2)] := hl
  refine lv_aload_n hx hb dX9_nearest_0 rfl (lv_at hl 0 rfl) ?_
  refine lv_iload_n hx hb dX9_nearest_1 rfl (lv_at hl 1 rfl) ?_
  refine lv_iload_n hx hb dX9_nearest_2 rfl (lv_at hl 2 rfl) ?_
  refine vp_callSi (W.runV (As := [.int a1, .int a2]) (rest := []) ⟨hx, hb, hml, hown, hts⟩ (kX9_hasBoth l dC dI h0 tp sc rd cu im ig sl se sm fc ln bs tk lw li fa lu a1 a2 b_ln b_bs b_tk b_lw) (cwV 2 hts gX9_nearest__X9_hasBoth_V137 rfl rfl rfl hd_yX9_hasBoth ⟨lel 2 2 rfl, lel 43 45 rfl⟩) ⟨pw_fb, rcv_X9 hK hP (q0 := 0) rfl, (pw_use hP hK hN [0, 1] rfl [] rfl)⟩ rfl rfl hl.1 rfl (lv_room (Nat.le_of_ble_eq_true rfl)) dX9_nearest_3 ⟨lel 0 0 rfl, lel 0 0 rfl⟩) (fun r_13 h_r_13 => ?_)
  obtain ⟨b_r_13, nz_r_13⟩ := h_r_13
  have b_r_13 : (0 : Int) ≤ r_13.toInt ∧ r_13.toInt ≤ 1 := b_r_13
  refine lv_if_ne (tgt := 12) hx hb dX9_nearest_6 (by decide) (fun c_14 => ?_) (fun c_14 => ?_)
  ·
    have n_c_14 : (r_13.toInt : Int) ≠ 0 := c_ne rfl (by decide) c_14
    have b_r_13 : (1 : Int) ≤ r_13.toInt ∧ r_13.toInt ≤ 1 := r_ne1 b_r_13 (by decide : (0 : Int) ≤ (0 : Int32).toInt ∧ (0 : Int32).toInt ≤ 0) n_c_14 (by decide)
    obtain ⟨b_a1, b_a2, g_15⟩ := nz_r_13 c_14
    refine lv_aload_n hx hb dX9_nearest_12 rfl (lv_at hl 0 rfl) ?_
    refine va_get (D := (dC, dI)) (ci := 7) (v := .ref cu) (C := RX9) (T := TX9) (N := 10) hx hb hts iX9_nearest_X9 hown hK hP 0 rfl rfl 3 (by decide) (hts (.fieldLink RX9 35 "LuckyTicket" "current" "LLuckyTicket$Roll;") (List.mem_of_getElem? (i := 5) rfl)) (fun _ h9 => h9) rfl dX9_nearest_13 ?_
    refine lv_iload_n hx hb dX9_nearest_16 rfl (lv_at hl 1 rfl) ?_
    refine lv_iload_n hx hb dX9_nearest_17 rfl (lv_at hl 2 rfl) ?_
    refine vp_callSi (W.runV (As := [.int a1, .int a2]) (rest := []) ⟨hx, hb, hml, hown, hts⟩ (kX2_seekDown l dC dI cu ln bs tk lw li fa lu cL nl fl a1 a2 b_ln b_bs b_tk b_lw (by omega)) (cwV 2 hts gX9_nearest__X2_seekDown_V169 rfl rfl rfl hd_yX2_seekDown ⟨lel 2 2 rfl, lel 45 45 rfl⟩) ⟨pw_fb, rcv_X2 hK hP (q0 := 1) rfl, (pw_use hP hK hN [1, 2] rfl [0] rfl)⟩ rfl rfl hl.1 rfl (lv_room (Nat.le_of_ble_eq_true rfl)) dX9_nearest_18 ⟨lel 0 0 rfl, lel 0 0 rfl⟩) (fun r_16 h_r_16 => ?_)
    have b_r_16 := h_r_16
    have b_r_16 : (-1 : Int) ≤ r_16.toInt ∧ r_16.toInt ≤ 2147483647 := b_r_16
    refine lv_istore_n (lv' := [(3, .int r_16), (0, .ref h0), (1, .int a1), (2, .int a2)]) hx hb dX9_nearest_21 rfl hl (by decide) rfl (fun ls hl => ?_)
    refine lv_aload_n hx hb dX9_nearest_22 rfl (lv_at hl 1 rfl) ?_
    refine va_get (D := (dC, dI)) (ci := 7) (v := .ref cu) (C := RX9) (T := TX9) (N := 10) hx hb hts iX9_nearest_X9 hown hK hP 0 rfl rfl 3 (by decide) (hts (.fieldLink RX9 35 "LuckyTicket" "current" "LLuckyTicket$Roll;") (List.mem_of_getElem? (i := 5) rfl)) (fun _ h9 => h9) rfl dX9_nearest_23 ?_
    refine lv_iload_n hx hb dX9_nearest_26 rfl (lv_at hl 2 rfl) ?_
    refine lv_iload_n hx hb dX9_nearest_27 rfl (lv_at hl 3 rfl) ?_
    refine vp_callSi (W.runV (As := [.int a1, .int a2]) (rest := []) ⟨hx, hb, hml, hown, hts⟩ (kX2_seekUp l dC dI cu ln bs tk lw li fa lu cL nl fl a1 a2 b_ln b_bs b_tk b_lw (by omega)) (cwV 2 hts gX9_nearest__X2_seekUp_V166 rfl rfl rfl hd_yX2_seekUp ⟨lel 2 2 rfl, lel 45 45 rfl⟩) ⟨pw_fb, rcv_X2 hK hP (q0 := 1) rfl, (pw_use hP hK hN [1, 2] rfl [0] rfl)⟩ rfl rfl hl.1 rfl (lv_room (Nat.le_of_ble_eq_true rfl)) dX9_nearest_28 ⟨lel 0 0 rfl, lel 0 0 rfl⟩) (fun r_17 h_r_17 => ?_)
    have b_r_17 := h_r_17
    have b_r_17 : (-2147483648 : Int) ≤ r_17.toInt ∧ r_17.toInt ≤ 19999 := b_r_17
    refine lv_istore (lv' := [(4, .int r_17), (3, .int r_16), (0, .ref h0), (1, .int a1), (2, .int a2)]) hx hb dX9_nearest_31 hl (by decide) rfl (fun ls hl => ?_)
    refine lv_iload_n hx hb dX9_nearest_33 rfl (lv_at hl 1 rfl) ?_
    refine lv_iconst (v := (-1)) hx hb dX9_nearest_34 (by decide) ?_
    refine lv_icmp_eq (tgt := 44) hx hb dX9_nearest_35 (by decide) (fun c_18 => ?_) (fun c_18 => ?_)
    ·
      have n_c_18 : (r_16.toInt : Int) = (-1) := c_eq rfl (by decide) c_18
      have b_r_16 : (-1 : Int) ≤ r_16.toInt ∧ r_16.toInt ≤ -1 := r_eq1 b_r_16 (by decide : (-1 : Int) ≤ ((-1) : Int32).toInt ∧ ((-1) : Int32).toInt ≤ -1) n_c_18 (by decide)
      refine lv_iload_n hx hb dX9_nearest_44 rfl (lv_at hl 1 rfl) ?_
      refine lv_iconst (v := (-1)) hx hb dX9_nearest_45 (by decide) ?_
      refine lv_icmp_ne (tgt := 54) hx hb dX9_nearest_46 (by decide) (fun c_19 => absurd (show (r_16.toInt : Int) ≠ (-1) from c_ne rfl (by decide) c_19) (by have q1 := b_r_16; have q2 := (by decide : (-1 : Int) ≤ ((-1) : Int32).toInt ∧ ((-1) : Int32).toInt ≤ -1); omega)) (fun c_19 => ?_)
      refine lv_iload hx hb dX9_nearest_49 (lv_at hl 0 rfl) ?_
      refine lv_goto (tgt := 55) hx hb dX9_nearest_51 (by decide) ?_
      exact W.iret (v := r_17) hx hb hr (fun t ht hW => ⟨r_17, rfl, trivial, ht⟩) t_nil dX9_nearest_55
    ·
      have n_c_18 : (r_16.toInt : Int) ≠ (-1) := c_ne rfl (by decide) c_18
      have b_r_16 : (0 : Int) ≤ r_16.toInt ∧ r_16.toInt ≤ 2147483647 := r_ne1 b_r_16 (by decide : (-1 : Int) ≤ ((-1) : Int32).toInt ∧ ((-1) : Int32).toInt ≤ -1) n_c_18 (by decide)
      refine lv_iload hx hb dX9_nearest_38 (lv_at hl 0 rfl) ?_
      refine lv_iconst (v := (-1)) hx hb dX9_nearest_40 (by decide) ?_
      refine lv_icmp_ne (tgt := 56) hx hb dX9_nearest_41 (by decide) (fun c_20 => ?_) (fun c_20 => ?_)
      ·
        have n_c_20 : (r_17.toInt : Int) ≠ (-1) := c_ne rfl (by decide) c_20
        refine lv_iload_n hx hb dX9_nearest_56 rfl (lv_at hl 4 rfl) ?_
        refine lv_iload_n hx hb dX9_nearest_57 rfl (lv_at hl 1 rfl) ?_
        refine lv_isub hx hb dX9_nearest_58 ?_
        refine lv_topi (fun z_21 e_z_21 => ?_)
        obtain ⟨q_z_21, b_z_21⟩ := ti_sub (lo := -2147483647) (hi := 19999) e_z_21 rfl rfl b_a2 b_r_16 (by decide)
        refine lv_iload hx hb dX9_nearest_59 (lv_at hl 0 rfl) ?_
        refine lv_iload_n hx hb dX9_nearest_61 rfl (lv_at hl 4 rfl) ?_
        refine lv_isub hx hb dX9_nearest_62 ?_
        refine lv_topi (fun z_22 e_z_22 => ?_)
        refine lv_icmp_gt (tgt := 70) hx hb dX9_nearest_63 (by decide) (fun c_23 => ?_) (fun c_23 => ?_)
        ·
          have n_c_23 : (z_22.toInt : Int) < z_21.toInt := c_gt rfl rfl c_23
          have b_z_22 : (-2147483648 : Int) ≤ z_22.toInt ∧ z_22.toInt ≤ 19998 := r_lt1 (ti_rng z_22) b_z_21 n_c_23 (by decide)
          refine lv_iload hx hb dX9_nearest_70 (lv_at hl 0 rfl) ?_
          exact W.iret (v := r_17) hx hb hr (fun t ht hW => ⟨r_17, rfl, trivial, ht⟩) t_nil dX9_nearest_72
        ·
          have n_c_23 : (z_21.toInt : Int) ≤ z_22.toInt := c_ngt rfl rfl c_23
          have b_z_22 : (-2147483647 : Int) ≤ z_22.toInt ∧ z_22.toInt ≤ 2147483647 := r_le2 b_z_21 (ti_rng z_22) n_c_23 (by decide)
          refine lv_iload_n hx hb dX9_nearest_66 rfl (lv_at hl 1 rfl) ?_
          refine lv_goto (tgt := 72) hx hb dX9_nearest_67 (by decide) ?_
          exact W.iret (v := r_16) hx hb hr (fun t ht hW => ⟨r_16, rfl, trivial, ht⟩) t_nil dX9_nearest_72
      ·
        have n_c_20 : (r_17.toInt : Int) = (-1) := c_eq rfl (by decide) c_20
        have b_r_17 : (-1 : Int) ≤ r_17.toInt ∧ r_17.toInt ≤ -1 := r_eq1 b_r_17 (by decide : (-1 : Int) ≤ ((-1) : Int32).toInt ∧ ((-1) : Int32).toInt ≤ -1) n_c_20 (by decide)
        refine lv_iload_n hx hb dX9_nearest_44 rfl (lv_at hl 1 rfl) ?_
        refine lv_iconst (v := (-1)) hx hb dX9_nearest_45 (by decide) ?_
        refine lv_icmp_ne (tgt := 54) hx hb dX9_nearest_46 (by decide) (fun c_24 => ?_) (fun c_24 => absurd (show (r_16.toInt : Int) = (-1) from c_eq rfl (by decide) c_24) (by have q1 := b_r_16; have q2 := (by decide : (-1 : Int) ≤ ((-1) : Int32).toInt ∧ ((-1) : Int32).toInt ≤ -1); omega))
        refine lv_iload_n hx hb dX9_nearest_54 rfl (lv_at hl 1 rfl) ?_
        exact W.iret (v := r_16) hx hb hr (fun t ht hW => ⟨r_16, rfl, trivial, ht⟩) t_nil dX9_nearest_55
  ·
    have n_c_14 : (r_13.toInt : Int) = 0 := c_eq rfl (by decide) c_14
    have b_r_13 : (0 : Int) ≤ r_13.toInt ∧ r_13.toInt ≤ 0 := r_eq1 b_r_13 (by decide : (0 : Int) ≤ (0 : Int32).toInt ∧ (0 : Int32).toInt ≤ 0) n_c_14 (by decide)
    refine lv_bipush (v := (-2)) hx hb dX9_nearest_9 (by decide) ?_
    exact W.iret (v := (-2)) hx hb hr (fun t ht hW => ⟨(-2), rfl, trivial, ht⟩) t_nil dX9_nearest_11
theorem dX9_about_0 : decode cX9_about 0 = .ok (.aload_n 0, 1) := by decide +kernel
theorem dX9_about_1 : decode cX9_about 1 = .ok (.getfield 35, 3) := by decide +kernel
theorem dX9_about_4 : decode cX9_about 4 = .ok (.iload_n 1, 1) := by decide +kernel
theorem dX9_about_5 : decode cX9_about 5 = .ok (.invokevirtual 100, 3) := by decide +kernel
theorem dX9_about_8 : decode cX9_about 8 = .ok (.ifCond .ne 6, 3) := by decide +kernel
theorem dX9_about_11 : decode cX9_about 11 = .ok (.bipush (-2), 2) := by decide +kernel
theorem dX9_about_13 : decode cX9_about 13 = .ok (.ireturn, 1) := by decide +kernel
theorem dX9_about_14 : decode cX9_about 14 = .ok (.aload_n 0, 1) := by decide +kernel
theorem dX9_about_15 : decode cX9_about 15 = .ok (.getfield 35, 3) := by decide +kernel
theorem dX9_about_18 : decode cX9_about 18 = .ok (.getfield 220, 3) := by decide +kernel
theorem dX9_about_21 : decode cX9_about 21 = .ok (.aload_n 0, 1) := by decide +kernel
theorem dX9_about_22 : decode cX9_about 22 = .ok (.getfield 35, 3) := by decide +kernel
theorem dX9_about_25 : decode cX9_about 25 = .ok (.getfield 110, 3) := by decide +kernel
theorem dX9_about_28 : decode cX9_about 28 = .ok (.iconst 2, 1) := by decide +kernel
theorem dX9_about_29 : decode cX9_about 29 = .ok (.idiv, 1) := by decide +kernel
theorem dX9_about_30 : decode cX9_about 30 = .ok (.invokestatic 226, 3) := by decide +kernel
theorem dX9_about_33 : decode cX9_about 33 = .ok (.istore_n 2, 1) := by decide +kernel
theorem dX9_about_34 : decode cX9_about 34 = .ok (.iload_n 2, 1) := by decide +kernel
theorem dX9_about_35 : decode cX9_about 35 = .ok (.iconst 1, 1) := by decide +kernel
theorem dX9_about_36 : decode cX9_about 36 = .ok (.if_icmp .ge 6, 3) := by decide +kernel
theorem dX9_about_39 : decode cX9_about 39 = .ok (.bipush (-2), 2) := by decide +kernel
theorem dX9_about_41 : decode cX9_about 41 = .ok (.ireturn, 1) := by decide +kernel
theorem dX9_about_42 : decode cX9_about 42 = .ok (.iload_n 1, 1) := by decide +kernel
theorem dX9_about_43 : decode cX9_about 43 = .ok (.iload_n 2, 1) := by decide +kernel
theorem dX9_about_44 : decode cX9_about 44 = .ok (.irem, 1) := by decide +kernel
theorem dX9_about_45 : decode cX9_about 45 = .ok (.istore_n 3, 1) := by decide +kernel
theorem dX9_about_46 : decode cX9_about 46 = .ok (.iload_n 1, 1) := by decide +kernel
theorem dX9_about_47 : decode cX9_about 47 = .ok (.iload_n 3, 1) := by decide +kernel
theorem dX9_about_48 : decode cX9_about 48 = .ok (.isub, 1) := by decide +kernel
theorem dX9_about_49 : decode cX9_about 49 = .ok (.iload_n 2, 1) := by decide +kernel
theorem dX9_about_50 : decode cX9_about 50 = .ok (.iconst 1, 1) := by decide +kernel
theorem dX9_about_51 : decode cX9_about 51 = .ok (.isub, 1) := by decide +kernel
theorem dX9_about_52 : decode cX9_about 52 = .ok (.iload_n 3, 1) := by decide +kernel
theorem dX9_about_53 : decode cX9_about 53 = .ok (.isub, 1) := by decide +kernel
theorem dX9_about_54 : decode cX9_about 54 = .ok (.iadd, 1) := by decide +kernel
theorem dX9_about_55 : decode cX9_about 55 = .ok (.ireturn, 1) := by decide +kernel
theorem hd_yX9_about : yX9_about.cls = RX9 ∧ yX9_about.cls ≠ "java/lang/invoke/MethodHandle" ∧ yX9_about.cls ≠ "java/lang/invoke/VarHandle" ∧ (parseMethodDescriptor yX9_about.desc).map (fun d => d.parameters.length) = some 1 := by decide +kernel
def uX9_about : List Cond := List.cons (.code yX9_about cX9_about 4 (some .int)) (HAppend.hAppend ([.fieldLink RX9 35 "LuckyTicket" "current" "LLuckyTicket$Roll;", .methodLink RX9 100 yX2_hasTicket, .instanceMethod yX2_hasTicket, .selects RX2 yX2_hasTicket yX2_hasTicket, .initialized RX2, .methodLink RX9 226 yX9_power, .static yX9_power, .initialized RX9] : List Cond) (HAppend.hAppend uX2_hasTicket (HAppend.hAppend uX9_power (HAppend.hAppend wsX90 wsX20))))
theorem iX9_about_X9 : ∀ w ∈ wsX90, w ∈ uX9_about := fun _ h => (List.mem_cons_of_mem _ (List.mem_append_right _ (List.mem_append_right _ (List.mem_append_right _ (List.mem_append_left _ h)))))
theorem iX9_about_X2 : ∀ w ∈ wsX20, w ∈ uX9_about := fun _ h => (List.mem_cons_of_mem _ (List.mem_append_right _ (List.mem_append_right _ (List.mem_append_right _ (List.mem_append_right _ h)))))
theorem guX9_about : GU uX9_about := gu_cons (gu_app (by decide +kernel) (gu_ap guX2_hasTicket (gu_ap guX9_power (gu_ap gws_X9 gws_X2))))
theorem gX9_about__X2_hasTicket_V100 : GoodIn uX9_about (wsV RX9 100 RX2 yX2_hasTicket uX2_hasTicket) := gin_V (List.mem_of_getElem? (i := 2) rfl) (List.mem_of_getElem? (i := 3) rfl) (List.mem_of_getElem? (i := 4) rfl) (List.mem_of_getElem? (i := 5) rfl) (fun _ h => (List.mem_cons_of_mem _ (List.mem_append_right _ (List.mem_append_left _ h)))) guX2_hasTicket
theorem gX9_about__X9_power_S226 : GoodIn uX9_about (va_wsS RX9 226 yX9_power uX9_power) := gin_S (List.mem_of_getElem? (i := 6) rfl) (List.mem_of_getElem? (i := 7) rfl) (List.mem_of_getElem? (i := 8) rfl) (fun _ h => (List.mem_cons_of_mem _ (List.mem_append_right _ (List.mem_append_right _ (List.mem_append_left _ h))))) guX9_power
set_option maxHeartbeats 4000000 in
set_option maxRecDepth 100000 in
theorem kX9_about (l : Launch) (dC : Nat → ClassId) (dI : Nat → Nat → Nat) (h0 : Nat) (tp : Nat) (sc : Nat) (rd : Nat) (cu : Nat) (im : Nat) (ig : Nat) (sl : Nat) (se : Nat) (sm : Nat) (fc : Nat) (ln : Int32) (bs : Int32) (tk : Int32) (lw : Int32) (li : Int32) (fa : Nat) (lu : Nat) (a1 : Int32) (b_ln : (0 : Int) ≤ ln.toInt ∧ ln.toInt ≤ 12) (b_bs : (0 : Int) ≤ bs.toInt ∧ bs.toInt ≤ 16) (b_tk : (0 : Int) ≤ tk.toInt ∧ tk.toInt ≤ 20000) (b_lw : (0 : Int) ≤ lw.toInt ∧ lw.toInt ≤ 9) : Met l yX9_about uX9_about ({ frames := 1, cells := 0, slots := 0, locals := 23 }) (va_Pc [.ref h0, .int a1] (pw (dC, dI) vwCl [(h0, .inr (7, [.ref tp, .ref sc, .ref rd, .ref cu, .ref im, .ref ig, .ref sl, .ref se, .ref sm, .ref fc])), (cu, .inr (1, [.int ln, .int bs, .int tk, .int lw, .int li, .ref fa, .ref lu]))] [])) (vp_Si (fun r => True)) 0 0 (fun _ => False) := by
  refine Met.ofW (cc := cX9_about) (maxL := 4) (ret := (some .int)) pn_X9 rfl ?_
  intro p e s m args below meth c s₁ B hml hv
  obtain ⟨rfl, hP, hK, hN⟩ := hv
  have hx := B.exec
  have hb := B.bytes
  have hr := B.returns
  have hts := atoms_spec (ws := uX9_about) B.pre
  have hown : s.vm.findClass RX9 = some m.cls := hown_of B.named rfl
  have hlocks := B.notSynchronized
  have hl := lv_entry ([.ref h0, .int a1]) (n := 4) (Nat.le_of_ble_eq_true rfl)
  rw [lg_entry_eq]
  generalize (lg_sl ([.ref h0, .int a1]) ++ List.replicate (4 - (lg_sl ([.ref h0, .int a1])).length) Slot.unset).toArray = ls at hl ⊢
  have hl : lv_has ls 4 [(0, .ref h0), (1, .int a1)] := hl
  refine lv_aload_n hx hb dX9_about_0 rfl (lv_at hl 0 rfl) ?_
  refine va_get (D := (dC, dI)) (ci := 7) (v := .ref cu) (C := RX9) (T := TX9) (N := 10) hx hb hts iX9_about_X9 hown hK hP 0 rfl rfl 3 (by decide) (hts (.fieldLink RX9 35 "LuckyTicket" "current" "LLuckyTicket$Roll;") (List.mem_of_getElem? (i := 1) rfl)) (fun _ h9 => h9) rfl dX9_about_1 ?_
  refine lv_iload_n hx hb dX9_about_4 rfl (lv_at hl 1 rfl) ?_
  refine vp_callSi (W.runV (As := [.int a1]) (rest := []) ⟨hx, hb, hml, hown, hts⟩ (kX2_hasTicket l dC dI cu ln bs tk lw li fa lu a1 b_ln b_bs b_tk b_lw) (cwV 1 hts gX9_about__X2_hasTicket_V100 rfl rfl rfl hd_yX2_hasTicket ⟨lel 1 1 rfl, lel 21 23 rfl⟩) ⟨pw_fb, rcv_X2 hK hP (q0 := 1) rfl, (pw_use hP hK hN [1] rfl [] rfl)⟩ rfl rfl hl.1 rfl (lv_room (Nat.le_of_ble_eq_true rfl)) dX9_about_5 ⟨lel 0 0 rfl, lel 0 0 rfl⟩) (fun r_12 h_r_12 => ?_)
  obtain ⟨b_r_12, nz_r_12⟩ := h_r_12
  have b_r_12 : (0 : Int) ≤ r_12.toInt ∧ r_12.toInt ≤ 1 := b_r_12
  refine lv_if_ne (tgt := 14) hx hb dX9_about_8 (by decide) (fun c_13 => ?_) (fun c_13 => ?_)
  ·
    have n_c_13 : (r_12.toInt : Int) ≠ 0 := c_ne rfl (by decide) c_13
    have b_r_12 : (1 : Int) ≤ r_12.toInt ∧ r_12.toInt ≤ 1 := r_ne1 b_r_12 (by decide : (0 : Int) ≤ (0 : Int32).toInt ∧ (0 : Int32).toInt ≤ 0) n_c_13 (by decide)
    obtain ⟨b_a1, g_14⟩ := nz_r_12 c_13
    refine lv_aload_n hx hb dX9_about_14 rfl (lv_at hl 0 rfl) ?_
    refine va_get (D := (dC, dI)) (ci := 7) (v := .ref cu) (C := RX9) (T := TX9) (N := 10) hx hb hts iX9_about_X9 hown hK hP 0 rfl rfl 3 (by decide) (hts (.fieldLink RX9 35 "LuckyTicket" "current" "LLuckyTicket$Roll;") (List.mem_of_getElem? (i := 1) rfl)) (fun _ h9 => h9) rfl dX9_about_15 ?_
    refine va_getN (own := RX9) (index := 220) (ref := RX2) (host := RX9) (D := (dC, dI)) (ci := 1) (v := .int bs) (C := RX2) (T := TX2) (N := 7) hx hb hts iX9_about_X2 hown hK hP 1 rfl rfl 1 (by decide) (va_Nw.use rfl (hN _ (List.mem_of_getElem? (i := 16) rfl))) (fun _ h9 => h9) rfl dX9_about_18 ?_
    refine lv_aload_n hx hb dX9_about_21 rfl (lv_at hl 0 rfl) ?_
    refine va_get (D := (dC, dI)) (ci := 7) (v := .ref cu) (C := RX9) (T := TX9) (N := 10) hx hb hts iX9_about_X9 hown hK hP 0 rfl rfl 3 (by decide) (hts (.fieldLink RX9 35 "LuckyTicket" "current" "LLuckyTicket$Roll;") (List.mem_of_getElem? (i := 1) rfl)) (fun _ h9 => h9) rfl dX9_about_22 ?_
    refine va_getN (own := RX9) (index := 110) (ref := RX2) (host := RX9) (D := (dC, dI)) (ci := 1) (v := .int ln) (C := RX2) (T := TX2) (N := 7) hx hb hts iX9_about_X2 hown hK hP 1 rfl rfl 0 (by decide) (va_Nw.use rfl (hN _ (List.mem_of_getElem? (i := 14) rfl))) (fun _ h9 => h9) rfl dX9_about_25 ?_
    refine lv_iconst (v := 2) hx hb dX9_about_28 (by decide) ?_
    refine lv_idiv hx hb dX9_about_29 (by decide) ?_
    refine lv_topi (fun z_15 e_z_15 => ?_)
    obtain ⟨q_z_15, b_z_15⟩ := ti_div (hi := 6) e_z_15 rfl (by decide : (2 : Int32).toInt = 2) b_ln (by decide : (2 : Int) ≤ (2 : Int32).toInt ∧ (2 : Int32).toInt ≤ 2) (by decide)
    refine vp_callSi (W.runS (As := [.int bs, .int z_15]) (rest := []) ⟨hx, hb, hml, hown, hts⟩ (kX9_power l dC dI bs z_15 ) (va_cwS 2 hts gX9_about__X9_power_S226 rfl rfl rfl hd_yX9_power.2 ⟨lel 1 1 rfl, lel 23 23 rfl⟩) ⟨pn_fb, pn_use⟩ rfl rfl hl.1 rfl (lv_room (Nat.le_of_ble_eq_true rfl)) dX9_about_30 ⟨lel 0 0 rfl, lel 0 0 rfl⟩) (fun r_16 h_r_16 => ?_)
    refine lv_istore_n (lv' := [(2, .int r_16), (0, .ref h0), (1, .int a1)]) hx hb dX9_about_33 rfl hl (by decide) rfl (fun ls hl => ?_)
    refine lv_iload_n hx hb dX9_about_34 rfl (lv_at hl 0 rfl) ?_
    refine lv_iconst (v := 1) hx hb dX9_about_35 (by decide) ?_
    refine lv_icmp_ge (tgt := 42) hx hb dX9_about_36 (by decide) (fun c_17 => ?_) (fun c_17 => ?_)
    ·
      have n_c_17 : (1 : Int) ≤ r_16.toInt := c_ge rfl (by decide) c_17
      have b_r_16 : (1 : Int) ≤ r_16.toInt ∧ r_16.toInt ≤ 2147483647 := r_le2 (by decide : (1 : Int) ≤ (1 : Int32).toInt ∧ (1 : Int32).toInt ≤ 1) (ti_rng r_16) n_c_17 (by decide)
      refine lv_iload_n hx hb dX9_about_42 rfl (lv_at hl 2 rfl) ?_
      refine lv_iload_n hx hb dX9_about_43 rfl (lv_at hl 0 rfl) ?_
      refine lv_irem hx hb dX9_about_44 (ti_ne b_r_16 (by decide)) ?_
      refine lv_topi (fun z_18 e_z_18 => ?_)
      obtain ⟨q_z_18, b_z_18⟩ := ti_rem (hi := 19999) e_z_18 rfl rfl b_a1 b_r_16 (by decide)
      refine lv_istore_n (lv' := [(3, .int z_18), (2, .int r_16), (0, .ref h0), (1, .int a1)]) hx hb dX9_about_45 rfl hl (by decide) rfl (fun ls hl => ?_)
      refine lv_iload_n hx hb dX9_about_46 rfl (lv_at hl 3 rfl) ?_
      refine lv_iload_n hx hb dX9_about_47 rfl (lv_at hl 0 rfl) ?_
      refine lv_isub hx hb dX9_about_48 ?_
      refine lv_topi (fun z_19 e_z_19 => ?_)
      obtain ⟨q_z_19, b_z_19⟩ := ti_sub (lo := -19999) (hi := 19999) e_z_19 rfl rfl b_a1 b_z_18 (by decide)
      refine lv_iload_n hx hb dX9_about_49 rfl (lv_at hl 1 rfl) ?_
      refine lv_iconst (v := 1) hx hb dX9_about_50 (by decide) ?_
      refine lv_isub hx hb dX9_about_51 ?_
      refine lv_topi (fun z_20 e_z_20 => ?_)
      obtain ⟨q_z_20, b_z_20⟩ := ti_sub (lo := 0) (hi := 2147483646) e_z_20 rfl (by decide : (1 : Int32).toInt = 1) b_r_16 (by decide : (1 : Int) ≤ (1 : Int32).toInt ∧ (1 : Int32).toInt ≤ 1) (by decide)
      refine lv_iload_n hx hb dX9_about_52 rfl (lv_at hl 0 rfl) ?_
      refine lv_isub hx hb dX9_about_53 ?_
      refine lv_topi (fun z_21 e_z_21 => ?_)
      obtain ⟨q_z_21, b_z_21⟩ := ti_sub (lo := -19999) (hi := 2147483646) e_z_21 rfl rfl b_z_20 b_z_18 (by decide)
      refine lv_iadd hx hb dX9_about_54 ?_
      refine lv_topi (fun z_22 e_z_22 => ?_)
      exact W.iret (v := z_22) hx hb hr (fun t ht hW => ⟨z_22, rfl, trivial, ht⟩) t_nil dX9_about_55
    ·
      have n_c_17 : (r_16.toInt : Int) < 1 := c_nge rfl (by decide) c_17
      have b_r_16 : (-2147483648 : Int) ≤ r_16.toInt ∧ r_16.toInt ≤ 0 := r_lt1 (ti_rng r_16) (by decide : (1 : Int) ≤ (1 : Int32).toInt ∧ (1 : Int32).toInt ≤ 1) n_c_17 (by decide)
      refine lv_bipush (v := (-2)) hx hb dX9_about_39 (by decide) ?_
      exact W.iret (v := (-2)) hx hb hr (fun t ht hW => ⟨(-2), rfl, trivial, ht⟩) t_nil dX9_about_41
  ·
    have n_c_13 : (r_12.toInt : Int) = 0 := c_eq rfl (by decide) c_13
    have b_r_12 : (0 : Int) ≤ r_12.toInt ∧ r_12.toInt ≤ 0 := r_eq1 b_r_12 (by decide : (0 : Int) ≤ (0 : Int32).toInt ∧ (0 : Int32).toInt ≤ 0) n_c_13 (by decide)
    refine lv_bipush (v := (-2)) hx hb dX9_about_11 (by decide) ?_
    exact W.iret (v := (-2)) hx hb hr (fun t ht hW => ⟨(-2), rfl, trivial, ht⟩) t_nil dX9_about_13
theorem dX9_draw_0 : decode cX9_draw 0 = .ok (.aload_n 0, 1) := by decide +kernel
theorem dX9_draw_1 : decode cX9_draw 1 = .ok (.getfield 35, 3) := by decide +kernel
theorem dX9_draw_4 : decode cX9_draw 4 = .ok (.iload_n 1, 1) := by decide +kernel
theorem dX9_draw_5 : decode cX9_draw 5 = .ok (.invokevirtual 149, 3) := by decide +kernel
theorem dX9_draw_8 : decode cX9_draw 8 = .ok (.ifCond .eq 14, 3) := by decide +kernel
theorem dX9_draw_11 : decode cX9_draw 11 = .ok (.iload_n 2, 1) := by decide +kernel
theorem dX9_draw_12 : decode cX9_draw 12 = .ok (.iconst 0, 1) := by decide +kernel
theorem dX9_draw_13 : decode cX9_draw 13 = .ok (.ldc_w 257, 3) := by decide +kernel
theorem dX9_draw_16 : decode cX9_draw 16 = .ok (.invokestatic 158, 3) := by decide +kernel
theorem dX9_draw_19 : decode cX9_draw 19 = .ok (.ifCond .ne 6, 3) := by decide +kernel
theorem dX9_draw_22 : decode cX9_draw 22 = .ok (.bipush (-2), 2) := by decide +kernel
theorem dX9_draw_24 : decode cX9_draw 24 = .ok (.ireturn, 1) := by decide +kernel
theorem dX9_draw_25 : decode cX9_draw 25 = .ok (.aload_n 0, 1) := by decide +kernel
theorem dX9_draw_26 : decode cX9_draw 26 = .ok (.getfield 35, 3) := by decide +kernel
theorem dX9_draw_29 : decode cX9_draw 29 = .ok (.iload_n 1, 1) := by decide +kernel
theorem dX9_draw_30 : decode cX9_draw 30 = .ok (.invokevirtual 152, 3) := by decide +kernel
theorem dX9_draw_33 : decode cX9_draw 33 = .ok (.istore_n 3, 1) := by decide +kernel
theorem dX9_draw_34 : decode cX9_draw 34 = .ok (.iload_n 3, 1) := by decide +kernel
theorem dX9_draw_35 : decode cX9_draw 35 = .ok (.ifCond .ne 7, 3) := by decide +kernel
theorem dX9_draw_38 : decode cX9_draw 38 = .ok (.iconst (-1), 1) := by decide +kernel
theorem dX9_draw_39 : decode cX9_draw 39 = .ok (.goto 20, 3) := by decide +kernel
theorem dX9_draw_42 : decode cX9_draw 42 = .ok (.aload_n 0, 1) := by decide +kernel
theorem dX9_draw_43 : decode cX9_draw 43 = .ok (.getfield 35, 3) := by decide +kernel
theorem dX9_draw_46 : decode cX9_draw 46 = .ok (.iload_n 1, 1) := by decide +kernel
theorem dX9_draw_47 : decode cX9_draw 47 = .ok (.iload_n 2, 1) := by decide +kernel
theorem dX9_draw_48 : decode cX9_draw 48 = .ok (.i2l, 1) := by decide +kernel
theorem dX9_draw_49 : decode cX9_draw 49 = .ok (.invokestatic 258, 3) := by decide +kernel
theorem dX9_draw_52 : decode cX9_draw 52 = .ok (.iload_n 3, 1) := by decide +kernel
theorem dX9_draw_53 : decode cX9_draw 53 = .ok (.invokestatic 262, 3) := by decide +kernel
theorem dX9_draw_56 : decode cX9_draw 56 = .ok (.invokevirtual 172, 3) := by decide +kernel
theorem dX9_draw_59 : decode cX9_draw 59 = .ok (.ireturn, 1) := by decide +kernel
theorem hd_yX9_draw : yX9_draw.cls = RX9 ∧ yX9_draw.cls ≠ "java/lang/invoke/MethodHandle" ∧ yX9_draw.cls ≠ "java/lang/invoke/VarHandle" ∧ (parseMethodDescriptor yX9_draw.desc).map (fun d => d.parameters.length) = some 2 := by decide +kernel
def uX9_draw : List Cond := List.cons (.code yX9_draw cX9_draw 4 (some .int)) (HAppend.hAppend ([.fieldLink RX9 35 "LuckyTicket" "current" "LLuckyTicket$Roll;", .methodLink RX9 149 yX2_hasLaw, .instanceMethod yX2_hasLaw, .selects RX2 yX2_hasLaw yX2_hasLaw, .initialized RX2, .constant RX9 257 (2000000000), .methodLink RX9 158 yX9_isWithin, .static yX9_isWithin, .initialized RX9, .methodLink RX9 152 yX2_total, .instanceMethod yX2_total, .selects RX2 yX2_total yX2_total, .methodLink RX9 258 yX9_stirred, .static yX9_stirred, .methodLink RX9 262 yX9_drawOf, .static yX9_drawOf, .methodLink RX9 172 yX2_pick, .instanceMethod yX2_pick, .selects RX2 yX2_pick yX2_pick] : List Cond) (HAppend.hAppend uX2_hasLaw (HAppend.hAppend uX9_isWithin (HAppend.hAppend uX2_total (HAppend.hAppend uX9_stirred (HAppend.hAppend uX9_drawOf (HAppend.hAppend uX2_pick wsX90)))))))
theorem iX9_draw_X9 : ∀ w ∈ wsX90, w ∈ uX9_draw := fun _ h => (List.mem_cons_of_mem _ (List.mem_append_right _ (List.mem_append_right _ (List.mem_append_right _ (List.mem_append_right _ (List.mem_append_right _ (List.mem_append_right _ (List.mem_append_right _ h))))))))
theorem guX9_draw : GU uX9_draw := gu_cons (gu_app (by decide +kernel) (gu_ap guX2_hasLaw (gu_ap guX9_isWithin (gu_ap guX2_total (gu_ap guX9_stirred (gu_ap guX9_drawOf (gu_ap guX2_pick gws_X9)))))))
theorem gX9_draw__X2_hasLaw_V149 : GoodIn uX9_draw (wsV RX9 149 RX2 yX2_hasLaw uX2_hasLaw) := gin_V (List.mem_of_getElem? (i := 2) rfl) (List.mem_of_getElem? (i := 3) rfl) (List.mem_of_getElem? (i := 4) rfl) (List.mem_of_getElem? (i := 5) rfl) (fun _ h => (List.mem_cons_of_mem _ (List.mem_append_right _ (List.mem_append_left _ h)))) guX2_hasLaw
theorem gX9_draw__X9_isWithin_S158 : GoodIn uX9_draw (va_wsS RX9 158 yX9_isWithin uX9_isWithin) := gin_S (List.mem_of_getElem? (i := 7) rfl) (List.mem_of_getElem? (i := 8) rfl) (List.mem_of_getElem? (i := 9) rfl) (fun _ h => (List.mem_cons_of_mem _ (List.mem_append_right _ (List.mem_append_right _ (List.mem_append_left _ h))))) guX9_isWithin
theorem gX9_draw__X2_total_V152 : GoodIn uX9_draw (wsV RX9 152 RX2 yX2_total uX2_total) := gin_V (List.mem_of_getElem? (i := 10) rfl) (List.mem_of_getElem? (i := 11) rfl) (List.mem_of_getElem? (i := 12) rfl) (List.mem_of_getElem? (i := 5) rfl) (fun _ h => (List.mem_cons_of_mem _ (List.mem_append_right _ (List.mem_append_right _ (List.mem_append_right _ (List.mem_append_left _ h)))))) guX2_total
theorem gX9_draw__X9_stirred_S258 : GoodIn uX9_draw (va_wsS RX9 258 yX9_stirred uX9_stirred) := gin_S (List.mem_of_getElem? (i := 13) rfl) (List.mem_of_getElem? (i := 14) rfl) (List.mem_of_getElem? (i := 9) rfl) (fun _ h => (List.mem_cons_of_mem _ (List.mem_append_right _ (List.mem_append_right _ (List.mem_append_right _ (List.mem_append_right _ (List.mem_append_left _ h))))))) guX9_stirred
theorem gX9_draw__X9_drawOf_S262 : GoodIn uX9_draw (va_wsS RX9 262 yX9_drawOf uX9_drawOf) := gin_S (List.mem_of_getElem? (i := 15) rfl) (List.mem_of_getElem? (i := 16) rfl) (List.mem_of_getElem? (i := 9) rfl) (fun _ h => (List.mem_cons_of_mem _ (List.mem_append_right _ (List.mem_append_right _ (List.mem_append_right _ (List.mem_append_right _ (List.mem_append_right _ (List.mem_append_left _ h)))))))) guX9_drawOf
theorem gX9_draw__X2_pick_V172 : GoodIn uX9_draw (wsV RX9 172 RX2 yX2_pick uX2_pick) := gin_V (List.mem_of_getElem? (i := 17) rfl) (List.mem_of_getElem? (i := 18) rfl) (List.mem_of_getElem? (i := 19) rfl) (List.mem_of_getElem? (i := 5) rfl) (fun _ h => (List.mem_cons_of_mem _ (List.mem_append_right _ (List.mem_append_right _ (List.mem_append_right _ (List.mem_append_right _ (List.mem_append_right _ (List.mem_append_right _ (List.mem_append_left _ h))))))))) guX2_pick
set_option maxHeartbeats 4000000 in
set_option maxRecDepth 100000 in
theorem kX9_draw (l : Launch) (dC : Nat → ClassId) (dI : Nat → Nat → Nat) (h0 : Nat) (tp : Nat) (sc : Nat) (rd : Nat) (cu : Nat) (im : Nat) (ig : Nat) (sl : Nat) (se : Nat) (sm : Nat) (fc : Nat) (ln : Int32) (bs : Int32) (tk : Int32) (lw : Int32) (li : Int32) (fa : Nat) (lu : Nat) (cL : ClassId) (nl : Nat) (fl : Nat → Int32) (a1 : Int32) (a2 : Int32) (b_ln : (0 : Int) ≤ ln.toInt ∧ ln.toInt ≤ 12) (b_bs : (0 : Int) ≤ bs.toInt ∧ bs.toInt ≤ 16) (b_tk : (0 : Int) ≤ tk.toInt ∧ tk.toInt ≤ 20000) (b_lw : (0 : Int) ≤ lw.toInt ∧ lw.toInt ≤ 9) (hl1 : tk.toInt ≤ (nl : Int)) : Met l yX9_draw uX9_draw ({ frames := 3, cells := 0, slots := 0, locals := 60 }) (va_Pc [.ref h0, .int a1, .int a2] (pw (dC, dI) vwCl [(h0, .inr (7, [.ref tp, .ref sc, .ref rd, .ref cu, .ref im, .ref ig, .ref sl, .ref se, .ref sm, .ref fc])), (cu, .inr (1, [.int ln, .int bs, .int tk, .int lw, .int li, .ref fa, .ref lu])), (lu, .inl (cL, nl, .inl fl))] [(cL, .int)])) (vp_Si (fun r => ((-2 : Int) ≤ r.toInt ∧ r.toInt ≤ 19999))) 0 0 (fun _ => False) := by
  refine Met.ofW (cc := cX9_draw) (maxL := 4) (ret := (some .int)) pn_X9 rfl ?_
  intro p e s m args below meth c s₁ B hml hv
  obtain ⟨rfl, hP, hK, hN⟩ := hv
  have hx := B.exec
  have hb := B.bytes
  have hr := B.returns
  have hts := atoms_spec (ws := uX9_draw) B.pre
  have hown : s.vm.findClass RX9 = some m.cls := hown_of B.named rfl
  have hlocks := B.notSynchronized
  have hl := lv_entry ([.ref h0, .int a1, .int a2]) (n := 4) (Nat.le_of_ble_eq_true rfl)
  rw [lg_entry_eq]
  generalize (lg_sl ([.ref h0, .int a1, .int a2]) ++ List.replicate (4 - (lg_sl ([.ref h0, .int a1, .int a2])).length) Slot.unset).toArray = ls at hl ⊢
  have hl : lv_has ls 4 [(0, .ref h0), (1, .int a1), (2, .int a2)] := hl
  refine lv_aload_n hx hb dX9_draw_0 rfl (lv_at hl 0 rfl) ?_
  refine va_get (D := (dC, dI)) (ci := 7) (v := .ref cu) (C := RX9) (T := TX9) (N := 10) hx hb hts iX9_draw_X9 hown hK hP 0 rfl rfl 3 (by decide) (hts (.fieldLink RX9 35 "LuckyTicket" "current" "LLuckyTicket$Roll;") (List.mem_of_getElem? (i := 1) rfl)) (fun _ h9 => h9) rfl dX9_draw_1 ?_
  refine lv_iload_n hx hb dX9_draw_4 rfl (lv_at hl 1 rfl) ?_
  refine vp_callSi (W.runV (As := [.int a1]) (rest := []) ⟨hx, hb, hml, hown, hts⟩ (kX2_hasLaw l dC dI cu ln bs tk lw li fa lu a1 b_ln b_bs b_tk b_lw) (cwV 1 hts gX9_draw__X2_hasLaw_V149 rfl rfl rfl hd_yX2_hasLaw ⟨lel 1 3 rfl, lel 21 60 rfl⟩) ⟨pw_fb, rcv_X2 hK hP (q0 := 1) rfl, (pw_use hP hK hN [1] rfl [] rfl)⟩ rfl rfl hl.1 rfl (lv_room (Nat.le_of_ble_eq_true rfl)) dX9_draw_5 ⟨lel 0 0 rfl, lel 0 0 rfl⟩) (fun r_13 h_r_13 => ?_)
  obtain ⟨b_r_13, nz_r_13⟩ := h_r_13
  have b_r_13 : (0 : Int) ≤ r_13.toInt ∧ r_13.toInt ≤ 1 := b_r_13
  refine lv_if_eq (tgt := 22) hx hb dX9_draw_8 (by decide) (fun c_14 => ?_) (fun c_14 => ?_)
  ·
    have n_c_14 : (r_13.toInt : Int) = 0 := c_eq rfl (by decide) c_14
    have b_r_13 : (0 : Int) ≤ r_13.toInt ∧ r_13.toInt ≤ 0 := r_eq1 b_r_13 (by decide : (0 : Int) ≤ (0 : Int32).toInt ∧ (0 : Int32).toInt ≤ 0) n_c_14 (by decide)
    refine lv_bipush (v := (-2)) hx hb dX9_draw_22 (by decide) ?_
    exact W.iret (v := (-2)) hx hb hr (fun t ht hW => ⟨(-2), rfl, (rg_w (by decide : (-2 : Int) ≤ ((-2) : Int32).toInt ∧ ((-2) : Int32).toInt ≤ -2) (by decide) (by decide)), ht⟩) t_nil dX9_draw_24
  ·
    have n_c_14 : (r_13.toInt : Int) ≠ 0 := c_ne rfl (by decide) c_14
    have b_r_13 : (1 : Int) ≤ r_13.toInt ∧ r_13.toInt ≤ 1 := r_ne1 b_r_13 (by decide : (0 : Int) ≤ (0 : Int32).toInt ∧ (0 : Int32).toInt ≤ 0) n_c_14 (by decide)
    obtain ⟨b_a1, g_15⟩ := nz_r_13 c_14
    refine lv_iload_n hx hb dX9_draw_11 rfl (lv_at hl 2 rfl) ?_
    refine lv_iconst (v := 0) hx hb dX9_draw_12 (by decide) ?_
    refine lv_ldcw (v := 2000000000) hx hb hown (hts (.constant RX9 257 (2000000000)) (List.mem_of_getElem? (i := 6) rfl)) dX9_draw_13 ?_
    refine vp_callSi (W.runS (As := [.int a2, .int 0, .int 2000000000]) (rest := []) ⟨hx, hb, hml, hown, hts⟩ (kX9_isWithin l dC dI a2 0 2000000000 ) (va_cwS 3 hts gX9_draw__X9_isWithin_S158 rfl rfl rfl hd_yX9_isWithin.2 ⟨lel 1 3 rfl, lel 22 60 rfl⟩) ⟨pn_fb, pn_use⟩ rfl rfl hl.1 rfl (lv_room (Nat.le_of_ble_eq_true rfl)) dX9_draw_16 ⟨lel 0 0 rfl, lel 0 0 rfl⟩) (fun r_16 h_r_16 => ?_)
    obtain ⟨b_r_16, nz_r_16⟩ := h_r_16
    have b_r_16 : (0 : Int) ≤ r_16.toInt ∧ r_16.toInt ≤ 1 := b_r_16
    refine lv_if_ne (tgt := 25) hx hb dX9_draw_19 (by decide) (fun c_17 => ?_) (fun c_17 => ?_)
    ·
      have n_c_17 : (r_16.toInt : Int) ≠ 0 := c_ne rfl (by decide) c_17
      have b_r_16 : (1 : Int) ≤ r_16.toInt ∧ r_16.toInt ≤ 1 := r_ne1 b_r_16 (by decide : (0 : Int) ≤ (0 : Int32).toInt ∧ (0 : Int32).toInt ≤ 0) n_c_17 (by decide)
      have g_18 := nz_r_16 c_17
      have lt0_g_18 := (by decide : (0 : Int32).toInt = 0)
      have lt1_g_18 := (by decide : (2000000000 : Int32).toInt = 2000000000)
      have b_a2 : (0 : Int) ≤ a2.toInt ∧ a2.toInt ≤ 2000000000 := by
        have q0 := (ti_rng a2)
        have q1 := (by decide : (0 : Int) ≤ (0 : Int32).toInt ∧ (0 : Int32).toInt ≤ 0)
        have q2 := (by decide : (2000000000 : Int) ≤ (2000000000 : Int32).toInt ∧ (2000000000 : Int32).toInt ≤ 2000000000)
        omega
      refine lv_aload_n hx hb dX9_draw_25 rfl (lv_at hl 0 rfl) ?_
      refine va_get (D := (dC, dI)) (ci := 7) (v := .ref cu) (C := RX9) (T := TX9) (N := 10) hx hb hts iX9_draw_X9 hown hK hP 0 rfl rfl 3 (by decide) (hts (.fieldLink RX9 35 "LuckyTicket" "current" "LLuckyTicket$Roll;") (List.mem_of_getElem? (i := 1) rfl)) (fun _ h9 => h9) rfl dX9_draw_26 ?_
      refine lv_iload_n hx hb dX9_draw_29 rfl (lv_at hl 1 rfl) ?_
      refine vp_callSi (W.runV (As := [.int a1]) (rest := []) ⟨hx, hb, hml, hown, hts⟩ (kX2_total l dC dI cu ln bs tk lw li fa lu cL nl fl a1 b_ln b_bs b_tk b_lw (by omega)) (cwV 1 hts gX9_draw__X2_total_V152 rfl rfl rfl hd_yX2_total ⟨lel 3 3 rfl, lel 60 60 rfl⟩) ⟨pw_fb, rcv_X2 hK hP (q0 := 1) rfl, (pw_use hP hK hN [1, 2] rfl [0] rfl)⟩ rfl rfl hl.1 rfl (lv_room (Nat.le_of_ble_eq_true rfl)) dX9_draw_30 ⟨lel 0 0 rfl, lel 0 0 rfl⟩) (fun r_19 h_r_19 => ?_)
      refine lv_istore_n (lv' := [(3, .int r_19), (0, .ref h0), (1, .int a1), (2, .int a2)]) hx hb dX9_draw_33 rfl hl (by decide) rfl (fun ls hl => ?_)
      refine lv_iload_n hx hb dX9_draw_34 rfl (lv_at hl 0 rfl) ?_
      refine lv_if_ne (tgt := 42) hx hb dX9_draw_35 (by decide) (fun c_20 => ?_) (fun c_20 => ?_)
      ·
        have n_c_20 : (r_19.toInt : Int) ≠ 0 := c_ne rfl (by decide) c_20
        refine lv_aload_n hx hb dX9_draw_42 rfl (lv_at hl 1 rfl) ?_
        refine va_get (D := (dC, dI)) (ci := 7) (v := .ref cu) (C := RX9) (T := TX9) (N := 10) hx hb hts iX9_draw_X9 hown hK hP 0 rfl rfl 3 (by decide) (hts (.fieldLink RX9 35 "LuckyTicket" "current" "LLuckyTicket$Roll;") (List.mem_of_getElem? (i := 1) rfl)) (fun _ h9 => h9) rfl dX9_draw_43 ?_
        refine lv_iload_n hx hb dX9_draw_46 rfl (lv_at hl 2 rfl) ?_
        refine lv_iload_n hx hb dX9_draw_47 rfl (lv_at hl 3 rfl) ?_
        obtain ⟨z_21, e_z_21⟩ : ∃ y : Int64, y = a2.toInt64 := ⟨_, rfl⟩
        refine lv_i2l (v := z_21) hx hb dX9_draw_48 e_z_21.symm ?_
        obtain ⟨q_z_21, b_z_21⟩ := ti_i2l e_z_21 b_a2
        refine vp_callSl (W.runS (As := [.long z_21]) (rest := [.int a1, .ref cu]) ⟨hx, hb, hml, hown, hts⟩ (kX9_stirred l dC dI z_21 ) (va_cwS 1 hts gX9_draw__X9_stirred_S258 rfl rfl rfl hd_yX9_stirred.2 ⟨lel 1 3 rfl, lel 21 60 rfl⟩) ⟨pn_fb, pn_use⟩ rfl rfl hl.1 rfl (lv_room (Nat.le_of_ble_eq_true rfl)) dX9_draw_49 ⟨lel 0 0 rfl, lel 0 0 rfl⟩) (fun r_22 h_r_22 => ?_)
        refine lv_iload_n hx hb dX9_draw_52 rfl (lv_at hl 0 rfl) ?_
        refine vp_callSi (W.runS (As := [.long r_22, .int r_19]) (rest := [.int a1, .ref cu]) ⟨hx, hb, hml, hown, hts⟩ (kX9_drawOf l dC dI r_22 r_19 ) (va_cwS 2 hts gX9_draw__X9_drawOf_S262 rfl rfl rfl hd_yX9_drawOf.2 ⟨lel 1 3 rfl, lel 22 60 rfl⟩) ⟨pn_fb, pn_use⟩ rfl rfl hl.1 rfl (lv_room (Nat.le_of_ble_eq_true rfl)) dX9_draw_53 ⟨lel 0 0 rfl, lel 0 0 rfl⟩) (fun r_23 h_r_23 => ?_)
        refine vp_callSi (W.runV (As := [.int a1, .int r_23]) (rest := []) ⟨hx, hb, hml, hown, hts⟩ (kX2_pick l dC dI cu ln bs tk lw li fa lu cL nl fl a1 r_23 b_ln b_bs b_tk b_lw (by omega)) (cwV 2 hts gX9_draw__X2_pick_V172 rfl rfl rfl hd_yX2_pick ⟨lel 2 3 rfl, lel 46 60 rfl⟩) ⟨pw_fb, rcv_X2 hK hP (q0 := 1) rfl, (pw_use hP hK hN [1, 2] rfl [0] rfl)⟩ rfl rfl hl.1 rfl (lv_room (Nat.le_of_ble_eq_true rfl)) dX9_draw_56 ⟨lel 0 0 rfl, lel 0 0 rfl⟩) (fun r_24 h_r_24 => ?_)
        have b_r_24 := h_r_24
        have b_r_24 : (-1 : Int) ≤ r_24.toInt ∧ r_24.toInt ≤ 19999 := b_r_24
        exact W.iret (v := r_24) hx hb hr (fun t ht hW => ⟨r_24, rfl, (rg_w b_r_24 (by decide) (by decide)), ht⟩) t_nil dX9_draw_59
      ·
        have n_c_20 : (r_19.toInt : Int) = 0 := c_eq rfl (by decide) c_20
        have b_r_19 : (0 : Int) ≤ r_19.toInt ∧ r_19.toInt ≤ 0 := r_eq1 (ti_rng r_19) (by decide : (0 : Int) ≤ (0 : Int32).toInt ∧ (0 : Int32).toInt ≤ 0) n_c_20 (by decide)
        refine lv_iconst (v := (-1)) hx hb dX9_draw_38 (by decide) ?_
        refine lv_goto (tgt := 59) hx hb dX9_draw_39 (by decide) ?_
        exact W.iret (v := (-1)) hx hb hr (fun t ht hW => ⟨(-1), rfl, (rg_w (by decide : (-1 : Int) ≤ ((-1) : Int32).toInt ∧ ((-1) : Int32).toInt ≤ -1) (by decide) (by decide)), ht⟩) t_nil dX9_draw_59
    ·
      have n_c_17 : (r_16.toInt : Int) = 0 := c_eq rfl (by decide) c_17
      have b_r_16 : (0 : Int) ≤ r_16.toInt ∧ r_16.toInt ≤ 0 := r_eq1 b_r_16 (by decide : (0 : Int) ≤ (0 : Int32).toInt ∧ (0 : Int32).toInt ≤ 0) n_c_17 (by decide)
      refine lv_bipush (v := (-2)) hx hb dX9_draw_22 (by decide) ?_
      exact W.iret (v := (-2)) hx hb hr (fun t ht hW => ⟨(-2), rfl, (rg_w (by decide : (-2 : Int) ≤ ((-2) : Int32).toInt ∧ ((-2) : Int32).toInt ≤ -2) (by decide) (by decide)), ht⟩) t_nil dX9_draw_24
theorem dX9_sold_0 : decode cX9_sold 0 = .ok (.aload_n 0, 1) := by decide +kernel
theorem dX9_sold_1 : decode cX9_sold 1 = .ok (.getfield 35, 3) := by decide +kernel
theorem dX9_sold_4 : decode cX9_sold 4 = .ok (.iload_n 1, 1) := by decide +kernel
theorem dX9_sold_5 : decode cX9_sold 5 = .ok (.invokevirtual 149, 3) := by decide +kernel
theorem dX9_sold_8 : decode cX9_sold 8 = .ok (.ifCond .eq 24, 3) := by decide +kernel
theorem dX9_sold_11 : decode cX9_sold 11 = .ok (.iload_n 2, 1) := by decide +kernel
theorem dX9_sold_12 : decode cX9_sold 12 = .ok (.iconst 0, 1) := by decide +kernel
theorem dX9_sold_13 : decode cX9_sold 13 = .ok (.ldc_w 257, 3) := by decide +kernel
theorem dX9_sold_16 : decode cX9_sold 16 = .ok (.invokestatic 158, 3) := by decide +kernel
theorem dX9_sold_19 : decode cX9_sold 19 = .ok (.ifCond .eq 13, 3) := by decide +kernel
theorem dX9_sold_22 : decode cX9_sold 22 = .ok (.iload_n 3, 1) := by decide +kernel
theorem dX9_sold_23 : decode cX9_sold 23 = .ok (.iconst 1, 1) := by decide +kernel
theorem dX9_sold_24 : decode cX9_sold 24 = .ok (.bipush 60, 2) := by decide +kernel
theorem dX9_sold_26 : decode cX9_sold 26 = .ok (.invokestatic 158, 3) := by decide +kernel
theorem dX9_sold_29 : decode cX9_sold 29 = .ok (.ifCond .ne 6, 3) := by decide +kernel
theorem dX9_sold_32 : decode cX9_sold 32 = .ok (.bipush (-2), 2) := by decide +kernel
theorem dX9_sold_34 : decode cX9_sold 34 = .ok (.ireturn, 1) := by decide +kernel
theorem dX9_sold_35 : decode cX9_sold 35 = .ok (.iload_n 2, 1) := by decide +kernel
theorem dX9_sold_36 : decode cX9_sold 36 = .ok (.i2l, 1) := by decide +kernel
theorem dX9_sold_37 : decode cX9_sold 37 = .ok (.lstore 4, 2) := by decide +kernel
theorem dX9_sold_39 : decode cX9_sold 39 = .ok (.iconst 0, 1) := by decide +kernel
theorem dX9_sold_40 : decode cX9_sold 40 = .ok (.istore 6, 2) := by decide +kernel
theorem dX9_sold_42 : decode cX9_sold 42 = .ok (.iconst 0, 1) := by decide +kernel
theorem dX9_sold_43 : decode cX9_sold 43 = .ok (.istore 7, 2) := by decide +kernel
theorem dX9_sold_45 : decode cX9_sold 45 = .ok (.iload 7, 2) := by decide +kernel
theorem dX9_sold_47 : decode cX9_sold 47 = .ok (.iload_n 3, 1) := by decide +kernel
theorem dX9_sold_48 : decode cX9_sold 48 = .ok (.if_icmp .ge 41, 3) := by decide +kernel
theorem dX9_sold_51 : decode cX9_sold 51 = .ok (.lload 4, 2) := by decide +kernel
theorem dX9_sold_53 : decode cX9_sold 53 = .ok (.invokestatic 258, 3) := by decide +kernel
theorem dX9_sold_56 : decode cX9_sold 56 = .ok (.lstore 4, 2) := by decide +kernel
theorem dX9_sold_58 : decode cX9_sold 58 = .ok (.iload 6, 2) := by decide +kernel
theorem dX9_sold_60 : decode cX9_sold 60 = .ok (.aload_n 0, 1) := by decide +kernel
theorem dX9_sold_61 : decode cX9_sold 61 = .ok (.getfield 35, 3) := by decide +kernel
theorem dX9_sold_64 : decode cX9_sold 64 = .ok (.iload_n 1, 1) := by decide +kernel
theorem dX9_sold_65 : decode cX9_sold 65 = .ok (.lload 4, 2) := by decide +kernel
theorem dX9_sold_67 : decode cX9_sold 67 = .ok (.aload_n 0, 1) := by decide +kernel
theorem dX9_sold_68 : decode cX9_sold 68 = .ok (.getfield 35, 3) := by decide +kernel
theorem dX9_sold_71 : decode cX9_sold 71 = .ok (.getfield 155, 3) := by decide +kernel
theorem dX9_sold_74 : decode cX9_sold 74 = .ok (.invokestatic 262, 3) := by decide +kernel
theorem dX9_sold_77 : decode cX9_sold 77 = .ok (.invokevirtual 141, 3) := by decide +kernel
theorem dX9_sold_80 : decode cX9_sold 80 = .ok (.iadd, 1) := by decide +kernel
theorem dX9_sold_81 : decode cX9_sold 81 = .ok (.istore 6, 2) := by decide +kernel
theorem dX9_sold_83 : decode cX9_sold 83 = .ok (.iinc 7 1, 3) := by decide +kernel
theorem dX9_sold_86 : decode cX9_sold 86 = .ok (.goto (-41), 3) := by decide +kernel
theorem dX9_sold_89 : decode cX9_sold 89 = .ok (.iload 6, 2) := by decide +kernel
theorem dX9_sold_91 : decode cX9_sold 91 = .ok (.ireturn, 1) := by decide +kernel
theorem hd_yX9_sold : yX9_sold.cls = RX9 ∧ yX9_sold.cls ≠ "java/lang/invoke/MethodHandle" ∧ yX9_sold.cls ≠ "java/lang/invoke/VarHandle" ∧ (parseMethodDescriptor yX9_sold.desc).map (fun d => d.parameters.length) = some 3 := by decide +kernel
def uX9_sold : List Cond := List.cons (.code yX9_sold cX9_sold 8 (some .int)) (HAppend.hAppend ([.fieldLink RX9 35 "LuckyTicket" "current" "LLuckyTicket$Roll;", .methodLink RX9 149 yX2_hasLaw, .instanceMethod yX2_hasLaw, .selects RX2 yX2_hasLaw yX2_hasLaw, .initialized RX2, .constant RX9 257 (2000000000), .methodLink RX9 158 yX9_isWithin, .static yX9_isWithin, .initialized RX9, .methodLink RX9 258 yX9_stirred, .static yX9_stirred, .methodLink RX9 262 yX9_drawOf, .static yX9_drawOf, .methodLink RX9 141 yX2_luckBit, .instanceMethod yX2_luckBit, .selects RX2 yX2_luckBit yX2_luckBit] : List Cond) (HAppend.hAppend uX2_hasLaw (HAppend.hAppend uX9_isWithin (HAppend.hAppend uX9_stirred (HAppend.hAppend uX9_drawOf (HAppend.hAppend uX2_luckBit (HAppend.hAppend wsX90 wsX20)))))))
theorem iX9_sold_X9 : ∀ w ∈ wsX90, w ∈ uX9_sold := fun _ h => (List.mem_cons_of_mem _ (List.mem_append_right _ (List.mem_append_right _ (List.mem_append_right _ (List.mem_append_right _ (List.mem_append_right _ (List.mem_append_right _ (List.mem_append_left _ h))))))))
theorem iX9_sold_X2 : ∀ w ∈ wsX20, w ∈ uX9_sold := fun _ h => (List.mem_cons_of_mem _ (List.mem_append_right _ (List.mem_append_right _ (List.mem_append_right _ (List.mem_append_right _ (List.mem_append_right _ (List.mem_append_right _ (List.mem_append_right _ h))))))))
theorem guX9_sold : GU uX9_sold := gu_cons (gu_app (by decide +kernel) (gu_ap guX2_hasLaw (gu_ap guX9_isWithin (gu_ap guX9_stirred (gu_ap guX9_drawOf (gu_ap guX2_luckBit (gu_ap gws_X9 gws_X2)))))))
theorem gX9_sold__X2_hasLaw_V149 : GoodIn uX9_sold (wsV RX9 149 RX2 yX2_hasLaw uX2_hasLaw) := gin_V (List.mem_of_getElem? (i := 2) rfl) (List.mem_of_getElem? (i := 3) rfl) (List.mem_of_getElem? (i := 4) rfl) (List.mem_of_getElem? (i := 5) rfl) (fun _ h => (List.mem_cons_of_mem _ (List.mem_append_right _ (List.mem_append_left _ h)))) guX2_hasLaw
theorem gX9_sold__X9_isWithin_S158 : GoodIn uX9_sold (va_wsS RX9 158 yX9_isWithin uX9_isWithin) := gin_S (List.mem_of_getElem? (i := 7) rfl) (List.mem_of_getElem? (i := 8) rfl) (List.mem_of_getElem? (i := 9) rfl) (fun _ h => (List.mem_cons_of_mem _ (List.mem_append_right _ (List.mem_append_right _ (List.mem_append_left _ h))))) guX9_isWithin
theorem gX9_sold__X9_stirred_S258 : GoodIn uX9_sold (va_wsS RX9 258 yX9_stirred uX9_stirred) := gin_S (List.mem_of_getElem? (i := 10) rfl) (List.mem_of_getElem? (i := 11) rfl) (List.mem_of_getElem? (i := 9) rfl) (fun _ h => (List.mem_cons_of_mem _ (List.mem_append_right _ (List.mem_append_right _ (List.mem_append_right _ (List.mem_append_left _ h)))))) guX9_stirred
theorem gX9_sold__X9_drawOf_S262 : GoodIn uX9_sold (va_wsS RX9 262 yX9_drawOf uX9_drawOf) := gin_S (List.mem_of_getElem? (i := 12) rfl) (List.mem_of_getElem? (i := 13) rfl) (List.mem_of_getElem? (i := 9) rfl) (fun _ h => (List.mem_cons_of_mem _ (List.mem_append_right _ (List.mem_append_right _ (List.mem_append_right _ (List.mem_append_right _ (List.mem_append_left _ h))))))) guX9_drawOf
theorem gX9_sold__X2_luckBit_V141 : GoodIn uX9_sold (wsV RX9 141 RX2 yX2_luckBit uX2_luckBit) := gin_V (List.mem_of_getElem? (i := 14) rfl) (List.mem_of_getElem? (i := 15) rfl) (List.mem_of_getElem? (i := 16) rfl) (List.mem_of_getElem? (i := 5) rfl) (fun _ h => (List.mem_cons_of_mem _ (List.mem_append_right _ (List.mem_append_right _ (List.mem_append_right _ (List.mem_append_right _ (List.mem_append_right _ (List.mem_append_left _ h)))))))) guX2_luckBit
set_option maxHeartbeats 4000000 in
set_option maxRecDepth 100000 in
theorem kX9_sold (l : Launch) (dC : Nat → ClassId) (dI : Nat → Nat → Nat) (h0 : Nat) (tp : Nat) (sc : Nat) (rd : Nat) (cu : Nat) (im : Nat) (ig : Nat) (sl : Nat) (se : Nat) (sm : Nat) (fc : Nat) (ln : Int32) (bs : Int32) (tk : Int32) (lw : Int32) (li : Int32) (fa : Nat) (lu : Nat) (cL : ClassId) (nl : Nat) (fl : Nat → Int32) (a1 : Int32) (a2 : Int32) (a3 : Int32) (b_ln : (0 : Int) ≤ ln.toInt ∧ ln.toInt ≤ 12) (b_bs : (0 : Int) ≤ bs.toInt ∧ bs.toInt ≤ 16) (b_tk : (0 : Int) ≤ tk.toInt ∧ tk.toInt ≤ 20000) (b_lw : (0 : Int) ≤ lw.toInt ∧ lw.toInt ≤ 9) (hl1 : tk.toInt ≤ (nl : Int)) : Met l yX9_sold uX9_sold ({ frames := 2, cells := 0, slots := 0, locals := 43 }) (va_Pc [.ref h0, .int a1, .int a2, .int a3] (pw (dC, dI) vwCl [(h0, .inr (7, [.ref tp, .ref sc, .ref rd, .ref cu, .ref im, .ref ig, .ref sl, .ref se, .ref sm, .ref fc])), (cu, .inr (1, [.int ln, .int bs, .int tk, .int lw, .int li, .ref fa, .ref lu])), (lu, .inl (cL, nl, .inl fl))] [(cL, .int)])) (vp_Si (fun r => True)) 0 0 (fun _ => False) := by
  refine Met.ofW (cc := cX9_sold) (maxL := 8) (ret := (some .int)) pn_X9 rfl ?_
  intro p e s m args below meth c s₁ B hml hv
  obtain ⟨rfl, hP, hK, hN⟩ := hv
  have hx := B.exec
  have hb := B.bytes
  have hr := B.returns
  have hts := atoms_spec (ws := uX9_sold) B.pre
  have hown : s.vm.findClass RX9 = some m.cls := hown_of B.named rfl
  have hlocks := B.notSynchronized
  have hl := lv_entry ([.ref h0, .int a1, .int a2, .int a3]) (n := 8) (Nat.le_of_ble_eq_true rfl)
  rw [lg_entry_eq]
  generalize (lg_sl ([.ref h0, .int a1, .int a2, .int a3]) ++ List.replicate (8 - (lg_sl ([.ref h0, .int a1, .int a2, .int a3])).length) Slot.unset).toArray = ls at hl ⊢
  have hl : lv_has ls 8 [(0, .ref h0), (1, .int a1), (2, .int a2), (3, .int a3)] := hl
  refine lv_aload_n hx hb dX9_sold_0 rfl (lv_at hl 0 rfl) ?_
  refine va_get (D := (dC, dI)) (ci := 7) (v := .ref cu) (C := RX9) (T := TX9) (N := 10) hx hb hts iX9_sold_X9 hown hK hP 0 rfl rfl 3 (by decide) (hts (.fieldLink RX9 35 "LuckyTicket" "current" "LLuckyTicket$Roll;") (List.mem_of_getElem? (i := 1) rfl)) (fun _ h9 => h9) rfl dX9_sold_1 ?_
  refine lv_iload_n hx hb dX9_sold_4 rfl (lv_at hl 1 rfl) ?_
  refine vp_callSi (W.runV (As := [.int a1]) (rest := []) ⟨hx, hb, hml, hown, hts⟩ (kX2_hasLaw l dC dI cu ln bs tk lw li fa lu a1 b_ln b_bs b_tk b_lw) (cwV 1 hts gX9_sold__X2_hasLaw_V149 rfl rfl rfl hd_yX2_hasLaw ⟨lel 1 2 rfl, lel 21 43 rfl⟩) ⟨pw_fb, rcv_X2 hK hP (q0 := 1) rfl, (pw_use hP hK hN [1] rfl [] rfl)⟩ rfl rfl hl.1 rfl (lv_room (Nat.le_of_ble_eq_true rfl)) dX9_sold_5 ⟨lel 0 0 rfl, lel 0 0 rfl⟩) (fun r_116 h_r_116 => ?_)
  obtain ⟨b_r_116, nz_r_116⟩ := h_r_116
  have b_r_116 : (0 : Int) ≤ r_116.toInt ∧ r_116.toInt ≤ 1 := b_r_116
  refine lv_if_eq (tgt := 32) hx hb dX9_sold_8 (by decide) (fun c_117 => ?_) (fun c_117 => ?_)
  ·
    have n_c_117 : (r_116.toInt : Int) = 0 := c_eq rfl (by decide) c_117
    have b_r_116 : (0 : Int) ≤ r_116.toInt ∧ r_116.toInt ≤ 0 := r_eq1 b_r_116 (by decide : (0 : Int) ≤ (0 : Int32).toInt ∧ (0 : Int32).toInt ≤ 0) n_c_117 (by decide)
    refine lv_bipush (v := (-2)) hx hb dX9_sold_32 (by decide) ?_
    exact W.iret (v := (-2)) hx hb hr (fun t ht hW => ⟨(-2), rfl, trivial, ht⟩) t_nil dX9_sold_34
  ·
    have n_c_117 : (r_116.toInt : Int) ≠ 0 := c_ne rfl (by decide) c_117
    have b_r_116 : (1 : Int) ≤ r_116.toInt ∧ r_116.toInt ≤ 1 := r_ne1 b_r_116 (by decide : (0 : Int) ≤ (0 : Int32).toInt ∧ (0 : Int32).toInt ≤ 0) n_c_117 (by decide)
    obtain ⟨b_a1, g_118⟩ := nz_r_116 c_117
    refine lv_iload_n hx hb dX9_sold_11 rfl (lv_at hl 2 rfl) ?_
    refine lv_iconst (v := 0) hx hb dX9_sold_12 (by decide) ?_
    refine lv_ldcw (v := 2000000000) hx hb hown (hts (.constant RX9 257 (2000000000)) (List.mem_of_getElem? (i := 6) rfl)) dX9_sold_13 ?_
    refine vp_callSi (W.runS (As := [.int a2, .int 0, .int 2000000000]) (rest := []) ⟨hx, hb, hml, hown, hts⟩ (kX9_isWithin l dC dI a2 0 2000000000 ) (va_cwS 3 hts gX9_sold__X9_isWithin_S158 rfl rfl rfl hd_yX9_isWithin.2 ⟨lel 1 2 rfl, lel 22 43 rfl⟩) ⟨pn_fb, pn_use⟩ rfl rfl hl.1 rfl (lv_room (Nat.le_of_ble_eq_true rfl)) dX9_sold_16 ⟨lel 0 0 rfl, lel 0 0 rfl⟩) (fun r_119 h_r_119 => ?_)
    obtain ⟨b_r_119, nz_r_119⟩ := h_r_119
    have b_r_119 : (0 : Int) ≤ r_119.toInt ∧ r_119.toInt ≤ 1 := b_r_119
    refine lv_if_eq (tgt := 32) hx hb dX9_sold_19 (by decide) (fun c_120 => ?_) (fun c_120 => ?_)
    ·
      have n_c_120 : (r_119.toInt : Int) = 0 := c_eq rfl (by decide) c_120
      have b_r_119 : (0 : Int) ≤ r_119.toInt ∧ r_119.toInt ≤ 0 := r_eq1 b_r_119 (by decide : (0 : Int) ≤ (0 : Int32).toInt ∧ (0 : Int32).toInt ≤ 0) n_c_120 (by decide)
      refine lv_bipush (v := (-2)) hx hb dX9_sold_32 (by decide) ?_
      exact W.iret (v := (-2)) hx hb hr (fun t ht hW => ⟨(-2), rfl, trivial, ht⟩) t_nil dX9_sold_34
    ·
      have n_c_120 : (r_119.toInt : Int) ≠ 0 := c_ne rfl (by decide) c_120
      have b_r_119 : (1 : Int) ≤ r_119.toInt ∧ r_119.toInt ≤ 1 := r_ne1 b_r_119 (by decide : (0 : Int) ≤ (0 : Int32).toInt ∧ (0 : Int32).toInt ≤ 0) n_c_120 (by decide)
      have g_121 := nz_r_119 c_120
      have lt0_g_121 := (by decide : (0 : Int32).toInt = 0)
      have lt1_g_121 := (by decide : (2000000000 : Int32).toInt = 2000000000)
      have b_a2 : (0 : Int) ≤ a2.toInt ∧ a2.toInt ≤ 2000000000 := by
        have q0 := (ti_rng a2)
        have q1 := (by decide : (0 : Int) ≤ (0 : Int32).toInt ∧ (0 : Int32).toInt ≤ 0)
        have q2 := (by decide : (2000000000 : Int) ≤ (2000000000 : Int32).toInt ∧ (2000000000 : Int32).toInt ≤ 2000000000)
        omega
      refine lv_iload_n hx hb dX9_sold_22 rfl (lv_at hl 3 rfl) ?_
      refine lv_iconst (v := 1) hx hb dX9_sold_23 (by decide) ?_
      refine lv_bipush (v := 60) hx hb dX9_sold_24 (by decide) ?_
      refine vp_callSi (W.runS (As := [.int a3, .int 1, .int 60]) (rest := []) ⟨hx, hb, hml, hown, hts⟩ (kX9_isWithin l dC dI a3 1 60 ) (va_cwS 3 hts gX9_sold__X9_isWithin_S158 rfl rfl rfl hd_yX9_isWithin.2 ⟨lel 1 2 rfl, lel 22 43 rfl⟩) ⟨pn_fb, pn_use⟩ rfl rfl hl.1 rfl (lv_room (Nat.le_of_ble_eq_true rfl)) dX9_sold_26 ⟨lel 0 0 rfl, lel 0 0 rfl⟩) (fun r_122 h_r_122 => ?_)
      obtain ⟨b_r_122, nz_r_122⟩ := h_r_122
      have b_r_122 : (0 : Int) ≤ r_122.toInt ∧ r_122.toInt ≤ 1 := b_r_122
      refine lv_if_ne (tgt := 35) hx hb dX9_sold_29 (by decide) (fun c_123 => ?_) (fun c_123 => ?_)
      ·
        have n_c_123 : (r_122.toInt : Int) ≠ 0 := c_ne rfl (by decide) c_123
        have b_r_122 : (1 : Int) ≤ r_122.toInt ∧ r_122.toInt ≤ 1 := r_ne1 b_r_122 (by decide : (0 : Int) ≤ (0 : Int32).toInt ∧ (0 : Int32).toInt ≤ 0) n_c_123 (by decide)
        have g_124 := nz_r_122 c_123
        have lt0_g_124 := (by decide : (1 : Int32).toInt = 1)
        have lt1_g_124 := (by decide : (60 : Int32).toInt = 60)
        have b_a3 : (1 : Int) ≤ a3.toInt ∧ a3.toInt ≤ 60 := by
          have q0 := (ti_rng a3)
          have q1 := (by decide : (1 : Int) ≤ (1 : Int32).toInt ∧ (1 : Int32).toInt ≤ 1)
          have q2 := (by decide : (60 : Int) ≤ (60 : Int32).toInt ∧ (60 : Int32).toInt ≤ 60)
          omega
        refine lv_iload_n hx hb dX9_sold_35 rfl (lv_at hl 2 rfl) ?_
        obtain ⟨z_125, e_z_125⟩ : ∃ y : Int64, y = a2.toInt64 := ⟨_, rfl⟩
        refine lv_i2l (v := z_125) hx hb dX9_sold_36 e_z_125.symm ?_
        obtain ⟨q_z_125, b_z_125⟩ := ti_i2l e_z_125 b_a2
        refine lv_lstore (lv' := [(4, .long z_125), (0, .ref h0), (1, .int a1), (2, .int a2), (3, .int a3)]) hx hb dX9_sold_37 hl (by decide) rfl (fun ls hl => ?_)
        refine lv_iconst (v := 0) hx hb dX9_sold_39 (by decide) ?_
        refine lv_istore (lv' := [(6, .int 0), (4, .long z_125), (0, .ref h0), (1, .int a1), (2, .int a2), (3, .int a3)]) hx hb dX9_sold_40 hl (by decide) rfl (fun ls hl => ?_)
        refine lv_iconst (v := 0) hx hb dX9_sold_42 (by decide) ?_
        refine lv_istore (lv' := [(7, .int 0), (6, .int 0), (4, .long z_125), (0, .ref h0), (1, .int a1), (2, .int a2), (3, .int a3)]) hx hb dX9_sold_43 hl (by decide) rfl (fun ls hl => ?_)
        refine loopP (σ := Int32 × Int32 × Int64) (fun v => (60 - v.1.toInt).toNat) (fun v ls => ((0 : Int) ≤ v.1.toInt ∧ v.1.toInt ≤ 60) ∧ lv_has ls 8 [(7, .int v.1), (6, .int v.2.1), (4, .long v.2.2), (0, .ref h0), (1, .int a1), (2, .int a2), (3, .int a3)]) (fun v ls hI ih_45_224 => ?_) ((0 : Int32), (0 : Int32), z_125) ⟨(show (0 : Int) ≤ (0 : Int32).toInt ∧ (0 : Int32).toInt ≤ 60 from (rg_w (by decide : (0 : Int) ≤ (0 : Int32).toInt ∧ (0 : Int32).toInt ≤ 0) (by decide) (by decide))), lv_sub hl [0, 1, 2, 3, 4, 5, 6] rfl⟩
        obtain ⟨y_132, y_133, y_134⟩ := v
        obtain ⟨b_y_132, hl⟩ := hI
        have b_y_132 : (0 : Int) ≤ y_132.toInt ∧ y_132.toInt ≤ 60 := b_y_132
        have hl : lv_has ls 8 [(7, .int y_132), (6, .int y_133), (4, .long y_134), (0, .ref h0), (1, .int a1), (2, .int a2), (3, .int a3)] := hl
        refine lv_iload hx hb dX9_sold_45 (lv_at hl 0 rfl) ?_
        refine lv_iload_n hx hb dX9_sold_47 rfl (lv_at hl 6 rfl) ?_
        refine lv_icmp_ge (tgt := 89) hx hb dX9_sold_48 (by decide) (fun c_225 => ?_) (fun c_225 => ?_)
        ·
          have n_c_225 : (a3.toInt : Int) ≤ y_132.toInt := c_ge rfl rfl c_225
          have b_y_132 : (1 : Int) ≤ y_132.toInt ∧ y_132.toInt ≤ 60 := r_le2 b_a3 b_y_132 n_c_225 (by decide)
          refine lv_iload hx hb dX9_sold_89 (lv_at hl 1 rfl) ?_
          exact W.iret (v := y_133) hx hb hr (fun t ht hW => ⟨y_133, rfl, trivial, ht⟩) t_nil dX9_sold_91
        ·
          have n_c_225 : (y_132.toInt : Int) < a3.toInt := c_nge rfl rfl c_225
          have b_y_132 : (0 : Int) ≤ y_132.toInt ∧ y_132.toInt ≤ 59 := r_lt1 b_y_132 b_a3 n_c_225 (by decide)
          refine lv_lload hx hb dX9_sold_51 (lv_at hl 2 rfl) ?_
          refine vp_callSl (W.runS (As := [.long y_134]) (rest := []) ⟨hx, hb, hml, hown, hts⟩ (kX9_stirred l dC dI y_134 ) (va_cwS 1 hts gX9_sold__X9_stirred_S258 rfl rfl rfl hd_yX9_stirred.2 ⟨lel 1 2 rfl, lel 21 43 rfl⟩) ⟨pn_fb, pn_use⟩ rfl rfl hl.1 rfl (lv_room (Nat.le_of_ble_eq_true rfl)) dX9_sold_53 ⟨lel 0 0 rfl, lel 0 0 rfl⟩) (fun r_226 h_r_226 => ?_)
          refine lv_lstore (lv' := [(4, .long r_226), (7, .int y_132), (6, .int y_133), (0, .ref h0), (1, .int a1), (2, .int a2), (3, .int a3)]) hx hb dX9_sold_56 hl (by decide) rfl (fun ls hl => ?_)
          refine lv_iload hx hb dX9_sold_58 (lv_at hl 2 rfl) ?_
          refine lv_aload_n hx hb dX9_sold_60 rfl (lv_at hl 3 rfl) ?_
          refine va_get (D := (dC, dI)) (ci := 7) (v := .ref cu) (C := RX9) (T := TX9) (N := 10) hx hb hts iX9_sold_X9 hown hK hP 0 rfl rfl 3 (by decide) (hts (.fieldLink RX9 35 "LuckyTicket" "current" "LLuckyTicket$Roll;") (List.mem_of_getElem? (i := 1) rfl)) (fun _ h9 => h9) rfl dX9_sold_61 ?_
          refine lv_iload_n hx hb dX9_sold_64 rfl (lv_at hl 4 rfl) ?_
          refine lv_lload hx hb dX9_sold_65 (lv_at hl 0 rfl) ?_
          refine lv_aload_n hx hb dX9_sold_67 rfl (lv_at hl 3 rfl) ?_
          refine va_get (D := (dC, dI)) (ci := 7) (v := .ref cu) (C := RX9) (T := TX9) (N := 10) hx hb hts iX9_sold_X9 hown hK hP 0 rfl rfl 3 (by decide) (hts (.fieldLink RX9 35 "LuckyTicket" "current" "LLuckyTicket$Roll;") (List.mem_of_getElem? (i := 1) rfl)) (fun _ h9 => h9) rfl dX9_sold_68 ?_
          refine va_getN (own := RX9) (index := 155) (ref := RX2) (host := RX9) (D := (dC, dI)) (ci := 1) (v := .int tk) (C := RX2) (T := TX2) (N := 7) hx hb hts iX9_sold_X2 hown hK hP 1 rfl rfl 2 (by decide) (va_Nw.use rfl (hN _ (List.mem_of_getElem? (i := 18) rfl))) (fun _ h9 => h9) rfl dX9_sold_71 ?_
          refine vp_callSi (W.runS (As := [.long r_226, .int tk]) (rest := [.int a1, .ref cu, .int y_133]) ⟨hx, hb, hml, hown, hts⟩ (kX9_drawOf l dC dI r_226 tk ) (va_cwS 2 hts gX9_sold__X9_drawOf_S262 rfl rfl rfl hd_yX9_drawOf.2 ⟨lel 1 2 rfl, lel 22 43 rfl⟩) ⟨pn_fb, pn_use⟩ rfl rfl hl.1 rfl (lv_room (Nat.le_of_ble_eq_true rfl)) dX9_sold_74 ⟨lel 0 0 rfl, lel 0 0 rfl⟩) (fun r_227 h_r_227 => ?_)
          refine vp_callSi (W.runV (As := [.int a1, .int r_227]) (rest := [.int y_133]) ⟨hx, hb, hml, hown, hts⟩ (kX2_luckBit l dC dI cu ln bs tk lw li fa lu cL nl fl a1 r_227 b_ln b_bs b_tk b_lw (by omega)) (cwV 2 hts gX9_sold__X2_luckBit_V141 rfl rfl rfl hd_yX2_luckBit ⟨lel 2 2 rfl, lel 43 43 rfl⟩) ⟨pw_fb, rcv_X2 hK hP (q0 := 1) rfl, (pw_use hP hK hN [1, 2] rfl [0] rfl)⟩ rfl rfl hl.1 rfl (lv_room (Nat.le_of_ble_eq_true rfl)) dX9_sold_77 ⟨lel 0 0 rfl, lel 0 0 rfl⟩) (fun r_228 h_r_228 => ?_)
          have b_r_228 := h_r_228
          have b_r_228 : (0 : Int) ≤ r_228.toInt ∧ r_228.toInt ≤ 1 := b_r_228
          refine lv_iadd hx hb dX9_sold_80 ?_
          refine lv_topi (fun z_229 e_z_229 => ?_)
          refine lv_istore (lv' := [(6, .int z_229), (4, .long r_226), (7, .int y_132), (0, .ref h0), (1, .int a1), (2, .int a2), (3, .int a3)]) hx hb dX9_sold_81 hl (by decide) rfl (fun ls hl => ?_)
          obtain ⟨z_230, e_z_230⟩ : ∃ y : Int32, y = y_132 + 1 := ⟨_, rfl⟩
          refine lv_iinc (v := z_230) (lv' := [(7, .int z_230), (6, .int z_229), (4, .long r_226), (0, .ref h0), (1, .int a1), (2, .int a2), (3, .int a3)]) hx hb dX9_sold_83 hl (k := 2) rfl (by rw [e_z_230]; rfl) (by decide) rfl (fun ls hl => ?_)
          obtain ⟨q_z_230, b_z_230⟩ := ti_add (lo := 1) (hi := 60) e_z_230 rfl (by decide : (1 : Int32).toInt = 1) b_y_132 (by decide : (1 : Int) ≤ (1 : Int32).toInt ∧ (1 : Int32).toInt ≤ 1) (by decide)
          refine lv_goto (tgt := 45) hx hb dX9_sold_86 (by decide) ?_
          exact ih_45_224 (z_230, z_229, r_226) _ ⟨(show (0 : Int) ≤ z_230.toInt ∧ z_230.toInt ≤ 60 from (rg_w b_z_230 (by decide) (by decide))), lv_sub hl [0, 1, 2, 3, 4, 5, 6] rfl⟩ (show (60 - z_230.toInt).toNat < (60 - y_132.toInt).toNat by omega)
      ·
        have n_c_123 : (r_122.toInt : Int) = 0 := c_eq rfl (by decide) c_123
        have b_r_122 : (0 : Int) ≤ r_122.toInt ∧ r_122.toInt ≤ 0 := r_eq1 b_r_122 (by decide : (0 : Int) ≤ (0 : Int32).toInt ∧ (0 : Int32).toInt ≤ 0) n_c_123 (by decide)
        refine lv_bipush (v := (-2)) hx hb dX9_sold_32 (by decide) ?_
        exact W.iret (v := (-2)) hx hb hr (fun t ht hW => ⟨(-2), rfl, trivial, ht⟩) t_nil dX9_sold_34
theorem dX9_first_0 : decode cX9_first 0 = .ok (.aload_n 0, 1) := by decide +kernel
theorem dX9_first_1 : decode cX9_first 1 = .ok (.getfield 35, 3) := by decide +kernel
theorem dX9_first_4 : decode cX9_first 4 = .ok (.iload_n 1, 1) := by decide +kernel
theorem dX9_first_5 : decode cX9_first 5 = .ok (.invokevirtual 149, 3) := by decide +kernel
theorem dX9_first_8 : decode cX9_first 8 = .ok (.ifCond .eq 24, 3) := by decide +kernel
theorem dX9_first_11 : decode cX9_first 11 = .ok (.iload_n 2, 1) := by decide +kernel
theorem dX9_first_12 : decode cX9_first 12 = .ok (.iconst 0, 1) := by decide +kernel
theorem dX9_first_13 : decode cX9_first 13 = .ok (.ldc_w 257, 3) := by decide +kernel
theorem dX9_first_16 : decode cX9_first 16 = .ok (.invokestatic 158, 3) := by decide +kernel
theorem dX9_first_19 : decode cX9_first 19 = .ok (.ifCond .eq 13, 3) := by decide +kernel
theorem dX9_first_22 : decode cX9_first 22 = .ok (.iload_n 3, 1) := by decide +kernel
theorem dX9_first_23 : decode cX9_first 23 = .ok (.iconst 1, 1) := by decide +kernel
theorem dX9_first_24 : decode cX9_first 24 = .ok (.bipush 60, 2) := by decide +kernel
theorem dX9_first_26 : decode cX9_first 26 = .ok (.invokestatic 158, 3) := by decide +kernel
theorem dX9_first_29 : decode cX9_first 29 = .ok (.ifCond .ne 6, 3) := by decide +kernel
theorem dX9_first_32 : decode cX9_first 32 = .ok (.bipush (-2), 2) := by decide +kernel
theorem dX9_first_34 : decode cX9_first 34 = .ok (.ireturn, 1) := by decide +kernel
theorem dX9_first_35 : decode cX9_first 35 = .ok (.iload_n 2, 1) := by decide +kernel
theorem dX9_first_36 : decode cX9_first 36 = .ok (.i2l, 1) := by decide +kernel
theorem dX9_first_37 : decode cX9_first 37 = .ok (.lstore 4, 2) := by decide +kernel
theorem dX9_first_39 : decode cX9_first 39 = .ok (.iconst 1, 1) := by decide +kernel
theorem dX9_first_40 : decode cX9_first 40 = .ok (.istore 6, 2) := by decide +kernel
theorem dX9_first_42 : decode cX9_first 42 = .ok (.iload 6, 2) := by decide +kernel
theorem dX9_first_44 : decode cX9_first 44 = .ok (.iload_n 3, 1) := by decide +kernel
theorem dX9_first_45 : decode cX9_first 45 = .ok (.if_icmp .gt 42, 3) := by decide +kernel
theorem dX9_first_48 : decode cX9_first 48 = .ok (.lload 4, 2) := by decide +kernel
theorem dX9_first_50 : decode cX9_first 50 = .ok (.invokestatic 258, 3) := by decide +kernel
theorem dX9_first_53 : decode cX9_first 53 = .ok (.lstore 4, 2) := by decide +kernel
theorem dX9_first_55 : decode cX9_first 55 = .ok (.aload_n 0, 1) := by decide +kernel
theorem dX9_first_56 : decode cX9_first 56 = .ok (.getfield 35, 3) := by decide +kernel
theorem dX9_first_59 : decode cX9_first 59 = .ok (.iload_n 1, 1) := by decide +kernel
theorem dX9_first_60 : decode cX9_first 60 = .ok (.lload 4, 2) := by decide +kernel
theorem dX9_first_62 : decode cX9_first 62 = .ok (.aload_n 0, 1) := by decide +kernel
theorem dX9_first_63 : decode cX9_first 63 = .ok (.getfield 35, 3) := by decide +kernel
theorem dX9_first_66 : decode cX9_first 66 = .ok (.getfield 155, 3) := by decide +kernel
theorem dX9_first_69 : decode cX9_first 69 = .ok (.invokestatic 262, 3) := by decide +kernel
theorem dX9_first_72 : decode cX9_first 72 = .ok (.invokevirtual 175, 3) := by decide +kernel
theorem dX9_first_75 : decode cX9_first 75 = .ok (.ifCond .eq 6, 3) := by decide +kernel
theorem dX9_first_78 : decode cX9_first 78 = .ok (.iload 6, 2) := by decide +kernel
theorem dX9_first_80 : decode cX9_first 80 = .ok (.ireturn, 1) := by decide +kernel
theorem dX9_first_81 : decode cX9_first 81 = .ok (.iinc 6 1, 3) := by decide +kernel
theorem dX9_first_84 : decode cX9_first 84 = .ok (.goto (-42), 3) := by decide +kernel
theorem dX9_first_87 : decode cX9_first 87 = .ok (.iconst (-1), 1) := by decide +kernel
theorem dX9_first_88 : decode cX9_first 88 = .ok (.ireturn, 1) := by decide +kernel
theorem hd_yX9_first : yX9_first.cls = RX9 ∧ yX9_first.cls ≠ "java/lang/invoke/MethodHandle" ∧ yX9_first.cls ≠ "java/lang/invoke/VarHandle" ∧ (parseMethodDescriptor yX9_first.desc).map (fun d => d.parameters.length) = some 3 := by decide +kernel
def uX9_first : List Cond := List.cons (.code yX9_first cX9_first 7 (some .int)) (HAppend.hAppend ([.fieldLink RX9 35 "LuckyTicket" "current" "LLuckyTicket$Roll;", .methodLink RX9 149 yX2_hasLaw, .instanceMethod yX2_hasLaw, .selects RX2 yX2_hasLaw yX2_hasLaw, .initialized RX2, .constant RX9 257 (2000000000), .methodLink RX9 158 yX9_isWithin, .static yX9_isWithin, .initialized RX9, .methodLink RX9 258 yX9_stirred, .static yX9_stirred, .methodLink RX9 262 yX9_drawOf, .static yX9_drawOf, .methodLink RX9 175 yX2_isLucky, .instanceMethod yX2_isLucky, .selects RX2 yX2_isLucky yX2_isLucky] : List Cond) (HAppend.hAppend uX2_hasLaw (HAppend.hAppend uX9_isWithin (HAppend.hAppend uX9_stirred (HAppend.hAppend uX9_drawOf (HAppend.hAppend uX2_isLucky (HAppend.hAppend wsX90 wsX20)))))))
theorem iX9_first_X9 : ∀ w ∈ wsX90, w ∈ uX9_first := fun _ h => (List.mem_cons_of_mem _ (List.mem_append_right _ (List.mem_append_right _ (List.mem_append_right _ (List.mem_append_right _ (List.mem_append_right _ (List.mem_append_right _ (List.mem_append_left _ h))))))))
theorem iX9_first_X2 : ∀ w ∈ wsX20, w ∈ uX9_first := fun _ h => (List.mem_cons_of_mem _ (List.mem_append_right _ (List.mem_append_right _ (List.mem_append_right _ (List.mem_append_right _ (List.mem_append_right _ (List.mem_append_right _ (List.mem_append_right _ h))))))))
theorem guX9_first : GU uX9_first := gu_cons (gu_app (by decide +kernel) (gu_ap guX2_hasLaw (gu_ap guX9_isWithin (gu_ap guX9_stirred (gu_ap guX9_drawOf (gu_ap guX2_isLucky (gu_ap gws_X9 gws_X2)))))))
theorem gX9_first__X2_hasLaw_V149 : GoodIn uX9_first (wsV RX9 149 RX2 yX2_hasLaw uX2_hasLaw) := gin_V (List.mem_of_getElem? (i := 2) rfl) (List.mem_of_getElem? (i := 3) rfl) (List.mem_of_getElem? (i := 4) rfl) (List.mem_of_getElem? (i := 5) rfl) (fun _ h => (List.mem_cons_of_mem _ (List.mem_append_right _ (List.mem_append_left _ h)))) guX2_hasLaw
theorem gX9_first__X9_isWithin_S158 : GoodIn uX9_first (va_wsS RX9 158 yX9_isWithin uX9_isWithin) := gin_S (List.mem_of_getElem? (i := 7) rfl) (List.mem_of_getElem? (i := 8) rfl) (List.mem_of_getElem? (i := 9) rfl) (fun _ h => (List.mem_cons_of_mem _ (List.mem_append_right _ (List.mem_append_right _ (List.mem_append_left _ h))))) guX9_isWithin
theorem gX9_first__X9_stirred_S258 : GoodIn uX9_first (va_wsS RX9 258 yX9_stirred uX9_stirred) := gin_S (List.mem_of_getElem? (i := 10) rfl) (List.mem_of_getElem? (i := 11) rfl) (List.mem_of_getElem? (i := 9) rfl) (fun _ h => (List.mem_cons_of_mem _ (List.mem_append_right _ (List.mem_append_right _ (List.mem_append_right _ (List.mem_append_left _ h)))))) guX9_stirred
theorem gX9_first__X9_drawOf_S262 : GoodIn uX9_first (va_wsS RX9 262 yX9_drawOf uX9_drawOf) := gin_S (List.mem_of_getElem? (i := 12) rfl) (List.mem_of_getElem? (i := 13) rfl) (List.mem_of_getElem? (i := 9) rfl) (fun _ h => (List.mem_cons_of_mem _ (List.mem_append_right _ (List.mem_append_right _ (List.mem_append_right _ (List.mem_append_right _ (List.mem_append_left _ h))))))) guX9_drawOf
theorem gX9_first__X2_isLucky_V175 : GoodIn uX9_first (wsV RX9 175 RX2 yX2_isLucky uX2_isLucky) := gin_V (List.mem_of_getElem? (i := 14) rfl) (List.mem_of_getElem? (i := 15) rfl) (List.mem_of_getElem? (i := 16) rfl) (List.mem_of_getElem? (i := 5) rfl) (fun _ h => (List.mem_cons_of_mem _ (List.mem_append_right _ (List.mem_append_right _ (List.mem_append_right _ (List.mem_append_right _ (List.mem_append_right _ (List.mem_append_left _ h)))))))) guX2_isLucky
set_option maxHeartbeats 4000000 in
set_option maxRecDepth 100000 in
theorem kX9_first (l : Launch) (dC : Nat → ClassId) (dI : Nat → Nat → Nat) (h0 : Nat) (tp : Nat) (sc : Nat) (rd : Nat) (cu : Nat) (im : Nat) (ig : Nat) (sl : Nat) (se : Nat) (sm : Nat) (fc : Nat) (ln : Int32) (bs : Int32) (tk : Int32) (lw : Int32) (li : Int32) (fa : Nat) (lu : Nat) (cL : ClassId) (nl : Nat) (fl : Nat → Int32) (a1 : Int32) (a2 : Int32) (a3 : Int32) (b_ln : (0 : Int) ≤ ln.toInt ∧ ln.toInt ≤ 12) (b_bs : (0 : Int) ≤ bs.toInt ∧ bs.toInt ≤ 16) (b_tk : (0 : Int) ≤ tk.toInt ∧ tk.toInt ≤ 20000) (b_lw : (0 : Int) ≤ lw.toInt ∧ lw.toInt ≤ 9) (hl1 : tk.toInt ≤ (nl : Int)) : Met l yX9_first uX9_first ({ frames := 1, cells := 0, slots := 0, locals := 22 }) (va_Pc [.ref h0, .int a1, .int a2, .int a3] (pw (dC, dI) vwCl [(h0, .inr (7, [.ref tp, .ref sc, .ref rd, .ref cu, .ref im, .ref ig, .ref sl, .ref se, .ref sm, .ref fc])), (cu, .inr (1, [.int ln, .int bs, .int tk, .int lw, .int li, .ref fa, .ref lu])), (lu, .inl (cL, nl, .inl fl))] [(cL, .int)])) (vp_Si (fun r => ((-2 : Int) ≤ r.toInt ∧ r.toInt ≤ 60))) 0 0 (fun _ => False) := by
  refine Met.ofW (cc := cX9_first) (maxL := 7) (ret := (some .int)) pn_X9 rfl ?_
  intro p e s m args below meth c s₁ B hml hv
  obtain ⟨rfl, hP, hK, hN⟩ := hv
  have hx := B.exec
  have hb := B.bytes
  have hr := B.returns
  have hts := atoms_spec (ws := uX9_first) B.pre
  have hown : s.vm.findClass RX9 = some m.cls := hown_of B.named rfl
  have hlocks := B.notSynchronized
  have hl := lv_entry ([.ref h0, .int a1, .int a2, .int a3]) (n := 7) (Nat.le_of_ble_eq_true rfl)
  rw [lg_entry_eq]
  generalize (lg_sl ([.ref h0, .int a1, .int a2, .int a3]) ++ List.replicate (7 - (lg_sl ([.ref h0, .int a1, .int a2, .int a3])).length) Slot.unset).toArray = ls at hl ⊢
  have hl : lv_has ls 7 [(0, .ref h0), (1, .int a1), (2, .int a2), (3, .int a3)] := hl
  refine lv_aload_n hx hb dX9_first_0 rfl (lv_at hl 0 rfl) ?_
  refine va_get (D := (dC, dI)) (ci := 7) (v := .ref cu) (C := RX9) (T := TX9) (N := 10) hx hb hts iX9_first_X9 hown hK hP 0 rfl rfl 3 (by decide) (hts (.fieldLink RX9 35 "LuckyTicket" "current" "LLuckyTicket$Roll;") (List.mem_of_getElem? (i := 1) rfl)) (fun _ h9 => h9) rfl dX9_first_1 ?_
  refine lv_iload_n hx hb dX9_first_4 rfl (lv_at hl 1 rfl) ?_
  refine vp_callSi (W.runV (As := [.int a1]) (rest := []) ⟨hx, hb, hml, hown, hts⟩ (kX2_hasLaw l dC dI cu ln bs tk lw li fa lu a1 b_ln b_bs b_tk b_lw) (cwV 1 hts gX9_first__X2_hasLaw_V149 rfl rfl rfl hd_yX2_hasLaw ⟨lel 1 1 rfl, lel 21 22 rfl⟩) ⟨pw_fb, rcv_X2 hK hP (q0 := 1) rfl, (pw_use hP hK hN [1] rfl [] rfl)⟩ rfl rfl hl.1 rfl (lv_room (Nat.le_of_ble_eq_true rfl)) dX9_first_5 ⟨lel 0 0 rfl, lel 0 0 rfl⟩) (fun r_67 h_r_67 => ?_)
  obtain ⟨b_r_67, nz_r_67⟩ := h_r_67
  have b_r_67 : (0 : Int) ≤ r_67.toInt ∧ r_67.toInt ≤ 1 := b_r_67
  refine lv_if_eq (tgt := 32) hx hb dX9_first_8 (by decide) (fun c_68 => ?_) (fun c_68 => ?_)
  ·
    have n_c_68 : (r_67.toInt : Int) = 0 := c_eq rfl (by decide) c_68
    have b_r_67 : (0 : Int) ≤ r_67.toInt ∧ r_67.toInt ≤ 0 := r_eq1 b_r_67 (by decide : (0 : Int) ≤ (0 : Int32).toInt ∧ (0 : Int32).toInt ≤ 0) n_c_68 (by decide)
    refine lv_bipush (v := (-2)) hx hb dX9_first_32 (by decide) ?_
    exact W.iret (v := (-2)) hx hb hr (fun t ht hW => ⟨(-2), rfl, (rg_w (by decide : (-2 : Int) ≤ ((-2) : Int32).toInt ∧ ((-2) : Int32).toInt ≤ -2) (by decide) (by decide)), ht⟩) t_nil dX9_first_34
  ·
    have n_c_68 : (r_67.toInt : Int) ≠ 0 := c_ne rfl (by decide) c_68
    have b_r_67 : (1 : Int) ≤ r_67.toInt ∧ r_67.toInt ≤ 1 := r_ne1 b_r_67 (by decide : (0 : Int) ≤ (0 : Int32).toInt ∧ (0 : Int32).toInt ≤ 0) n_c_68 (by decide)
    obtain ⟨b_a1, g_69⟩ := nz_r_67 c_68
    refine lv_iload_n hx hb dX9_first_11 rfl (lv_at hl 2 rfl) ?_
    refine lv_iconst (v := 0) hx hb dX9_first_12 (by decide) ?_
    refine lv_ldcw (v := 2000000000) hx hb hown (hts (.constant RX9 257 (2000000000)) (List.mem_of_getElem? (i := 6) rfl)) dX9_first_13 ?_
    refine vp_callSi (W.runS (As := [.int a2, .int 0, .int 2000000000]) (rest := []) ⟨hx, hb, hml, hown, hts⟩ (kX9_isWithin l dC dI a2 0 2000000000 ) (va_cwS 3 hts gX9_first__X9_isWithin_S158 rfl rfl rfl hd_yX9_isWithin.2 ⟨lel 1 1 rfl, lel 22 22 rfl⟩) ⟨pn_fb, pn_use⟩ rfl rfl hl.1 rfl (lv_room (Nat.le_of_ble_eq_true rfl)) dX9_first_16 ⟨lel 0 0 rfl, lel 0 0 rfl⟩) (fun r_70 h_r_70 => ?_)
    obtain ⟨b_r_70, nz_r_70⟩ := h_r_70
    have b_r_70 : (0 : Int) ≤ r_70.toInt ∧ r_70.toInt ≤ 1 := b_r_70
    refine lv_if_eq (tgt := 32) hx hb dX9_first_19 (by decide) (fun c_71 => ?_) (fun c_71 => ?_)
    ·
      have n_c_71 : (r_70.toInt : Int) = 0 := c_eq rfl (by decide) c_71
      have b_r_70 : (0 : Int) ≤ r_70.toInt ∧ r_70.toInt ≤ 0 := r_eq1 b_r_70 (by decide : (0 : Int) ≤ (0 : Int32).toInt ∧ (0 : Int32).toInt ≤ 0) n_c_71 (by decide)
      refine lv_bipush (v := (-2)) hx hb dX9_first_32 (by decide) ?_
      exact W.iret (v := (-2)) hx hb hr (fun t ht hW => ⟨(-2), rfl, (rg_w (by decide : (-2 : Int) ≤ ((-2) : Int32).toInt ∧ ((-2) : Int32).toInt ≤ -2) (by decide) (by decide)), ht⟩) t_nil dX9_first_34
    ·
      have n_c_71 : (r_70.toInt : Int) ≠ 0 := c_ne rfl (by decide) c_71
      have b_r_70 : (1 : Int) ≤ r_70.toInt ∧ r_70.toInt ≤ 1 := r_ne1 b_r_70 (by decide : (0 : Int) ≤ (0 : Int32).toInt ∧ (0 : Int32).toInt ≤ 0) n_c_71 (by decide)
      have g_72 := nz_r_70 c_71
      have lt0_g_72 := (by decide : (0 : Int32).toInt = 0)
      have lt1_g_72 := (by decide : (2000000000 : Int32).toInt = 2000000000)
      have b_a2 : (0 : Int) ≤ a2.toInt ∧ a2.toInt ≤ 2000000000 := by
        have q0 := (ti_rng a2)
        have q1 := (by decide : (0 : Int) ≤ (0 : Int32).toInt ∧ (0 : Int32).toInt ≤ 0)
        have q2 := (by decide : (2000000000 : Int) ≤ (2000000000 : Int32).toInt ∧ (2000000000 : Int32).toInt ≤ 2000000000)
        omega
      refine lv_iload_n hx hb dX9_first_22 rfl (lv_at hl 3 rfl) ?_
      refine lv_iconst (v := 1) hx hb dX9_first_23 (by decide) ?_
      refine lv_bipush (v := 60) hx hb dX9_first_24 (by decide) ?_
      refine vp_callSi (W.runS (As := [.int a3, .int 1, .int 60]) (rest := []) ⟨hx, hb, hml, hown, hts⟩ (kX9_isWithin l dC dI a3 1 60 ) (va_cwS 3 hts gX9_first__X9_isWithin_S158 rfl rfl rfl hd_yX9_isWithin.2 ⟨lel 1 1 rfl, lel 22 22 rfl⟩) ⟨pn_fb, pn_use⟩ rfl rfl hl.1 rfl (lv_room (Nat.le_of_ble_eq_true rfl)) dX9_first_26 ⟨lel 0 0 rfl, lel 0 0 rfl⟩) (fun r_73 h_r_73 => ?_)
      obtain ⟨b_r_73, nz_r_73⟩ := h_r_73
      have b_r_73 : (0 : Int) ≤ r_73.toInt ∧ r_73.toInt ≤ 1 := b_r_73
      refine lv_if_ne (tgt := 35) hx hb dX9_first_29 (by decide) (fun c_74 => ?_) (fun c_74 => ?_)
      ·
        have n_c_74 : (r_73.toInt : Int) ≠ 0 := c_ne rfl (by decide) c_74
        have b_r_73 : (1 : Int) ≤ r_73.toInt ∧ r_73.toInt ≤ 1 := r_ne1 b_r_73 (by decide : (0 : Int) ≤ (0 : Int32).toInt ∧ (0 : Int32).toInt ≤ 0) n_c_74 (by decide)
        have g_75 := nz_r_73 c_74
        have lt0_g_75 := (by decide : (1 : Int32).toInt = 1)
        have lt1_g_75 := (by decide : (60 : Int32).toInt = 60)
        have b_a3 : (1 : Int) ≤ a3.toInt ∧ a3.toInt ≤ 60 := by
          have q0 := (ti_rng a3)
          have q1 := (by decide : (1 : Int) ≤ (1 : Int32).toInt ∧ (1 : Int32).toInt ≤ 1)
          have q2 := (by decide : (60 : Int) ≤ (60 : Int32).toInt ∧ (60 : Int32).toInt ≤ 60)
          omega
        refine lv_iload_n hx hb dX9_first_35 rfl (lv_at hl 2 rfl) ?_
        obtain ⟨z_76, e_z_76⟩ : ∃ y : Int64, y = a2.toInt64 := ⟨_, rfl⟩
        refine lv_i2l (v := z_76) hx hb dX9_first_36 e_z_76.symm ?_
        obtain ⟨q_z_76, b_z_76⟩ := ti_i2l e_z_76 b_a2
        refine lv_lstore (lv' := [(4, .long z_76), (0, .ref h0), (1, .int a1), (2, .int a2), (3, .int a3)]) hx hb dX9_first_37 hl (by decide) rfl (fun ls hl => ?_)
        refine lv_iconst (v := 1) hx hb dX9_first_39 (by decide) ?_
        refine lv_istore (lv' := [(6, .int 1), (4, .long z_76), (0, .ref h0), (1, .int a1), (2, .int a2), (3, .int a3)]) hx hb dX9_first_40 hl (by decide) rfl (fun ls hl => ?_)
        refine loopP (σ := Int32 × Int64) (fun v => (61 - v.1.toInt).toNat) (fun v ls => ((1 : Int) ≤ v.1.toInt ∧ v.1.toInt ≤ 61) ∧ lv_has ls 7 [(6, .int v.1), (4, .long v.2), (0, .ref h0), (1, .int a1), (2, .int a2), (3, .int a3)]) (fun v ls hI ih_42_126 => ?_) ((1 : Int32), z_76) ⟨(show (1 : Int) ≤ (1 : Int32).toInt ∧ (1 : Int32).toInt ≤ 61 from (rg_w (by decide : (1 : Int) ≤ (1 : Int32).toInt ∧ (1 : Int32).toInt ≤ 1) (by decide) (by decide))), lv_sub hl [0, 1, 2, 3, 4, 5] rfl⟩
        obtain ⟨y_83, y_84⟩ := v
        obtain ⟨b_y_83, hl⟩ := hI
        have b_y_83 : (1 : Int) ≤ y_83.toInt ∧ y_83.toInt ≤ 61 := b_y_83
        have hl : lv_has ls 7 [(6, .int y_83), (4, .long y_84), (0, .ref h0), (1, .int a1), (2, .int a2), (3, .int a3)] := hl
        refine lv_iload hx hb dX9_first_42 (lv_at hl 0 rfl) ?_
        refine lv_iload_n hx hb dX9_first_44 rfl (lv_at hl 5 rfl) ?_
        refine lv_icmp_gt (tgt := 87) hx hb dX9_first_45 (by decide) (fun c_127 => ?_) (fun c_127 => ?_)
        ·
          have n_c_127 : (a3.toInt : Int) < y_83.toInt := c_gt rfl rfl c_127
          have b_y_83 : (2 : Int) ≤ y_83.toInt ∧ y_83.toInt ≤ 61 := r_lt2 b_a3 b_y_83 n_c_127 (by decide)
          refine lv_iconst (v := (-1)) hx hb dX9_first_87 (by decide) ?_
          exact W.iret (v := (-1)) hx hb hr (fun t ht hW => ⟨(-1), rfl, (rg_w (by decide : (-1 : Int) ≤ ((-1) : Int32).toInt ∧ ((-1) : Int32).toInt ≤ -1) (by decide) (by decide)), ht⟩) t_nil dX9_first_88
        ·
          have n_c_127 : (y_83.toInt : Int) ≤ a3.toInt := c_ngt rfl rfl c_127
          have b_y_83 : (1 : Int) ≤ y_83.toInt ∧ y_83.toInt ≤ 60 := r_le1 b_y_83 b_a3 n_c_127 (by decide)
          refine lv_lload hx hb dX9_first_48 (lv_at hl 1 rfl) ?_
          refine vp_callSl (W.runS (As := [.long y_84]) (rest := []) ⟨hx, hb, hml, hown, hts⟩ (kX9_stirred l dC dI y_84 ) (va_cwS 1 hts gX9_first__X9_stirred_S258 rfl rfl rfl hd_yX9_stirred.2 ⟨lel 1 1 rfl, lel 21 22 rfl⟩) ⟨pn_fb, pn_use⟩ rfl rfl hl.1 rfl (lv_room (Nat.le_of_ble_eq_true rfl)) dX9_first_50 ⟨lel 0 0 rfl, lel 0 0 rfl⟩) (fun r_128 h_r_128 => ?_)
          refine lv_lstore (lv' := [(4, .long r_128), (6, .int y_83), (0, .ref h0), (1, .int a1), (2, .int a2), (3, .int a3)]) hx hb dX9_first_53 hl (by decide) rfl (fun ls hl => ?_)
          refine lv_aload_n hx hb dX9_first_55 rfl (lv_at hl 2 rfl) ?_
          refine va_get (D := (dC, dI)) (ci := 7) (v := .ref cu) (C := RX9) (T := TX9) (N := 10) hx hb hts iX9_first_X9 hown hK hP 0 rfl rfl 3 (by decide) (hts (.fieldLink RX9 35 "LuckyTicket" "current" "LLuckyTicket$Roll;") (List.mem_of_getElem? (i := 1) rfl)) (fun _ h9 => h9) rfl dX9_first_56 ?_
          refine lv_iload_n hx hb dX9_first_59 rfl (lv_at hl 3 rfl) ?_
          refine lv_lload hx hb dX9_first_60 (lv_at hl 0 rfl) ?_
          refine lv_aload_n hx hb dX9_first_62 rfl (lv_at hl 2 rfl) ?_
          refine va_get (D := (dC, dI)) (ci := 7) (v := .ref cu) (C := RX9) (T := TX9) (N := 10) hx hb hts iX9_first_X9 hown hK hP 0 rfl rfl 3 (by decide) (hts (.fieldLink RX9 35 "LuckyTicket" "current" "LLuckyTicket$Roll;") (List.mem_of_getElem? (i := 1) rfl)) (fun _ h9 => h9) rfl dX9_first_63 ?_
          refine va_getN (own := RX9) (index := 155) (ref := RX2) (host := RX9) (D := (dC, dI)) (ci := 1) (v := .int tk) (C := RX2) (T := TX2) (N := 7) hx hb hts iX9_first_X2 hown hK hP 1 rfl rfl 2 (by decide) (va_Nw.use rfl (hN _ (List.mem_of_getElem? (i := 18) rfl))) (fun _ h9 => h9) rfl dX9_first_66 ?_
          refine vp_callSi (W.runS (As := [.long r_128, .int tk]) (rest := [.int a1, .ref cu]) ⟨hx, hb, hml, hown, hts⟩ (kX9_drawOf l dC dI r_128 tk ) (va_cwS 2 hts gX9_first__X9_drawOf_S262 rfl rfl rfl hd_yX9_drawOf.2 ⟨lel 1 1 rfl, lel 22 22 rfl⟩) ⟨pn_fb, pn_use⟩ rfl rfl hl.1 rfl (lv_room (Nat.le_of_ble_eq_true rfl)) dX9_first_69 ⟨lel 0 0 rfl, lel 0 0 rfl⟩) (fun r_129 h_r_129 => ?_)
          refine vp_callSi (W.runV (As := [.int a1, .int r_129]) (rest := []) ⟨hx, hb, hml, hown, hts⟩ (kX2_isLucky l dC dI cu ln bs tk lw li fa lu cL nl fl a1 r_129 b_ln b_bs b_tk b_lw (by omega)) (cwV 2 hts gX9_first__X2_isLucky_V175 rfl rfl rfl hd_yX2_isLucky ⟨lel 1 1 rfl, lel 22 22 rfl⟩) ⟨pw_fb, rcv_X2 hK hP (q0 := 1) rfl, (pw_use hP hK hN [1, 2] rfl [0] rfl)⟩ rfl rfl hl.1 rfl (lv_room (Nat.le_of_ble_eq_true rfl)) dX9_first_72 ⟨lel 0 0 rfl, lel 0 0 rfl⟩) (fun r_130 h_r_130 => ?_)
          have b_r_130 := h_r_130
          have b_r_130 : (0 : Int) ≤ r_130.toInt ∧ r_130.toInt ≤ 1 := b_r_130
          refine lv_if_eq (tgt := 81) hx hb dX9_first_75 (by decide) (fun c_131 => ?_) (fun c_131 => ?_)
          ·
            have n_c_131 : (r_130.toInt : Int) = 0 := c_eq rfl (by decide) c_131
            have b_r_130 : (0 : Int) ≤ r_130.toInt ∧ r_130.toInt ≤ 0 := r_eq1 b_r_130 (by decide : (0 : Int) ≤ (0 : Int32).toInt ∧ (0 : Int32).toInt ≤ 0) n_c_131 (by decide)
            obtain ⟨z_132, e_z_132⟩ : ∃ y : Int32, y = y_83 + 1 := ⟨_, rfl⟩
            refine lv_iinc (v := z_132) (lv' := [(6, .int z_132), (4, .long r_128), (0, .ref h0), (1, .int a1), (2, .int a2), (3, .int a3)]) hx hb dX9_first_81 hl (k := 1) rfl (by rw [e_z_132]; rfl) (by decide) rfl (fun ls hl => ?_)
            obtain ⟨q_z_132, b_z_132⟩ := ti_add (lo := 2) (hi := 61) e_z_132 rfl (by decide : (1 : Int32).toInt = 1) b_y_83 (by decide : (1 : Int) ≤ (1 : Int32).toInt ∧ (1 : Int32).toInt ≤ 1) (by decide)
            refine lv_goto (tgt := 42) hx hb dX9_first_84 (by decide) ?_
            exact ih_42_126 (z_132, r_128) _ ⟨(show (1 : Int) ≤ z_132.toInt ∧ z_132.toInt ≤ 61 from (rg_w b_z_132 (by decide) (by decide))), lv_sub hl [0, 1, 2, 3, 4, 5] rfl⟩ (show (61 - z_132.toInt).toNat < (61 - y_83.toInt).toNat by omega)
          ·
            have n_c_131 : (r_130.toInt : Int) ≠ 0 := c_ne rfl (by decide) c_131
            have b_r_130 : (1 : Int) ≤ r_130.toInt ∧ r_130.toInt ≤ 1 := r_ne1 b_r_130 (by decide : (0 : Int) ≤ (0 : Int32).toInt ∧ (0 : Int32).toInt ≤ 0) n_c_131 (by decide)
            refine lv_iload hx hb dX9_first_78 (lv_at hl 1 rfl) ?_
            exact W.iret (v := y_83) hx hb hr (fun t ht hW => ⟨y_83, rfl, (rg_w b_y_83 (by decide) (by decide)), ht⟩) t_nil dX9_first_80
      ·
        have n_c_74 : (r_73.toInt : Int) = 0 := c_eq rfl (by decide) c_74
        have b_r_73 : (0 : Int) ≤ r_73.toInt ∧ r_73.toInt ≤ 0 := r_eq1 b_r_73 (by decide : (0 : Int) ≤ (0 : Int32).toInt ∧ (0 : Int32).toInt ≤ 0) n_c_74 (by decide)
        refine lv_bipush (v := (-2)) hx hb dX9_first_32 (by decide) ?_
        exact W.iret (v := (-2)) hx hb hr (fun t ht hW => ⟨(-2), rfl, (rg_w (by decide : (-2 : Int) ≤ ((-2) : Int32).toInt ∧ ((-2) : Int32).toInt ≤ -2) (by decide) (by decide)), ht⟩) t_nil dX9_first_34
theorem dX9_seldom_0 : decode cX9_seldom 0 = .ok (.aload_n 0, 1) := by decide +kernel
theorem dX9_seldom_1 : decode cX9_seldom 1 = .ok (.getfield 35, 3) := by decide +kernel
theorem dX9_seldom_4 : decode cX9_seldom 4 = .ok (.iload_n 1, 1) := by decide +kernel
theorem dX9_seldom_5 : decode cX9_seldom 5 = .ok (.invokevirtual 149, 3) := by decide +kernel
theorem dX9_seldom_8 : decode cX9_seldom 8 = .ok (.ifCond .eq 21, 3) := by decide +kernel
theorem dX9_seldom_11 : decode cX9_seldom 11 = .ok (.iload_n 2, 1) := by decide +kernel
theorem dX9_seldom_12 : decode cX9_seldom 12 = .ok (.iconst 1, 1) := by decide +kernel
theorem dX9_seldom_13 : decode cX9_seldom 13 = .ok (.iconst 4, 1) := by decide +kernel
theorem dX9_seldom_14 : decode cX9_seldom 14 = .ok (.invokestatic 158, 3) := by decide +kernel
theorem dX9_seldom_17 : decode cX9_seldom 17 = .ok (.ifCond .eq 12, 3) := by decide +kernel
theorem dX9_seldom_20 : decode cX9_seldom 20 = .ok (.iload_n 3, 1) := by decide +kernel
theorem dX9_seldom_21 : decode cX9_seldom 21 = .ok (.iconst 0, 1) := by decide +kernel
theorem dX9_seldom_22 : decode cX9_seldom 22 = .ok (.iconst 4, 1) := by decide +kernel
theorem dX9_seldom_23 : decode cX9_seldom 23 = .ok (.invokestatic 158, 3) := by decide +kernel
theorem dX9_seldom_26 : decode cX9_seldom 26 = .ok (.ifCond .ne 7, 3) := by decide +kernel
theorem dX9_seldom_29 : decode cX9_seldom 29 = .ok (.ldc2_w 265, 3) := by decide +kernel
theorem dX9_seldom_32 : decode cX9_seldom 32 = .ok (.lreturn, 1) := by decide +kernel
theorem dX9_seldom_33 : decode cX9_seldom 33 = .ok (.aload_n 0, 1) := by decide +kernel
theorem dX9_seldom_34 : decode cX9_seldom 34 = .ok (.getfield 35, 3) := by decide +kernel
theorem dX9_seldom_37 : decode cX9_seldom 37 = .ok (.iload_n 1, 1) := by decide +kernel
theorem dX9_seldom_38 : decode cX9_seldom 38 = .ok (.invokevirtual 152, 3) := by decide +kernel
theorem dX9_seldom_41 : decode cX9_seldom 41 = .ok (.istore 4, 2) := by decide +kernel
theorem dX9_seldom_43 : decode cX9_seldom 43 = .ok (.lconst 0, 1) := by decide +kernel
theorem dX9_seldom_44 : decode cX9_seldom 44 = .ok (.lstore 5, 2) := by decide +kernel
theorem dX9_seldom_46 : decode cX9_seldom 46 = .ok (.iconst 0, 1) := by decide +kernel
theorem dX9_seldom_47 : decode cX9_seldom 47 = .ok (.istore 7, 2) := by decide +kernel
theorem dX9_seldom_49 : decode cX9_seldom 49 = .ok (.iload 7, 2) := by decide +kernel
theorem dX9_seldom_51 : decode cX9_seldom 51 = .ok (.iload_n 3, 1) := by decide +kernel
theorem dX9_seldom_52 : decode cX9_seldom 52 = .ok (.if_icmp .gt 45, 3) := by decide +kernel
theorem dX9_seldom_55 : decode cX9_seldom 55 = .ok (.iload 7, 2) := by decide +kernel
theorem dX9_seldom_57 : decode cX9_seldom 57 = .ok (.iload_n 2, 1) := by decide +kernel
theorem dX9_seldom_58 : decode cX9_seldom 58 = .ok (.if_icmp .gt 39, 3) := by decide +kernel
theorem dX9_seldom_61 : decode cX9_seldom 61 = .ok (.lload 5, 2) := by decide +kernel
theorem dX9_seldom_63 : decode cX9_seldom 63 = .ok (.iload 4, 2) := by decide +kernel
theorem dX9_seldom_65 : decode cX9_seldom 65 = .ok (.iload 7, 2) := by decide +kernel
theorem dX9_seldom_67 : decode cX9_seldom 67 = .ok (.invokestatic 267, 3) := by decide +kernel
theorem dX9_seldom_70 : decode cX9_seldom 70 = .ok (.aload_n 0, 1) := by decide +kernel
theorem dX9_seldom_71 : decode cX9_seldom 71 = .ok (.getfield 35, 3) := by decide +kernel
theorem dX9_seldom_74 : decode cX9_seldom 74 = .ok (.getfield 155, 3) := by decide +kernel
theorem dX9_seldom_77 : decode cX9_seldom 77 = .ok (.iload 4, 2) := by decide +kernel
theorem dX9_seldom_79 : decode cX9_seldom 79 = .ok (.isub, 1) := by decide +kernel
theorem dX9_seldom_80 : decode cX9_seldom 80 = .ok (.iload_n 2, 1) := by decide +kernel
theorem dX9_seldom_81 : decode cX9_seldom 81 = .ok (.iload 7, 2) := by decide +kernel
theorem dX9_seldom_83 : decode cX9_seldom 83 = .ok (.isub, 1) := by decide +kernel
theorem dX9_seldom_84 : decode cX9_seldom 84 = .ok (.invokestatic 267, 3) := by decide +kernel
theorem dX9_seldom_87 : decode cX9_seldom 87 = .ok (.lmul, 1) := by decide +kernel
theorem dX9_seldom_88 : decode cX9_seldom 88 = .ok (.ladd, 1) := by decide +kernel
theorem dX9_seldom_89 : decode cX9_seldom 89 = .ok (.lstore 5, 2) := by decide +kernel
theorem dX9_seldom_91 : decode cX9_seldom 91 = .ok (.iinc 7 1, 3) := by decide +kernel
theorem dX9_seldom_94 : decode cX9_seldom 94 = .ok (.goto (-45), 3) := by decide +kernel
theorem dX9_seldom_97 : decode cX9_seldom 97 = .ok (.lload 5, 2) := by decide +kernel
theorem dX9_seldom_99 : decode cX9_seldom 99 = .ok (.lreturn, 1) := by decide +kernel
theorem hd_yX9_seldom : yX9_seldom.cls = RX9 ∧ yX9_seldom.cls ≠ "java/lang/invoke/MethodHandle" ∧ yX9_seldom.cls ≠ "java/lang/invoke/VarHandle" ∧ (parseMethodDescriptor yX9_seldom.desc).map (fun d => d.parameters.length) = some 3 := by decide +kernel
def uX9_seldom : List Cond := List.cons (.code yX9_seldom cX9_seldom 8 (some .long)) (HAppend.hAppend ([.fieldLink RX9 35 "LuckyTicket" "current" "LLuckyTicket$Roll;", .methodLink RX9 149 yX2_hasLaw, .instanceMethod yX2_hasLaw, .selects RX2 yX2_hasLaw yX2_hasLaw, .initialized RX2, .constantLong RX9 265 (-2), .methodLink RX9 158 yX9_isWithin, .static yX9_isWithin, .initialized RX9, .methodLink RX9 152 yX2_total, .instanceMethod yX2_total, .selects RX2 yX2_total yX2_total, .methodLink RX9 267 yX9_choices, .static yX9_choices] : List Cond) (HAppend.hAppend uX2_hasLaw (HAppend.hAppend uX9_isWithin (HAppend.hAppend uX2_total (HAppend.hAppend uX9_choices (HAppend.hAppend wsX90 wsX20))))))
theorem iX9_seldom_X9 : ∀ w ∈ wsX90, w ∈ uX9_seldom := fun _ h => (List.mem_cons_of_mem _ (List.mem_append_right _ (List.mem_append_right _ (List.mem_append_right _ (List.mem_append_right _ (List.mem_append_right _ (List.mem_append_left _ h)))))))
theorem iX9_seldom_X2 : ∀ w ∈ wsX20, w ∈ uX9_seldom := fun _ h => (List.mem_cons_of_mem _ (List.mem_append_right _ (List.mem_append_right _ (List.mem_append_right _ (List.mem_append_right _ (List.mem_append_right _ (List.mem_append_right _ h)))))))
theorem guX9_seldom : GU uX9_seldom := gu_cons (gu_app (by decide +kernel) (gu_ap guX2_hasLaw (gu_ap guX9_isWithin (gu_ap guX2_total (gu_ap guX9_choices (gu_ap gws_X9 gws_X2))))))
theorem gX9_seldom__X2_hasLaw_V149 : GoodIn uX9_seldom (wsV RX9 149 RX2 yX2_hasLaw uX2_hasLaw) := gin_V (List.mem_of_getElem? (i := 2) rfl) (List.mem_of_getElem? (i := 3) rfl) (List.mem_of_getElem? (i := 4) rfl) (List.mem_of_getElem? (i := 5) rfl) (fun _ h => (List.mem_cons_of_mem _ (List.mem_append_right _ (List.mem_append_left _ h)))) guX2_hasLaw
theorem gX9_seldom__X9_isWithin_S158 : GoodIn uX9_seldom (va_wsS RX9 158 yX9_isWithin uX9_isWithin) := gin_S (List.mem_of_getElem? (i := 7) rfl) (List.mem_of_getElem? (i := 8) rfl) (List.mem_of_getElem? (i := 9) rfl) (fun _ h => (List.mem_cons_of_mem _ (List.mem_append_right _ (List.mem_append_right _ (List.mem_append_left _ h))))) guX9_isWithin
theorem gX9_seldom__X2_total_V152 : GoodIn uX9_seldom (wsV RX9 152 RX2 yX2_total uX2_total) := gin_V (List.mem_of_getElem? (i := 10) rfl) (List.mem_of_getElem? (i := 11) rfl) (List.mem_of_getElem? (i := 12) rfl) (List.mem_of_getElem? (i := 5) rfl) (fun _ h => (List.mem_cons_of_mem _ (List.mem_append_right _ (List.mem_append_right _ (List.mem_append_right _ (List.mem_append_left _ h)))))) guX2_total
theorem gX9_seldom__X9_choices_S267 : GoodIn uX9_seldom (va_wsS RX9 267 yX9_choices uX9_choices) := gin_S (List.mem_of_getElem? (i := 13) rfl) (List.mem_of_getElem? (i := 14) rfl) (List.mem_of_getElem? (i := 9) rfl) (fun _ h => (List.mem_cons_of_mem _ (List.mem_append_right _ (List.mem_append_right _ (List.mem_append_right _ (List.mem_append_right _ (List.mem_append_left _ h))))))) guX9_choices
set_option maxHeartbeats 4000000 in
set_option maxRecDepth 100000 in
theorem kX9_seldom (l : Launch) (dC : Nat → ClassId) (dI : Nat → Nat → Nat) (h0 : Nat) (tp : Nat) (sc : Nat) (rd : Nat) (cu : Nat) (im : Nat) (ig : Nat) (sl : Nat) (se : Nat) (sm : Nat) (fc : Nat) (ln : Int32) (bs : Int32) (tk : Int32) (lw : Int32) (li : Int32) (fa : Nat) (lu : Nat) (cL : ClassId) (nl : Nat) (fl : Nat → Int32) (a1 : Int32) (a2 : Int32) (a3 : Int32) (b_ln : (0 : Int) ≤ ln.toInt ∧ ln.toInt ≤ 12) (b_bs : (0 : Int) ≤ bs.toInt ∧ bs.toInt ≤ 16) (b_tk : (0 : Int) ≤ tk.toInt ∧ tk.toInt ≤ 20000) (b_lw : (0 : Int) ≤ lw.toInt ∧ lw.toInt ≤ 9) (hl1 : tk.toInt ≤ (nl : Int)) : Met l yX9_seldom uX9_seldom ({ frames := 3, cells := 0, slots := 0, locals := 60 }) (va_Pc [.ref h0, .int a1, .int a2, .int a3] (pw (dC, dI) vwCl [(h0, .inr (7, [.ref tp, .ref sc, .ref rd, .ref cu, .ref im, .ref ig, .ref sl, .ref se, .ref sm, .ref fc])), (cu, .inr (1, [.int ln, .int bs, .int tk, .int lw, .int li, .ref fa, .ref lu])), (lu, .inl (cL, nl, .inl fl))] [(cL, .int)])) (vp_Sl (fun r => True)) 0 0 (fun _ => False) := by
  refine Met.ofW (cc := cX9_seldom) (maxL := 8) (ret := (some .long)) pn_X9 rfl ?_
  intro p e s m args below meth c s₁ B hml hv
  obtain ⟨rfl, hP, hK, hN⟩ := hv
  have hx := B.exec
  have hb := B.bytes
  have hr := B.returns
  have hts := atoms_spec (ws := uX9_seldom) B.pre
  have hown : s.vm.findClass RX9 = some m.cls := hown_of B.named rfl
  have hlocks := B.notSynchronized
  have hl := lv_entry ([.ref h0, .int a1, .int a2, .int a3]) (n := 8) (Nat.le_of_ble_eq_true rfl)
  rw [lg_entry_eq]
  generalize (lg_sl ([.ref h0, .int a1, .int a2, .int a3]) ++ List.replicate (8 - (lg_sl ([.ref h0, .int a1, .int a2, .int a3])).length) Slot.unset).toArray = ls at hl ⊢
  have hl : lv_has ls 8 [(0, .ref h0), (1, .int a1), (2, .int a2), (3, .int a3)] := hl
  refine lv_aload_n hx hb dX9_seldom_0 rfl (lv_at hl 0 rfl) ?_
  refine va_get (D := (dC, dI)) (ci := 7) (v := .ref cu) (C := RX9) (T := TX9) (N := 10) hx hb hts iX9_seldom_X9 hown hK hP 0 rfl rfl 3 (by decide) (hts (.fieldLink RX9 35 "LuckyTicket" "current" "LLuckyTicket$Roll;") (List.mem_of_getElem? (i := 1) rfl)) (fun _ h9 => h9) rfl dX9_seldom_1 ?_
  refine lv_iload_n hx hb dX9_seldom_4 rfl (lv_at hl 1 rfl) ?_
  refine vp_callSi (W.runV (As := [.int a1]) (rest := []) ⟨hx, hb, hml, hown, hts⟩ (kX2_hasLaw l dC dI cu ln bs tk lw li fa lu a1 b_ln b_bs b_tk b_lw) (cwV 1 hts gX9_seldom__X2_hasLaw_V149 rfl rfl rfl hd_yX2_hasLaw ⟨lel 1 3 rfl, lel 21 60 rfl⟩) ⟨pw_fb, rcv_X2 hK hP (q0 := 1) rfl, (pw_use hP hK hN [1] rfl [] rfl)⟩ rfl rfl hl.1 rfl (lv_room (Nat.le_of_ble_eq_true rfl)) dX9_seldom_5 ⟨lel 0 0 rfl, lel 0 0 rfl⟩) (fun r_67 h_r_67 => ?_)
  obtain ⟨b_r_67, nz_r_67⟩ := h_r_67
  have b_r_67 : (0 : Int) ≤ r_67.toInt ∧ r_67.toInt ≤ 1 := b_r_67
  refine lv_if_eq (tgt := 29) hx hb dX9_seldom_8 (by decide) (fun c_68 => ?_) (fun c_68 => ?_)
  ·
    have n_c_68 : (r_67.toInt : Int) = 0 := c_eq rfl (by decide) c_68
    have b_r_67 : (0 : Int) ≤ r_67.toInt ∧ r_67.toInt ≤ 0 := r_eq1 b_r_67 (by decide : (0 : Int) ≤ (0 : Int32).toInt ∧ (0 : Int32).toInt ≤ 0) n_c_68 (by decide)
    refine lv_ldc2 (v := (-2)) hx hb hown (hts (.constantLong RX9 265 (-2)) (List.mem_of_getElem? (i := 6) rfl)) dX9_seldom_29 ?_
    exact W.lret (v := (-2)) hx hb hr (fun t ht hW => ⟨(-2), rfl, trivial, ht⟩) t_nil dX9_seldom_32
  ·
    have n_c_68 : (r_67.toInt : Int) ≠ 0 := c_ne rfl (by decide) c_68
    have b_r_67 : (1 : Int) ≤ r_67.toInt ∧ r_67.toInt ≤ 1 := r_ne1 b_r_67 (by decide : (0 : Int) ≤ (0 : Int32).toInt ∧ (0 : Int32).toInt ≤ 0) n_c_68 (by decide)
    obtain ⟨b_a1, g_69⟩ := nz_r_67 c_68
    refine lv_iload_n hx hb dX9_seldom_11 rfl (lv_at hl 2 rfl) ?_
    refine lv_iconst (v := 1) hx hb dX9_seldom_12 (by decide) ?_
    refine lv_iconst (v := 4) hx hb dX9_seldom_13 (by decide) ?_
    refine vp_callSi (W.runS (As := [.int a2, .int 1, .int 4]) (rest := []) ⟨hx, hb, hml, hown, hts⟩ (kX9_isWithin l dC dI a2 1 4 ) (va_cwS 3 hts gX9_seldom__X9_isWithin_S158 rfl rfl rfl hd_yX9_isWithin.2 ⟨lel 1 3 rfl, lel 22 60 rfl⟩) ⟨pn_fb, pn_use⟩ rfl rfl hl.1 rfl (lv_room (Nat.le_of_ble_eq_true rfl)) dX9_seldom_14 ⟨lel 0 0 rfl, lel 0 0 rfl⟩) (fun r_70 h_r_70 => ?_)
    obtain ⟨b_r_70, nz_r_70⟩ := h_r_70
    have b_r_70 : (0 : Int) ≤ r_70.toInt ∧ r_70.toInt ≤ 1 := b_r_70
    refine lv_if_eq (tgt := 29) hx hb dX9_seldom_17 (by decide) (fun c_71 => ?_) (fun c_71 => ?_)
    ·
      have n_c_71 : (r_70.toInt : Int) = 0 := c_eq rfl (by decide) c_71
      have b_r_70 : (0 : Int) ≤ r_70.toInt ∧ r_70.toInt ≤ 0 := r_eq1 b_r_70 (by decide : (0 : Int) ≤ (0 : Int32).toInt ∧ (0 : Int32).toInt ≤ 0) n_c_71 (by decide)
      refine lv_ldc2 (v := (-2)) hx hb hown (hts (.constantLong RX9 265 (-2)) (List.mem_of_getElem? (i := 6) rfl)) dX9_seldom_29 ?_
      exact W.lret (v := (-2)) hx hb hr (fun t ht hW => ⟨(-2), rfl, trivial, ht⟩) t_nil dX9_seldom_32
    ·
      have n_c_71 : (r_70.toInt : Int) ≠ 0 := c_ne rfl (by decide) c_71
      have b_r_70 : (1 : Int) ≤ r_70.toInt ∧ r_70.toInt ≤ 1 := r_ne1 b_r_70 (by decide : (0 : Int) ≤ (0 : Int32).toInt ∧ (0 : Int32).toInt ≤ 0) n_c_71 (by decide)
      have g_72 := nz_r_70 c_71
      have lt0_g_72 := (by decide : (1 : Int32).toInt = 1)
      have lt1_g_72 := (by decide : (4 : Int32).toInt = 4)
      have b_a2 : (1 : Int) ≤ a2.toInt ∧ a2.toInt ≤ 4 := by
        have q0 := (ti_rng a2)
        have q1 := (by decide : (1 : Int) ≤ (1 : Int32).toInt ∧ (1 : Int32).toInt ≤ 1)
        have q2 := (by decide : (4 : Int) ≤ (4 : Int32).toInt ∧ (4 : Int32).toInt ≤ 4)
        omega
      refine lv_iload_n hx hb dX9_seldom_20 rfl (lv_at hl 3 rfl) ?_
      refine lv_iconst (v := 0) hx hb dX9_seldom_21 (by decide) ?_
      refine lv_iconst (v := 4) hx hb dX9_seldom_22 (by decide) ?_
      refine vp_callSi (W.runS (As := [.int a3, .int 0, .int 4]) (rest := []) ⟨hx, hb, hml, hown, hts⟩ (kX9_isWithin l dC dI a3 0 4 ) (va_cwS 3 hts gX9_seldom__X9_isWithin_S158 rfl rfl rfl hd_yX9_isWithin.2 ⟨lel 1 3 rfl, lel 22 60 rfl⟩) ⟨pn_fb, pn_use⟩ rfl rfl hl.1 rfl (lv_room (Nat.le_of_ble_eq_true rfl)) dX9_seldom_23 ⟨lel 0 0 rfl, lel 0 0 rfl⟩) (fun r_73 h_r_73 => ?_)
      obtain ⟨b_r_73, nz_r_73⟩ := h_r_73
      have b_r_73 : (0 : Int) ≤ r_73.toInt ∧ r_73.toInt ≤ 1 := b_r_73
      refine lv_if_ne (tgt := 33) hx hb dX9_seldom_26 (by decide) (fun c_74 => ?_) (fun c_74 => ?_)
      ·
        have n_c_74 : (r_73.toInt : Int) ≠ 0 := c_ne rfl (by decide) c_74
        have b_r_73 : (1 : Int) ≤ r_73.toInt ∧ r_73.toInt ≤ 1 := r_ne1 b_r_73 (by decide : (0 : Int) ≤ (0 : Int32).toInt ∧ (0 : Int32).toInt ≤ 0) n_c_74 (by decide)
        have g_75 := nz_r_73 c_74
        have lt0_g_75 := (by decide : (0 : Int32).toInt = 0)
        have lt1_g_75 := (by decide : (4 : Int32).toInt = 4)
        have b_a3 : (0 : Int) ≤ a3.toInt ∧ a3.toInt ≤ 4 := by
          have q0 := (ti_rng a3)
          have q1 := (by decide : (0 : Int) ≤ (0 : Int32).toInt ∧ (0 : Int32).toInt ≤ 0)
          have q2 := (by decide : (4 : Int) ≤ (4 : Int32).toInt ∧ (4 : Int32).toInt ≤ 4)
          omega
        refine lv_aload_n hx hb dX9_seldom_33 rfl (lv_at hl 0 rfl) ?_
        refine va_get (D := (dC, dI)) (ci := 7) (v := .ref cu) (C := RX9) (T := TX9) (N := 10) hx hb hts iX9_seldom_X9 hown hK hP 0 rfl rfl 3 (by decide) (hts (.fieldLink RX9 35 "LuckyTicket" "current" "LLuckyTicket$Roll;") (List.mem_of_getElem? (i := 1) rfl)) (fun _ h9 => h9) rfl dX9_seldom_34 ?_
        refine lv_iload_n hx hb dX9_seldom_37 rfl (lv_at hl 1 rfl) ?_
        refine vp_callSi (W.runV (As := [.int a1]) (rest := []) ⟨hx, hb, hml, hown, hts⟩ (kX2_total l dC dI cu ln bs tk lw li fa lu cL nl fl a1 b_ln b_bs b_tk b_lw (by omega)) (cwV 1 hts gX9_seldom__X2_total_V152 rfl rfl rfl hd_yX2_total ⟨lel 3 3 rfl, lel 60 60 rfl⟩) ⟨pw_fb, rcv_X2 hK hP (q0 := 1) rfl, (pw_use hP hK hN [1, 2] rfl [0] rfl)⟩ rfl rfl hl.1 rfl (lv_room (Nat.le_of_ble_eq_true rfl)) dX9_seldom_38 ⟨lel 0 0 rfl, lel 0 0 rfl⟩) (fun r_76 h_r_76 => ?_)
        refine lv_istore (lv' := [(4, .int r_76), (0, .ref h0), (1, .int a1), (2, .int a2), (3, .int a3)]) hx hb dX9_seldom_41 hl (by decide) rfl (fun ls hl => ?_)
        refine lv_lconst (v := 0) hx hb dX9_seldom_43 (by decide) ?_
        refine lv_lstore (lv' := [(5, .long 0), (4, .int r_76), (0, .ref h0), (1, .int a1), (2, .int a2), (3, .int a3)]) hx hb dX9_seldom_44 hl (by decide) rfl (fun ls hl => ?_)
        refine lv_iconst (v := 0) hx hb dX9_seldom_46 (by decide) ?_
        refine lv_istore (lv' := [(7, .int 0), (5, .long 0), (4, .int r_76), (0, .ref h0), (1, .int a1), (2, .int a2), (3, .int a3)]) hx hb dX9_seldom_47 hl (by decide) rfl (fun ls hl => ?_)
        refine loopP (σ := Int32 × Int64) (fun v => (5 - v.1.toInt).toNat) (fun v ls => ((0 : Int) ≤ v.1.toInt ∧ v.1.toInt ≤ 5) ∧ lv_has ls 8 [(7, .int v.1), (5, .long v.2), (4, .int r_76), (0, .ref h0), (1, .int a1), (2, .int a2), (3, .int a3)]) (fun v ls hI ih_49_123 => ?_) ((0 : Int32), (0 : Int64)) ⟨(show (0 : Int) ≤ (0 : Int32).toInt ∧ (0 : Int32).toInt ≤ 5 from (rg_w (by decide : (0 : Int) ≤ (0 : Int32).toInt ∧ (0 : Int32).toInt ≤ 0) (by decide) (by decide))), lv_sub hl [0, 1, 2, 3, 4, 5, 6] rfl⟩
        obtain ⟨y_86, y_87⟩ := v
        obtain ⟨b_y_86, hl⟩ := hI
        have b_y_86 : (0 : Int) ≤ y_86.toInt ∧ y_86.toInt ≤ 5 := b_y_86
        have hl : lv_has ls 8 [(7, .int y_86), (5, .long y_87), (4, .int r_76), (0, .ref h0), (1, .int a1), (2, .int a2), (3, .int a3)] := hl
        refine lv_iload hx hb dX9_seldom_49 (lv_at hl 0 rfl) ?_
        refine lv_iload_n hx hb dX9_seldom_51 rfl (lv_at hl 6 rfl) ?_
        refine lv_icmp_gt (tgt := 97) hx hb dX9_seldom_52 (by decide) (fun c_124 => ?_) (fun c_124 => ?_)
        ·
          have n_c_124 : (a3.toInt : Int) < y_86.toInt := c_gt rfl rfl c_124
          have b_y_86 : (1 : Int) ≤ y_86.toInt ∧ y_86.toInt ≤ 5 := r_lt2 b_a3 b_y_86 n_c_124 (by decide)
          refine lv_lload hx hb dX9_seldom_97 (lv_at hl 1 rfl) ?_
          exact W.lret (v := y_87) hx hb hr (fun t ht hW => ⟨y_87, rfl, trivial, ht⟩) t_nil dX9_seldom_99
        ·
          have n_c_124 : (y_86.toInt : Int) ≤ a3.toInt := c_ngt rfl rfl c_124
          have b_y_86 : (0 : Int) ≤ y_86.toInt ∧ y_86.toInt ≤ 4 := r_le1 b_y_86 b_a3 n_c_124 (by decide)
          refine lv_iload hx hb dX9_seldom_55 (lv_at hl 0 rfl) ?_
          refine lv_iload_n hx hb dX9_seldom_57 rfl (lv_at hl 5 rfl) ?_
          refine lv_icmp_gt (tgt := 97) hx hb dX9_seldom_58 (by decide) (fun c_125 => ?_) (fun c_125 => ?_)
          ·
            have n_c_125 : (a2.toInt : Int) < y_86.toInt := c_gt rfl rfl c_125
            have b_a2 : (1 : Int) ≤ a2.toInt ∧ a2.toInt ≤ 3 := r_lt1 b_a2 b_y_86 n_c_125 (by decide)
            have b_y_86 : (2 : Int) ≤ y_86.toInt ∧ y_86.toInt ≤ 4 := r_lt2 b_a2 b_y_86 n_c_125 (by decide)
            refine lv_lload hx hb dX9_seldom_97 (lv_at hl 1 rfl) ?_
            exact W.lret (v := y_87) hx hb hr (fun t ht hW => ⟨y_87, rfl, trivial, ht⟩) t_nil dX9_seldom_99
          ·
            have n_c_125 : (y_86.toInt : Int) ≤ a2.toInt := c_ngt rfl rfl c_125
            refine lv_lload hx hb dX9_seldom_61 (lv_at hl 1 rfl) ?_
            refine lv_iload hx hb dX9_seldom_63 (lv_at hl 2 rfl) ?_
            refine lv_iload hx hb dX9_seldom_65 (lv_at hl 0 rfl) ?_
            refine vp_callSl (W.runS (As := [.int r_76, .int y_86]) (rest := [.long y_87]) ⟨hx, hb, hml, hown, hts⟩ (kX9_choices l dC dI r_76 y_86 ) (va_cwS 2 hts gX9_seldom__X9_choices_S267 rfl rfl rfl hd_yX9_choices.2 ⟨lel 2 3 rfl, lel 39 60 rfl⟩) ⟨pn_fb, pn_use⟩ rfl rfl hl.1 rfl (lv_room (Nat.le_of_ble_eq_true rfl)) dX9_seldom_67 ⟨lel 0 0 rfl, lel 0 0 rfl⟩) (fun r_126 h_r_126 => ?_)
            refine lv_aload_n hx hb dX9_seldom_70 rfl (lv_at hl 3 rfl) ?_
            refine va_get (D := (dC, dI)) (ci := 7) (v := .ref cu) (C := RX9) (T := TX9) (N := 10) hx hb hts iX9_seldom_X9 hown hK hP 0 rfl rfl 3 (by decide) (hts (.fieldLink RX9 35 "LuckyTicket" "current" "LLuckyTicket$Roll;") (List.mem_of_getElem? (i := 1) rfl)) (fun _ h9 => h9) rfl dX9_seldom_71 ?_
            refine va_getN (own := RX9) (index := 155) (ref := RX2) (host := RX9) (D := (dC, dI)) (ci := 1) (v := .int tk) (C := RX2) (T := TX2) (N := 7) hx hb hts iX9_seldom_X2 hown hK hP 1 rfl rfl 2 (by decide) (va_Nw.use rfl (hN _ (List.mem_of_getElem? (i := 18) rfl))) (fun _ h9 => h9) rfl dX9_seldom_74 ?_
            refine lv_iload hx hb dX9_seldom_77 (lv_at hl 2 rfl) ?_
            refine lv_isub hx hb dX9_seldom_79 ?_
            refine lv_topi (fun z_127 e_z_127 => ?_)
            refine lv_iload_n hx hb dX9_seldom_80 rfl (lv_at hl 5 rfl) ?_
            refine lv_iload hx hb dX9_seldom_81 (lv_at hl 0 rfl) ?_
            refine lv_isub hx hb dX9_seldom_83 ?_
            refine lv_topi (fun z_128 e_z_128 => ?_)
            obtain ⟨q_z_128, b_z_128⟩ := ti_sub (lo := -3) (hi := 4) e_z_128 rfl rfl b_a2 b_y_86 (by decide)
            refine vp_callSl (W.runS (As := [.int z_127, .int z_128]) (rest := [.long r_126, .long y_87]) ⟨hx, hb, hml, hown, hts⟩ (kX9_choices l dC dI z_127 z_128 ) (va_cwS 2 hts gX9_seldom__X9_choices_S267 rfl rfl rfl hd_yX9_choices.2 ⟨lel 2 3 rfl, lel 39 60 rfl⟩) ⟨pn_fb, pn_use⟩ rfl rfl hl.1 rfl (lv_room (Nat.le_of_ble_eq_true rfl)) dX9_seldom_84 ⟨lel 0 0 rfl, lel 0 0 rfl⟩) (fun r_129 h_r_129 => ?_)
            refine lv_lmul hx hb dX9_seldom_87 ?_
            refine lv_topl (fun z_130 e_z_130 => ?_)
            refine lv_ladd hx hb dX9_seldom_88 ?_
            refine lv_topl (fun z_131 e_z_131 => ?_)
            refine lv_lstore (lv' := [(5, .long z_131), (7, .int y_86), (4, .int r_76), (0, .ref h0), (1, .int a1), (2, .int a2), (3, .int a3)]) hx hb dX9_seldom_89 hl (by decide) rfl (fun ls hl => ?_)
            obtain ⟨z_132, e_z_132⟩ : ∃ y : Int32, y = y_86 + 1 := ⟨_, rfl⟩
            refine lv_iinc (v := z_132) (lv' := [(7, .int z_132), (5, .long z_131), (4, .int r_76), (0, .ref h0), (1, .int a1), (2, .int a2), (3, .int a3)]) hx hb dX9_seldom_91 hl (k := 1) rfl (by rw [e_z_132]; rfl) (by decide) rfl (fun ls hl => ?_)
            obtain ⟨q_z_132, b_z_132⟩ := ti_add (lo := 1) (hi := 5) e_z_132 rfl (by decide : (1 : Int32).toInt = 1) b_y_86 (by decide : (1 : Int) ≤ (1 : Int32).toInt ∧ (1 : Int32).toInt ≤ 1) (by decide)
            refine lv_goto (tgt := 49) hx hb dX9_seldom_94 (by decide) ?_
            exact ih_49_123 (z_132, z_131) _ ⟨(show (0 : Int) ≤ z_132.toInt ∧ z_132.toInt ≤ 5 from (rg_w b_z_132 (by decide) (by decide))), lv_sub hl [0, 1, 2, 3, 4, 5, 6] rfl⟩ (show (5 - z_132.toInt).toNat < (5 - y_86.toInt).toNat by omega)
      ·
        have n_c_74 : (r_73.toInt : Int) = 0 := c_eq rfl (by decide) c_74
        have b_r_73 : (0 : Int) ≤ r_73.toInt ∧ r_73.toInt ≤ 0 := r_eq1 b_r_73 (by decide : (0 : Int) ≤ (0 : Int32).toInt ∧ (0 : Int32).toInt ≤ 0) n_c_74 (by decide)
        refine lv_ldc2 (v := (-2)) hx hb hown (hts (.constantLong RX9 265 (-2)) (List.mem_of_getElem? (i := 6) rfl)) dX9_seldom_29 ?_
        exact W.lret (v := (-2)) hx hb hr (fun t ht hW => ⟨(-2), rfl, trivial, ht⟩) t_nil dX9_seldom_32
theorem dX9_sets_0 : decode cX9_sets 0 = .ok (.aload_n 0, 1) := by decide +kernel
theorem dX9_sets_1 : decode cX9_sets 1 = .ok (.getfield 35, 3) := by decide +kernel
theorem dX9_sets_4 : decode cX9_sets 4 = .ok (.invokevirtual 194, 3) := by decide +kernel
theorem dX9_sets_7 : decode cX9_sets 7 = .ok (.ifCond .eq 12, 3) := by decide +kernel
theorem dX9_sets_10 : decode cX9_sets 10 = .ok (.iload_n 1, 1) := by decide +kernel
theorem dX9_sets_11 : decode cX9_sets 11 = .ok (.iconst 0, 1) := by decide +kernel
theorem dX9_sets_12 : decode cX9_sets 12 = .ok (.iconst 4, 1) := by decide +kernel
theorem dX9_sets_13 : decode cX9_sets 13 = .ok (.invokestatic 158, 3) := by decide +kernel
theorem dX9_sets_16 : decode cX9_sets 16 = .ok (.ifCond .ne 7, 3) := by decide +kernel
theorem dX9_sets_19 : decode cX9_sets 19 = .ok (.ldc2_w 265, 3) := by decide +kernel
theorem dX9_sets_22 : decode cX9_sets 22 = .ok (.lreturn, 1) := by decide +kernel
theorem dX9_sets_23 : decode cX9_sets 23 = .ok (.aload_n 0, 1) := by decide +kernel
theorem dX9_sets_24 : decode cX9_sets 24 = .ok (.getfield 35, 3) := by decide +kernel
theorem dX9_sets_27 : decode cX9_sets 27 = .ok (.getfield 155, 3) := by decide +kernel
theorem dX9_sets_30 : decode cX9_sets 30 = .ok (.iload_n 1, 1) := by decide +kernel
theorem dX9_sets_31 : decode cX9_sets 31 = .ok (.invokestatic 267, 3) := by decide +kernel
theorem dX9_sets_34 : decode cX9_sets 34 = .ok (.lreturn, 1) := by decide +kernel
theorem hd_yX9_sets : yX9_sets.cls = RX9 ∧ yX9_sets.cls ≠ "java/lang/invoke/MethodHandle" ∧ yX9_sets.cls ≠ "java/lang/invoke/VarHandle" ∧ (parseMethodDescriptor yX9_sets.desc).map (fun d => d.parameters.length) = some 1 := by decide +kernel
def uX9_sets : List Cond := List.cons (.code yX9_sets cX9_sets 2 (some .long)) (HAppend.hAppend ([.fieldLink RX9 35 "LuckyTicket" "current" "LLuckyTicket$Roll;", .methodLink RX9 194 yX2_stands, .instanceMethod yX2_stands, .selects RX2 yX2_stands yX2_stands, .initialized RX2, .constantLong RX9 265 (-2), .methodLink RX9 158 yX9_isWithin, .static yX9_isWithin, .initialized RX9, .methodLink RX9 267 yX9_choices, .static yX9_choices] : List Cond) (HAppend.hAppend uX2_stands (HAppend.hAppend uX9_isWithin (HAppend.hAppend uX9_choices (HAppend.hAppend wsX90 wsX20)))))
theorem iX9_sets_X9 : ∀ w ∈ wsX90, w ∈ uX9_sets := fun _ h => (List.mem_cons_of_mem _ (List.mem_append_right _ (List.mem_append_right _ (List.mem_append_right _ (List.mem_append_right _ (List.mem_append_left _ h))))))
theorem iX9_sets_X2 : ∀ w ∈ wsX20, w ∈ uX9_sets := fun _ h => (List.mem_cons_of_mem _ (List.mem_append_right _ (List.mem_append_right _ (List.mem_append_right _ (List.mem_append_right _ (List.mem_append_right _ h))))))
theorem guX9_sets : GU uX9_sets := gu_cons (gu_app (by decide +kernel) (gu_ap guX2_stands (gu_ap guX9_isWithin (gu_ap guX9_choices (gu_ap gws_X9 gws_X2)))))
theorem gX9_sets__X2_stands_V194 : GoodIn uX9_sets (wsV RX9 194 RX2 yX2_stands uX2_stands) := gin_V (List.mem_of_getElem? (i := 2) rfl) (List.mem_of_getElem? (i := 3) rfl) (List.mem_of_getElem? (i := 4) rfl) (List.mem_of_getElem? (i := 5) rfl) (fun _ h => (List.mem_cons_of_mem _ (List.mem_append_right _ (List.mem_append_left _ h)))) guX2_stands
theorem gX9_sets__X9_isWithin_S158 : GoodIn uX9_sets (va_wsS RX9 158 yX9_isWithin uX9_isWithin) := gin_S (List.mem_of_getElem? (i := 7) rfl) (List.mem_of_getElem? (i := 8) rfl) (List.mem_of_getElem? (i := 9) rfl) (fun _ h => (List.mem_cons_of_mem _ (List.mem_append_right _ (List.mem_append_right _ (List.mem_append_left _ h))))) guX9_isWithin
theorem gX9_sets__X9_choices_S267 : GoodIn uX9_sets (va_wsS RX9 267 yX9_choices uX9_choices) := gin_S (List.mem_of_getElem? (i := 10) rfl) (List.mem_of_getElem? (i := 11) rfl) (List.mem_of_getElem? (i := 9) rfl) (fun _ h => (List.mem_cons_of_mem _ (List.mem_append_right _ (List.mem_append_right _ (List.mem_append_right _ (List.mem_append_left _ h)))))) guX9_choices
set_option maxHeartbeats 4000000 in
set_option maxRecDepth 100000 in
theorem kX9_sets (l : Launch) (dC : Nat → ClassId) (dI : Nat → Nat → Nat) (h0 : Nat) (tp : Nat) (sc : Nat) (rd : Nat) (cu : Nat) (im : Nat) (ig : Nat) (sl : Nat) (se : Nat) (sm : Nat) (fc : Nat) (ln : Int32) (bs : Int32) (tk : Int32) (lw : Int32) (li : Int32) (fa : Nat) (lu : Nat) (a1 : Int32) (b_ln : (0 : Int) ≤ ln.toInt ∧ ln.toInt ≤ 12) (b_bs : (0 : Int) ≤ bs.toInt ∧ bs.toInt ≤ 16) (b_tk : (0 : Int) ≤ tk.toInt ∧ tk.toInt ≤ 20000) (b_lw : (0 : Int) ≤ lw.toInt ∧ lw.toInt ≤ 9) : Met l yX9_sets uX9_sets ({ frames := 2, cells := 0, slots := 0, locals := 39 }) (va_Pc [.ref h0, .int a1] (pw (dC, dI) vwCl [(h0, .inr (7, [.ref tp, .ref sc, .ref rd, .ref cu, .ref im, .ref ig, .ref sl, .ref se, .ref sm, .ref fc])), (cu, .inr (1, [.int ln, .int bs, .int tk, .int lw, .int li, .ref fa, .ref lu]))] [])) (vp_Sl (fun r => True)) 0 0 (fun _ => False) := by
  refine Met.ofW (cc := cX9_sets) (maxL := 2) (ret := (some .long)) pn_X9 rfl ?_
  intro p e s m args below meth c s₁ B hml hv
  obtain ⟨rfl, hP, hK, hN⟩ := hv
  have hx := B.exec
  have hb := B.bytes
  have hr := B.returns
  have hts := atoms_spec (ws := uX9_sets) B.pre
  have hown : s.vm.findClass RX9 = some m.cls := hown_of B.named rfl
  have hlocks := B.notSynchronized
  have hl := lv_entry ([.ref h0, .int a1]) (n := 2) (Nat.le_of_ble_eq_true rfl)
  rw [lg_entry_eq]
  generalize (lg_sl ([.ref h0, .int a1]) ++ List.replicate (2 - (lg_sl ([.ref h0, .int a1])).length) Slot.unset).toArray = ls at hl ⊢
  have hl : lv_has ls 2 [(0, .ref h0), (1, .int a1)] := hl
  refine lv_aload_n hx hb dX9_sets_0 rfl (lv_at hl 0 rfl) ?_
  refine va_get (D := (dC, dI)) (ci := 7) (v := .ref cu) (C := RX9) (T := TX9) (N := 10) hx hb hts iX9_sets_X9 hown hK hP 0 rfl rfl 3 (by decide) (hts (.fieldLink RX9 35 "LuckyTicket" "current" "LLuckyTicket$Roll;") (List.mem_of_getElem? (i := 1) rfl)) (fun _ h9 => h9) rfl dX9_sets_1 ?_
  refine vp_callSi (W.runV (As := []) (rest := []) ⟨hx, hb, hml, hown, hts⟩ (kX2_stands l dC dI cu ln bs tk lw li fa lu b_ln b_bs b_tk b_lw) (cwV 0 hts gX9_sets__X2_stands_V194 rfl rfl rfl hd_yX2_stands ⟨lel 1 2 rfl, lel 20 39 rfl⟩) ⟨pw_fb, rcv_X2 hK hP (q0 := 1) rfl, (pw_use hP hK hN [1] rfl [] rfl)⟩ rfl rfl hl.1 rfl (lv_room (Nat.le_of_ble_eq_true rfl)) dX9_sets_4 ⟨lel 0 0 rfl, lel 0 0 rfl⟩) (fun r_8 h_r_8 => ?_)
  obtain ⟨b_r_8, nz_r_8⟩ := h_r_8
  have b_r_8 : (0 : Int) ≤ r_8.toInt ∧ r_8.toInt ≤ 1 := b_r_8
  refine lv_if_eq (tgt := 19) hx hb dX9_sets_7 (by decide) (fun c_9 => ?_) (fun c_9 => ?_)
  ·
    have n_c_9 : (r_8.toInt : Int) = 0 := c_eq rfl (by decide) c_9
    have b_r_8 : (0 : Int) ≤ r_8.toInt ∧ r_8.toInt ≤ 0 := r_eq1 b_r_8 (by decide : (0 : Int) ≤ (0 : Int32).toInt ∧ (0 : Int32).toInt ≤ 0) n_c_9 (by decide)
    refine lv_ldc2 (v := (-2)) hx hb hown (hts (.constantLong RX9 265 (-2)) (List.mem_of_getElem? (i := 6) rfl)) dX9_sets_19 ?_
    exact W.lret (v := (-2)) hx hb hr (fun t ht hW => ⟨(-2), rfl, trivial, ht⟩) t_nil dX9_sets_22
  ·
    have n_c_9 : (r_8.toInt : Int) ≠ 0 := c_ne rfl (by decide) c_9
    have b_r_8 : (1 : Int) ≤ r_8.toInt ∧ r_8.toInt ≤ 1 := r_ne1 b_r_8 (by decide : (0 : Int) ≤ (0 : Int32).toInt ∧ (0 : Int32).toInt ≤ 0) n_c_9 (by decide)
    have g_10 := nz_r_8 c_9
    refine lv_iload_n hx hb dX9_sets_10 rfl (lv_at hl 1 rfl) ?_
    refine lv_iconst (v := 0) hx hb dX9_sets_11 (by decide) ?_
    refine lv_iconst (v := 4) hx hb dX9_sets_12 (by decide) ?_
    refine vp_callSi (W.runS (As := [.int a1, .int 0, .int 4]) (rest := []) ⟨hx, hb, hml, hown, hts⟩ (kX9_isWithin l dC dI a1 0 4 ) (va_cwS 3 hts gX9_sets__X9_isWithin_S158 rfl rfl rfl hd_yX9_isWithin.2 ⟨lel 1 2 rfl, lel 22 39 rfl⟩) ⟨pn_fb, pn_use⟩ rfl rfl hl.1 rfl (lv_room (Nat.le_of_ble_eq_true rfl)) dX9_sets_13 ⟨lel 0 0 rfl, lel 0 0 rfl⟩) (fun r_11 h_r_11 => ?_)
    obtain ⟨b_r_11, nz_r_11⟩ := h_r_11
    have b_r_11 : (0 : Int) ≤ r_11.toInt ∧ r_11.toInt ≤ 1 := b_r_11
    refine lv_if_ne (tgt := 23) hx hb dX9_sets_16 (by decide) (fun c_12 => ?_) (fun c_12 => ?_)
    ·
      have n_c_12 : (r_11.toInt : Int) ≠ 0 := c_ne rfl (by decide) c_12
      have b_r_11 : (1 : Int) ≤ r_11.toInt ∧ r_11.toInt ≤ 1 := r_ne1 b_r_11 (by decide : (0 : Int) ≤ (0 : Int32).toInt ∧ (0 : Int32).toInt ≤ 0) n_c_12 (by decide)
      have g_13 := nz_r_11 c_12
      have lt0_g_13 := (by decide : (0 : Int32).toInt = 0)
      have lt1_g_13 := (by decide : (4 : Int32).toInt = 4)
      have b_a1 : (0 : Int) ≤ a1.toInt ∧ a1.toInt ≤ 4 := by
        have q0 := (ti_rng a1)
        have q1 := (by decide : (0 : Int) ≤ (0 : Int32).toInt ∧ (0 : Int32).toInt ≤ 0)
        have q2 := (by decide : (4 : Int) ≤ (4 : Int32).toInt ∧ (4 : Int32).toInt ≤ 4)
        omega
      refine lv_aload_n hx hb dX9_sets_23 rfl (lv_at hl 0 rfl) ?_
      refine va_get (D := (dC, dI)) (ci := 7) (v := .ref cu) (C := RX9) (T := TX9) (N := 10) hx hb hts iX9_sets_X9 hown hK hP 0 rfl rfl 3 (by decide) (hts (.fieldLink RX9 35 "LuckyTicket" "current" "LLuckyTicket$Roll;") (List.mem_of_getElem? (i := 1) rfl)) (fun _ h9 => h9) rfl dX9_sets_24 ?_
      refine va_getN (own := RX9) (index := 155) (ref := RX2) (host := RX9) (D := (dC, dI)) (ci := 1) (v := .int tk) (C := RX2) (T := TX2) (N := 7) hx hb hts iX9_sets_X2 hown hK hP 1 rfl rfl 2 (by decide) (va_Nw.use rfl (hN _ (List.mem_of_getElem? (i := 18) rfl))) (fun _ h9 => h9) rfl dX9_sets_27 ?_
      refine lv_iload_n hx hb dX9_sets_30 rfl (lv_at hl 1 rfl) ?_
      refine vp_callSl (W.runS (As := [.int tk, .int a1]) (rest := []) ⟨hx, hb, hml, hown, hts⟩ (kX9_choices l dC dI tk a1 ) (va_cwS 2 hts gX9_sets__X9_choices_S267 rfl rfl rfl hd_yX9_choices.2 ⟨lel 2 2 rfl, lel 39 39 rfl⟩) ⟨pn_fb, pn_use⟩ rfl rfl hl.1 rfl (lv_room (Nat.le_of_ble_eq_true rfl)) dX9_sets_31 ⟨lel 0 0 rfl, lel 0 0 rfl⟩) (fun r_14 h_r_14 => ?_)
      exact W.lret (v := r_14) hx hb hr (fun t ht hW => ⟨r_14, rfl, trivial, ht⟩) t_nil dX9_sets_34
    ·
      have n_c_12 : (r_11.toInt : Int) = 0 := c_eq rfl (by decide) c_12
      have b_r_11 : (0 : Int) ≤ r_11.toInt ∧ r_11.toInt ≤ 0 := r_eq1 b_r_11 (by decide : (0 : Int) ≤ (0 : Int32).toInt ∧ (0 : Int32).toInt ≤ 0) n_c_12 (by decide)
      refine lv_ldc2 (v := (-2)) hx hb hown (hts (.constantLong RX9 265 (-2)) (List.mem_of_getElem? (i := 6) rfl)) dX9_sets_19 ?_
      exact W.lret (v := (-2)) hx hb hr (fun t ht hW => ⟨(-2), rfl, trivial, ht⟩) t_nil dX9_sets_22
theorem dX9_between_0 : decode cX9_between 0 = .ok (.aload_n 0, 1) := by decide +kernel
theorem dX9_between_1 : decode cX9_between 1 = .ok (.iload_n 1, 1) := by decide +kernel
theorem dX9_between_2 : decode cX9_between 2 = .ok (.iload_n 2, 1) := by decide +kernel
theorem dX9_between_3 : decode cX9_between 3 = .ok (.invokevirtual 137, 3) := by decide +kernel
theorem dX9_between_6 : decode cX9_between 6 = .ok (.ifCond .eq 19, 3) := by decide +kernel
theorem dX9_between_9 : decode cX9_between 9 = .ok (.aload_n 0, 1) := by decide +kernel
theorem dX9_between_10 : decode cX9_between 10 = .ok (.getfield 35, 3) := by decide +kernel
theorem dX9_between_13 : decode cX9_between 13 = .ok (.iload_n 3, 1) := by decide +kernel
theorem dX9_between_14 : decode cX9_between 14 = .ok (.invokevirtual 100, 3) := by decide +kernel
theorem dX9_between_17 : decode cX9_between 17 = .ok (.ifCond .eq 8, 3) := by decide +kernel
theorem dX9_between_20 : decode cX9_between 20 = .ok (.iload_n 2, 1) := by decide +kernel
theorem dX9_between_21 : decode cX9_between 21 = .ok (.iload_n 3, 1) := by decide +kernel
theorem dX9_between_22 : decode cX9_between 22 = .ok (.if_icmp .le 6, 3) := by decide +kernel
theorem dX9_between_25 : decode cX9_between 25 = .ok (.bipush (-2), 2) := by decide +kernel
theorem dX9_between_27 : decode cX9_between 27 = .ok (.ireturn, 1) := by decide +kernel
theorem dX9_between_28 : decode cX9_between 28 = .ok (.aload_n 0, 1) := by decide +kernel
theorem dX9_between_29 : decode cX9_between 29 = .ok (.getfield 35, 3) := by decide +kernel
theorem dX9_between_32 : decode cX9_between 32 = .ok (.iload_n 1, 1) := by decide +kernel
theorem dX9_between_33 : decode cX9_between 33 = .ok (.iload_n 2, 1) := by decide +kernel
theorem dX9_between_34 : decode cX9_between 34 = .ok (.iload_n 3, 1) := by decide +kernel
theorem dX9_between_35 : decode cX9_between 35 = .ok (.iconst 1, 1) := by decide +kernel
theorem dX9_between_36 : decode cX9_between 36 = .ok (.iadd, 1) := by decide +kernel
theorem dX9_between_37 : decode cX9_between 37 = .ok (.invokevirtual 162, 3) := by decide +kernel
theorem dX9_between_40 : decode cX9_between 40 = .ok (.ireturn, 1) := by decide +kernel
theorem hd_yX9_between : yX9_between.cls = RX9 ∧ yX9_between.cls ≠ "java/lang/invoke/MethodHandle" ∧ yX9_between.cls ≠ "java/lang/invoke/VarHandle" ∧ (parseMethodDescriptor yX9_between.desc).map (fun d => d.parameters.length) = some 3 := by decide +kernel
def uX9_between : List Cond := List.cons (.code yX9_between cX9_between 4 (some .int)) (HAppend.hAppend ([.methodLink RX9 137 yX9_hasBoth, .instanceMethod yX9_hasBoth, .selects RX9 yX9_hasBoth yX9_hasBoth, .initialized RX9, .fieldLink RX9 35 "LuckyTicket" "current" "LLuckyTicket$Roll;", .methodLink RX9 100 yX2_hasTicket, .instanceMethod yX2_hasTicket, .selects RX2 yX2_hasTicket yX2_hasTicket, .initialized RX2, .methodLink RX9 162 yX2_tally, .instanceMethod yX2_tally, .selects RX2 yX2_tally yX2_tally] : List Cond) (HAppend.hAppend uX9_hasBoth (HAppend.hAppend uX2_hasTicket (HAppend.hAppend uX2_tally wsX90))))
theorem iX9_between_X9 : ∀ w ∈ wsX90, w ∈ uX9_between := fun _ h => (List.mem_cons_of_mem _ (List.mem_append_right _ (List.mem_append_right _ (List.mem_append_right _ (List.mem_append_right _ h)))))
theorem guX9_between : GU uX9_between := gu_cons (gu_app (by decide +kernel) (gu_ap guX9_hasBoth (gu_ap guX2_hasTicket (gu_ap guX2_tally gws_X9))))
theorem gX9_between__X9_hasBoth_V137 : GoodIn uX9_between (wsV RX9 137 RX9 yX9_hasBoth uX9_hasBoth) := gin_V (List.mem_of_getElem? (i := 1) rfl) (List.mem_of_getElem? (i := 2) rfl) (List.mem_of_getElem? (i := 3) rfl) (List.mem_of_getElem? (i := 4) rfl) (fun _ h => (List.mem_cons_of_mem _ (List.mem_append_right _ (List.mem_append_left _ h)))) guX9_hasBoth
theorem gX9_between__X2_hasTicket_V100 : GoodIn uX9_between (wsV RX9 100 RX2 yX2_hasTicket uX2_hasTicket) := gin_V (List.mem_of_getElem? (i := 6) rfl) (List.mem_of_getElem? (i := 7) rfl) (List.mem_of_getElem? (i := 8) rfl) (List.mem_of_getElem? (i := 9) rfl) (fun _ h => (List.mem_cons_of_mem _ (List.mem_append_right _ (List.mem_append_right _ (List.mem_append_left _ h))))) guX2_hasTicket
theorem gX9_between__X2_tally_V162 : GoodIn uX9_between (wsV RX9 162 RX2 yX2_tally uX2_tally) := gin_V (List.mem_of_getElem? (i := 10) rfl) (List.mem_of_getElem? (i := 11) rfl) (List.mem_of_getElem? (i := 12) rfl) (List.mem_of_getElem? (i := 9) rfl) (fun _ h => (List.mem_cons_of_mem _ (List.mem_append_right _ (List.mem_append_right _ (List.mem_append_right _ (List.mem_append_left _ h)))))) guX2_tally
set_option maxHeartbeats 4000000 in
set_option maxRecDepth 100000 in
theorem kX9_between (l : Launch) (dC : Nat → ClassId) (dI : Nat → Nat → Nat) (h0 : Nat) (tp : Nat) (sc : Nat) (rd : Nat) (cu : Nat) (im : Nat) (ig : Nat) (sl : Nat) (se : Nat) (sm : Nat) (fc : Nat) (ln : Int32) (bs : Int32) (tk : Int32) (lw : Int32) (li : Int32) (fa : Nat) (lu : Nat) (cL : ClassId) (nl : Nat) (fl : Nat → Int32) (a1 : Int32) (a2 : Int32) (a3 : Int32) (b_ln : (0 : Int) ≤ ln.toInt ∧ ln.toInt ≤ 12) (b_bs : (0 : Int) ≤ bs.toInt ∧ bs.toInt ≤ 16) (b_tk : (0 : Int) ≤ tk.toInt ∧ tk.toInt ≤ 20000) (b_lw : (0 : Int) ≤ lw.toInt ∧ lw.toInt ≤ 9) (hl1 : tk.toInt ≤ (nl : Int)) : Met l yX9_between uX9_between ({ frames := 2, cells := 0, slots := 0, locals := 43 }) (va_Pc [.ref h0, .int a1, .int a2, .int a3] (pw (dC, dI) vwCl [(h0, .inr (7, [.ref tp, .ref sc, .ref rd, .ref cu, .ref im, .ref ig, .ref sl, .ref se, .ref sm, .ref fc])), (cu, .inr (1, [.int ln, .int bs, .int tk, .int lw, .int li, .ref fa, .ref lu])), (lu, .inl (cL, nl, .inl fl))] [(cL, .int)])) (vp_Si (fun r => True)) 0 0 (fun _ => False) := by
  refine Met.ofW (cc := cX9_between) (maxL := 4) (ret := (some .int)) pn_X9 rfl ?_
  intro p e s m args below meth c s₁ B hml hv
  obtain ⟨rfl, hP, hK, hN⟩ := hv
  have hx := B.exec
  have hb := B.bytes
  have hr := B.returns
  have hts := atoms_spec (ws := uX9_between) B.pre
  have hown : s.vm.findClass RX9 = some m.cls := hown_of B.named rfl
  have hlocks := B.notSynchronized
  have hl := lv_entry ([.ref h0, .int a1, .int a2, .int a3]) (n := 4) (Nat.le_of_ble_eq_true rfl)
  rw [lg_entry_eq]
  generalize (lg_sl ([.ref h0, .int a1, .int a2, .int a3]) ++ List.replicate (4 - (lg_sl ([.ref h0, .int a1, .int a2, .int a3])).length) Slot.unset).toArray = ls at hl ⊢
  have hl : lv_has ls 4 [(0, .ref h0), (1, .int a1), (2, .int a2), (3, .int a3)] := hl
  refine lv_aload_n hx hb dX9_between_0 rfl (lv_at hl 0 rfl) ?_
  refine lv_iload_n hx hb dX9_between_1 rfl (lv_at hl 1 rfl) ?_
  refine lv_iload_n hx hb dX9_between_2 rfl (lv_at hl 2 rfl) ?_
  refine vp_callSi (W.runV (As := [.int a1, .int a2]) (rest := []) ⟨hx, hb, hml, hown, hts⟩ (kX9_hasBoth l dC dI h0 tp sc rd cu im ig sl se sm fc ln bs tk lw li fa lu a1 a2 b_ln b_bs b_tk b_lw) (cwV 2 hts gX9_between__X9_hasBoth_V137 rfl rfl rfl hd_yX9_hasBoth ⟨lel 2 2 rfl, lel 43 43 rfl⟩) ⟨pw_fb, rcv_X9 hK hP (q0 := 0) rfl, (pw_use hP hK hN [0, 1] rfl [] rfl)⟩ rfl rfl hl.1 rfl (lv_room (Nat.le_of_ble_eq_true rfl)) dX9_between_3 ⟨lel 0 0 rfl, lel 0 0 rfl⟩) (fun r_10 h_r_10 => ?_)
  obtain ⟨b_r_10, nz_r_10⟩ := h_r_10
  have b_r_10 : (0 : Int) ≤ r_10.toInt ∧ r_10.toInt ≤ 1 := b_r_10
  refine lv_if_eq (tgt := 25) hx hb dX9_between_6 (by decide) (fun c_11 => ?_) (fun c_11 => ?_)
  ·
    have n_c_11 : (r_10.toInt : Int) = 0 := c_eq rfl (by decide) c_11
    have b_r_10 : (0 : Int) ≤ r_10.toInt ∧ r_10.toInt ≤ 0 := r_eq1 b_r_10 (by decide : (0 : Int) ≤ (0 : Int32).toInt ∧ (0 : Int32).toInt ≤ 0) n_c_11 (by decide)
    refine lv_bipush (v := (-2)) hx hb dX9_between_25 (by decide) ?_
    exact W.iret (v := (-2)) hx hb hr (fun t ht hW => ⟨(-2), rfl, trivial, ht⟩) t_nil dX9_between_27
  ·
    have n_c_11 : (r_10.toInt : Int) ≠ 0 := c_ne rfl (by decide) c_11
    have b_r_10 : (1 : Int) ≤ r_10.toInt ∧ r_10.toInt ≤ 1 := r_ne1 b_r_10 (by decide : (0 : Int) ≤ (0 : Int32).toInt ∧ (0 : Int32).toInt ≤ 0) n_c_11 (by decide)
    obtain ⟨b_a1, b_a2, g_12⟩ := nz_r_10 c_11
    refine lv_aload_n hx hb dX9_between_9 rfl (lv_at hl 0 rfl) ?_
    refine va_get (D := (dC, dI)) (ci := 7) (v := .ref cu) (C := RX9) (T := TX9) (N := 10) hx hb hts iX9_between_X9 hown hK hP 0 rfl rfl 3 (by decide) (hts (.fieldLink RX9 35 "LuckyTicket" "current" "LLuckyTicket$Roll;") (List.mem_of_getElem? (i := 5) rfl)) (fun _ h9 => h9) rfl dX9_between_10 ?_
    refine lv_iload_n hx hb dX9_between_13 rfl (lv_at hl 3 rfl) ?_
    refine vp_callSi (W.runV (As := [.int a3]) (rest := []) ⟨hx, hb, hml, hown, hts⟩ (kX2_hasTicket l dC dI cu ln bs tk lw li fa lu a3 b_ln b_bs b_tk b_lw) (cwV 1 hts gX9_between__X2_hasTicket_V100 rfl rfl rfl hd_yX2_hasTicket ⟨lel 1 2 rfl, lel 21 43 rfl⟩) ⟨pw_fb, rcv_X2 hK hP (q0 := 1) rfl, (pw_use hP hK hN [1] rfl [] rfl)⟩ rfl rfl hl.1 rfl (lv_room (Nat.le_of_ble_eq_true rfl)) dX9_between_14 ⟨lel 0 0 rfl, lel 0 0 rfl⟩) (fun r_13 h_r_13 => ?_)
    obtain ⟨b_r_13, nz_r_13⟩ := h_r_13
    have b_r_13 : (0 : Int) ≤ r_13.toInt ∧ r_13.toInt ≤ 1 := b_r_13
    refine lv_if_eq (tgt := 25) hx hb dX9_between_17 (by decide) (fun c_14 => ?_) (fun c_14 => ?_)
    ·
      have n_c_14 : (r_13.toInt : Int) = 0 := c_eq rfl (by decide) c_14
      have b_r_13 : (0 : Int) ≤ r_13.toInt ∧ r_13.toInt ≤ 0 := r_eq1 b_r_13 (by decide : (0 : Int) ≤ (0 : Int32).toInt ∧ (0 : Int32).toInt ≤ 0) n_c_14 (by decide)
      refine lv_bipush (v := (-2)) hx hb dX9_between_25 (by decide) ?_
      exact W.iret (v := (-2)) hx hb hr (fun t ht hW => ⟨(-2), rfl, trivial, ht⟩) t_nil dX9_between_27
    ·
      have n_c_14 : (r_13.toInt : Int) ≠ 0 := c_ne rfl (by decide) c_14
      have b_r_13 : (1 : Int) ≤ r_13.toInt ∧ r_13.toInt ≤ 1 := r_ne1 b_r_13 (by decide : (0 : Int) ≤ (0 : Int32).toInt ∧ (0 : Int32).toInt ≤ 0) n_c_14 (by decide)
      obtain ⟨b_a3, g_15⟩ := nz_r_13 c_14
      refine lv_iload_n hx hb dX9_between_20 rfl (lv_at hl 2 rfl) ?_
      refine lv_iload_n hx hb dX9_between_21 rfl (lv_at hl 3 rfl) ?_
      refine lv_icmp_le (tgt := 28) hx hb dX9_between_22 (by decide) (fun c_16 => ?_) (fun c_16 => ?_)
      ·
        have n_c_16 : (a2.toInt : Int) ≤ a3.toInt := c_le rfl rfl c_16
        refine lv_aload_n hx hb dX9_between_28 rfl (lv_at hl 0 rfl) ?_
        refine va_get (D := (dC, dI)) (ci := 7) (v := .ref cu) (C := RX9) (T := TX9) (N := 10) hx hb hts iX9_between_X9 hown hK hP 0 rfl rfl 3 (by decide) (hts (.fieldLink RX9 35 "LuckyTicket" "current" "LLuckyTicket$Roll;") (List.mem_of_getElem? (i := 5) rfl)) (fun _ h9 => h9) rfl dX9_between_29 ?_
        refine lv_iload_n hx hb dX9_between_32 rfl (lv_at hl 1 rfl) ?_
        refine lv_iload_n hx hb dX9_between_33 rfl (lv_at hl 2 rfl) ?_
        refine lv_iload_n hx hb dX9_between_34 rfl (lv_at hl 3 rfl) ?_
        refine lv_iconst (v := 1) hx hb dX9_between_35 (by decide) ?_
        refine lv_iadd hx hb dX9_between_36 ?_
        refine lv_topi (fun z_17 e_z_17 => ?_)
        obtain ⟨q_z_17, b_z_17⟩ := ti_add (lo := 1) (hi := 20000) e_z_17 rfl (by decide : (1 : Int32).toInt = 1) b_a3 (by decide : (1 : Int) ≤ (1 : Int32).toInt ∧ (1 : Int32).toInt ≤ 1) (by decide)
        refine vp_callSi (W.runV (As := [.int a1, .int a2, .int z_17]) (rest := []) ⟨hx, hb, hml, hown, hts⟩ (kX2_tally l dC dI cu ln bs tk lw li fa lu cL nl fl a1 a2 z_17 b_ln b_bs b_tk b_lw (by omega)) (cwV 3 hts gX9_between__X2_tally_V162 rfl rfl rfl hd_yX2_tally ⟨lel 2 2 rfl, lel 39 43 rfl⟩) ⟨pw_fb, rcv_X2 hK hP (q0 := 1) rfl, (pw_use hP hK hN [1, 2] rfl [0] rfl)⟩ rfl rfl hl.1 rfl (lv_room (Nat.le_of_ble_eq_true rfl)) dX9_between_37 ⟨lel 0 0 rfl, lel 0 0 rfl⟩) (fun r_18 h_r_18 => ?_)
        exact W.iret (v := r_18) hx hb hr (fun t ht hW => ⟨r_18, rfl, trivial, ht⟩) t_nil dX9_between_40
      ·
        have n_c_16 : (a3.toInt : Int) < a2.toInt := c_nle rfl rfl c_16
        have b_a3 : (0 : Int) ≤ a3.toInt ∧ a3.toInt ≤ 19998 := r_lt1 b_a3 b_a2 n_c_16 (by decide)
        have b_a2 : (1 : Int) ≤ a2.toInt ∧ a2.toInt ≤ 19999 := r_lt2 b_a3 b_a2 n_c_16 (by decide)
        refine lv_bipush (v := (-2)) hx hb dX9_between_25 (by decide) ?_
        exact W.iret (v := (-2)) hx hb hr (fun t ht hW => ⟨(-2), rfl, trivial, ht⟩) t_nil dX9_between_27
theorem dX9_run_0 : decode cX9_run 0 = .ok (.aload_n 0, 1) := by decide +kernel
theorem dX9_run_1 : decode cX9_run 1 = .ok (.getfield 35, 3) := by decide +kernel
theorem dX9_run_4 : decode cX9_run 4 = .ok (.iload_n 1, 1) := by decide +kernel
theorem dX9_run_5 : decode cX9_run 5 = .ok (.invokevirtual 149, 3) := by decide +kernel
theorem dX9_run_8 : decode cX9_run 8 = .ok (.ifCond .eq 12, 3) := by decide +kernel
theorem dX9_run_11 : decode cX9_run 11 = .ok (.iload_n 2, 1) := by decide +kernel
theorem dX9_run_12 : decode cX9_run 12 = .ok (.iconst 0, 1) := by decide +kernel
theorem dX9_run_13 : decode cX9_run 13 = .ok (.iconst 1, 1) := by decide +kernel
theorem dX9_run_14 : decode cX9_run 14 = .ok (.invokestatic 158, 3) := by decide +kernel
theorem dX9_run_17 : decode cX9_run 17 = .ok (.ifCond .ne 6, 3) := by decide +kernel
theorem dX9_run_20 : decode cX9_run 20 = .ok (.bipush (-2), 2) := by decide +kernel
theorem dX9_run_22 : decode cX9_run 22 = .ok (.ireturn, 1) := by decide +kernel
theorem dX9_run_23 : decode cX9_run 23 = .ok (.iconst 0, 1) := by decide +kernel
theorem dX9_run_24 : decode cX9_run 24 = .ok (.istore_n 3, 1) := by decide +kernel
theorem dX9_run_25 : decode cX9_run 25 = .ok (.iconst (-1), 1) := by decide +kernel
theorem dX9_run_26 : decode cX9_run 26 = .ok (.istore 4, 2) := by decide +kernel
theorem dX9_run_28 : decode cX9_run 28 = .ok (.iconst 0, 1) := by decide +kernel
theorem dX9_run_29 : decode cX9_run 29 = .ok (.istore 5, 2) := by decide +kernel
theorem dX9_run_31 : decode cX9_run 31 = .ok (.iconst 0, 1) := by decide +kernel
theorem dX9_run_32 : decode cX9_run 32 = .ok (.istore 6, 2) := by decide +kernel
theorem dX9_run_34 : decode cX9_run 34 = .ok (.iload 6, 2) := by decide +kernel
theorem dX9_run_36 : decode cX9_run 36 = .ok (.aload_n 0, 1) := by decide +kernel
theorem dX9_run_37 : decode cX9_run 37 = .ok (.getfield 35, 3) := by decide +kernel
theorem dX9_run_40 : decode cX9_run 40 = .ok (.getfield 155, 3) := by decide +kernel
theorem dX9_run_43 : decode cX9_run 43 = .ok (.if_icmp .ge 50, 3) := by decide +kernel
theorem dX9_run_46 : decode cX9_run 46 = .ok (.aload_n 0, 1) := by decide +kernel
theorem dX9_run_47 : decode cX9_run 47 = .ok (.getfield 35, 3) := by decide +kernel
theorem dX9_run_50 : decode cX9_run 50 = .ok (.iload_n 1, 1) := by decide +kernel
theorem dX9_run_51 : decode cX9_run 51 = .ok (.iload 6, 2) := by decide +kernel
theorem dX9_run_53 : decode cX9_run 53 = .ok (.invokevirtual 175, 3) := by decide +kernel
theorem dX9_run_56 : decode cX9_run 56 = .ok (.ifCond .eq 10, 3) := by decide +kernel
theorem dX9_run_59 : decode cX9_run 59 = .ok (.iload 5, 2) := by decide +kernel
theorem dX9_run_61 : decode cX9_run 61 = .ok (.iconst 1, 1) := by decide +kernel
theorem dX9_run_62 : decode cX9_run 62 = .ok (.iadd, 1) := by decide +kernel
theorem dX9_run_63 : decode cX9_run 63 = .ok (.goto 4, 3) := by decide +kernel
theorem dX9_run_66 : decode cX9_run 66 = .ok (.iconst 0, 1) := by decide +kernel
theorem dX9_run_67 : decode cX9_run 67 = .ok (.istore 5, 2) := by decide +kernel
theorem dX9_run_69 : decode cX9_run 69 = .ok (.iload 5, 2) := by decide +kernel
theorem dX9_run_71 : decode cX9_run 71 = .ok (.iload_n 3, 1) := by decide +kernel
theorem dX9_run_72 : decode cX9_run 72 = .ok (.if_icmp .le 15, 3) := by decide +kernel
theorem dX9_run_75 : decode cX9_run 75 = .ok (.iload 5, 2) := by decide +kernel
theorem dX9_run_77 : decode cX9_run 77 = .ok (.istore_n 3, 1) := by decide +kernel
theorem dX9_run_78 : decode cX9_run 78 = .ok (.iload 6, 2) := by decide +kernel
theorem dX9_run_80 : decode cX9_run 80 = .ok (.iload 5, 2) := by decide +kernel
theorem dX9_run_82 : decode cX9_run 82 = .ok (.isub, 1) := by decide +kernel
theorem dX9_run_83 : decode cX9_run 83 = .ok (.iconst 1, 1) := by decide +kernel
theorem dX9_run_84 : decode cX9_run 84 = .ok (.iadd, 1) := by decide +kernel
theorem dX9_run_85 : decode cX9_run 85 = .ok (.istore 4, 2) := by decide +kernel
theorem dX9_run_87 : decode cX9_run 87 = .ok (.iinc 6 1, 3) := by decide +kernel
theorem dX9_run_90 : decode cX9_run 90 = .ok (.goto (-56), 3) := by decide +kernel
theorem dX9_run_93 : decode cX9_run 93 = .ok (.iload_n 2, 1) := by decide +kernel
theorem dX9_run_94 : decode cX9_run 94 = .ok (.ifCond .ne 7, 3) := by decide +kernel
theorem dX9_run_97 : decode cX9_run 97 = .ok (.iload_n 3, 1) := by decide +kernel
theorem dX9_run_98 : decode cX9_run 98 = .ok (.goto 5, 3) := by decide +kernel
theorem dX9_run_101 : decode cX9_run 101 = .ok (.iload 4, 2) := by decide +kernel
theorem dX9_run_103 : decode cX9_run 103 = .ok (.ireturn, 1) := by decide +kernel
theorem hd_yX9_run : yX9_run.cls = RX9 ∧ yX9_run.cls ≠ "java/lang/invoke/MethodHandle" ∧ yX9_run.cls ≠ "java/lang/invoke/VarHandle" ∧ (parseMethodDescriptor yX9_run.desc).map (fun d => d.parameters.length) = some 2 := by decide +kernel
def uX9_run : List Cond := List.cons (.code yX9_run cX9_run 7 (some .int)) (HAppend.hAppend ([.fieldLink RX9 35 "LuckyTicket" "current" "LLuckyTicket$Roll;", .methodLink RX9 149 yX2_hasLaw, .instanceMethod yX2_hasLaw, .selects RX2 yX2_hasLaw yX2_hasLaw, .initialized RX2, .methodLink RX9 158 yX9_isWithin, .static yX9_isWithin, .initialized RX9, .methodLink RX9 175 yX2_isLucky, .instanceMethod yX2_isLucky, .selects RX2 yX2_isLucky yX2_isLucky] : List Cond) (HAppend.hAppend uX2_hasLaw (HAppend.hAppend uX9_isWithin (HAppend.hAppend uX2_isLucky (HAppend.hAppend wsX90 wsX20)))))
theorem iX9_run_X9 : ∀ w ∈ wsX90, w ∈ uX9_run := fun _ h => (List.mem_cons_of_mem _ (List.mem_append_right _ (List.mem_append_right _ (List.mem_append_right _ (List.mem_append_right _ (List.mem_append_left _ h))))))
theorem iX9_run_X2 : ∀ w ∈ wsX20, w ∈ uX9_run := fun _ h => (List.mem_cons_of_mem _ (List.mem_append_right _ (List.mem_append_right _ (List.mem_append_right _ (List.mem_append_right _ (List.mem_append_right _ h))))))
theorem guX9_run : GU uX9_run := gu_cons (gu_app (by decide +kernel) (gu_ap guX2_hasLaw (gu_ap guX9_isWithin (gu_ap guX2_isLucky (gu_ap gws_X9 gws_X2)))))
theorem gX9_run__X2_hasLaw_V149 : GoodIn uX9_run (wsV RX9 149 RX2 yX2_hasLaw uX2_hasLaw) := gin_V (List.mem_of_getElem? (i := 2) rfl) (List.mem_of_getElem? (i := 3) rfl) (List.mem_of_getElem? (i := 4) rfl) (List.mem_of_getElem? (i := 5) rfl) (fun _ h => (List.mem_cons_of_mem _ (List.mem_append_right _ (List.mem_append_left _ h)))) guX2_hasLaw
theorem gX9_run__X9_isWithin_S158 : GoodIn uX9_run (va_wsS RX9 158 yX9_isWithin uX9_isWithin) := gin_S (List.mem_of_getElem? (i := 6) rfl) (List.mem_of_getElem? (i := 7) rfl) (List.mem_of_getElem? (i := 8) rfl) (fun _ h => (List.mem_cons_of_mem _ (List.mem_append_right _ (List.mem_append_right _ (List.mem_append_left _ h))))) guX9_isWithin
theorem gX9_run__X2_isLucky_V175 : GoodIn uX9_run (wsV RX9 175 RX2 yX2_isLucky uX2_isLucky) := gin_V (List.mem_of_getElem? (i := 9) rfl) (List.mem_of_getElem? (i := 10) rfl) (List.mem_of_getElem? (i := 11) rfl) (List.mem_of_getElem? (i := 5) rfl) (fun _ h => (List.mem_cons_of_mem _ (List.mem_append_right _ (List.mem_append_right _ (List.mem_append_right _ (List.mem_append_left _ h)))))) guX2_isLucky
set_option maxHeartbeats 4000000 in
set_option maxRecDepth 100000 in
theorem kX9_run (l : Launch) (dC : Nat → ClassId) (dI : Nat → Nat → Nat) (h0 : Nat) (tp : Nat) (sc : Nat) (rd : Nat) (cu : Nat) (im : Nat) (ig : Nat) (sl : Nat) (se : Nat) (sm : Nat) (fc : Nat) (ln : Int32) (bs : Int32) (tk : Int32) (lw : Int32) (li : Int32) (fa : Nat) (lu : Nat) (cL : ClassId) (nl : Nat) (fl : Nat → Int32) (a1 : Int32) (a2 : Int32) (b_ln : (0 : Int) ≤ ln.toInt ∧ ln.toInt ≤ 12) (b_bs : (0 : Int) ≤ bs.toInt ∧ bs.toInt ≤ 16) (b_tk : (0 : Int) ≤ tk.toInt ∧ tk.toInt ≤ 20000) (b_lw : (0 : Int) ≤ lw.toInt ∧ lw.toInt ≤ 9) (hl1 : tk.toInt ≤ (nl : Int)) : Met l yX9_run uX9_run ({ frames := 1, cells := 0, slots := 0, locals := 22 }) (va_Pc [.ref h0, .int a1, .int a2] (pw (dC, dI) vwCl [(h0, .inr (7, [.ref tp, .ref sc, .ref rd, .ref cu, .ref im, .ref ig, .ref sl, .ref se, .ref sm, .ref fc])), (cu, .inr (1, [.int ln, .int bs, .int tk, .int lw, .int li, .ref fa, .ref lu])), (lu, .inl (cL, nl, .inl fl))] [(cL, .int)])) (vp_Si (fun r => True)) 0 0 (fun _ => False) := by
  refine Met.ofW (cc := cX9_run) (maxL := 7) (ret := (some .int)) pn_X9 rfl ?_
  intro p e s m args below meth c s₁ B hml hv
  obtain ⟨rfl, hP, hK, hN⟩ := hv
  have hx := B.exec
  have hb := B.bytes
  have hr := B.returns
  have hts := atoms_spec (ws := uX9_run) B.pre
  have hown : s.vm.findClass RX9 = some m.cls := hown_of B.named rfl
  have hlocks := B.notSynchronized
  have hl := lv_entry ([.ref h0, .int a1, .int a2]) (n := 7) (Nat.le_of_ble_eq_true rfl)
  rw [lg_entry_eq]
  generalize (lg_sl ([.ref h0, .int a1, .int a2]) ++ List.replicate (7 - (lg_sl ([.ref h0, .int a1, .int a2])).length) Slot.unset).toArray = ls at hl ⊢
  have hl : lv_has ls 7 [(0, .ref h0), (1, .int a1), (2, .int a2)] := hl
  refine lv_aload_n hx hb dX9_run_0 rfl (lv_at hl 0 rfl) ?_
  refine va_get (D := (dC, dI)) (ci := 7) (v := .ref cu) (C := RX9) (T := TX9) (N := 10) hx hb hts iX9_run_X9 hown hK hP 0 rfl rfl 3 (by decide) (hts (.fieldLink RX9 35 "LuckyTicket" "current" "LLuckyTicket$Roll;") (List.mem_of_getElem? (i := 1) rfl)) (fun _ h9 => h9) rfl dX9_run_1 ?_
  refine lv_iload_n hx hb dX9_run_4 rfl (lv_at hl 1 rfl) ?_
  refine vp_callSi (W.runV (As := [.int a1]) (rest := []) ⟨hx, hb, hml, hown, hts⟩ (kX2_hasLaw l dC dI cu ln bs tk lw li fa lu a1 b_ln b_bs b_tk b_lw) (cwV 1 hts gX9_run__X2_hasLaw_V149 rfl rfl rfl hd_yX2_hasLaw ⟨lel 1 1 rfl, lel 21 22 rfl⟩) ⟨pw_fb, rcv_X2 hK hP (q0 := 1) rfl, (pw_use hP hK hN [1] rfl [] rfl)⟩ rfl rfl hl.1 rfl (lv_room (Nat.le_of_ble_eq_true rfl)) dX9_run_5 ⟨lel 0 0 rfl, lel 0 0 rfl⟩) (fun r_487 h_r_487 => ?_)
  obtain ⟨b_r_487, nz_r_487⟩ := h_r_487
  have b_r_487 : (0 : Int) ≤ r_487.toInt ∧ r_487.toInt ≤ 1 := b_r_487
  refine lv_if_eq (tgt := 20) hx hb dX9_run_8 (by decide) (fun c_488 => ?_) (fun c_488 => ?_)
  ·
    have n_c_488 : (r_487.toInt : Int) = 0 := c_eq rfl (by decide) c_488
    have b_r_487 : (0 : Int) ≤ r_487.toInt ∧ r_487.toInt ≤ 0 := r_eq1 b_r_487 (by decide : (0 : Int) ≤ (0 : Int32).toInt ∧ (0 : Int32).toInt ≤ 0) n_c_488 (by decide)
    refine lv_bipush (v := (-2)) hx hb dX9_run_20 (by decide) ?_
    exact W.iret (v := (-2)) hx hb hr (fun t ht hW => ⟨(-2), rfl, trivial, ht⟩) t_nil dX9_run_22
  ·
    have n_c_488 : (r_487.toInt : Int) ≠ 0 := c_ne rfl (by decide) c_488
    have b_r_487 : (1 : Int) ≤ r_487.toInt ∧ r_487.toInt ≤ 1 := r_ne1 b_r_487 (by decide : (0 : Int) ≤ (0 : Int32).toInt ∧ (0 : Int32).toInt ≤ 0) n_c_488 (by decide)
    obtain ⟨b_a1, g_489⟩ := nz_r_487 c_488
    refine lv_iload_n hx hb dX9_run_11 rfl (lv_at hl 2 rfl) ?_
    refine lv_iconst (v := 0) hx hb dX9_run_12 (by decide) ?_
    refine lv_iconst (v := 1) hx hb dX9_run_13 (by decide) ?_
    refine vp_callSi (W.runS (As := [.int a2, .int 0, .int 1]) (rest := []) ⟨hx, hb, hml, hown, hts⟩ (kX9_isWithin l dC dI a2 0 1 ) (va_cwS 3 hts gX9_run__X9_isWithin_S158 rfl rfl rfl hd_yX9_isWithin.2 ⟨lel 1 1 rfl, lel 22 22 rfl⟩) ⟨pn_fb, pn_use⟩ rfl rfl hl.1 rfl (lv_room (Nat.le_of_ble_eq_true rfl)) dX9_run_14 ⟨lel 0 0 rfl, lel 0 0 rfl⟩) (fun r_490 h_r_490 => ?_)
    obtain ⟨b_r_490, nz_r_490⟩ := h_r_490
    have b_r_490 : (0 : Int) ≤ r_490.toInt ∧ r_490.toInt ≤ 1 := b_r_490
    refine lv_if_ne (tgt := 23) hx hb dX9_run_17 (by decide) (fun c_491 => ?_) (fun c_491 => ?_)
    ·
      have n_c_491 : (r_490.toInt : Int) ≠ 0 := c_ne rfl (by decide) c_491
      have b_r_490 : (1 : Int) ≤ r_490.toInt ∧ r_490.toInt ≤ 1 := r_ne1 b_r_490 (by decide : (0 : Int) ≤ (0 : Int32).toInt ∧ (0 : Int32).toInt ≤ 0) n_c_491 (by decide)
      have g_492 := nz_r_490 c_491
      have lt0_g_492 := (by decide : (0 : Int32).toInt = 0)
      have lt1_g_492 := (by decide : (1 : Int32).toInt = 1)
      have b_a2 : (0 : Int) ≤ a2.toInt ∧ a2.toInt ≤ 1 := by
        have q0 := (ti_rng a2)
        have q1 := (by decide : (0 : Int) ≤ (0 : Int32).toInt ∧ (0 : Int32).toInt ≤ 0)
        have q2 := (by decide : (1 : Int) ≤ (1 : Int32).toInt ∧ (1 : Int32).toInt ≤ 1)
        omega
      refine lv_iconst (v := 0) hx hb dX9_run_23 (by decide) ?_
      refine lv_istore_n (lv' := [(3, .int 0), (0, .ref h0), (1, .int a1), (2, .int a2)]) hx hb dX9_run_24 rfl hl (by decide) rfl (fun ls hl => ?_)
      refine lv_iconst (v := (-1)) hx hb dX9_run_25 (by decide) ?_
      refine lv_istore (lv' := [(4, .int (-1)), (3, .int 0), (0, .ref h0), (1, .int a1), (2, .int a2)]) hx hb dX9_run_26 hl (by decide) rfl (fun ls hl => ?_)
      refine lv_iconst (v := 0) hx hb dX9_run_28 (by decide) ?_
      refine lv_istore (lv' := [(5, .int 0), (4, .int (-1)), (3, .int 0), (0, .ref h0), (1, .int a1), (2, .int a2)]) hx hb dX9_run_29 hl (by decide) rfl (fun ls hl => ?_)
      refine lv_iconst (v := 0) hx hb dX9_run_31 (by decide) ?_
      refine lv_istore (lv' := [(6, .int 0), (5, .int 0), (4, .int (-1)), (3, .int 0), (0, .ref h0), (1, .int a1), (2, .int a2)]) hx hb dX9_run_32 hl (by decide) rfl (fun ls hl => ?_)
      refine loopP (σ := Int32 × Int32 × Int32 × Int32) (fun v => (20000 - v.1.toInt).toNat) (fun v ls => ((0 : Int) ≤ v.1.toInt ∧ v.1.toInt ≤ 20000) ∧ ((-2147483648 : Int) ≤ v.2.2.1.toInt ∧ v.2.2.1.toInt ≤ 19999) ∧ ((0 : Int) ≤ v.2.2.2.toInt ∧ v.2.2.2.toInt ≤ 2147483647) ∧ lv_has ls 7 [(6, .int v.1), (5, .int v.2.1), (4, .int v.2.2.1), (3, .int v.2.2.2), (0, .ref h0), (1, .int a1), (2, .int a2)]) (fun v ls hI ih_34_944 => ?_) ((0 : Int32), (0 : Int32), (-1 : Int32), (0 : Int32)) ⟨(show (0 : Int) ≤ (0 : Int32).toInt ∧ (0 : Int32).toInt ≤ 20000 from (rg_w (by decide : (0 : Int) ≤ (0 : Int32).toInt ∧ (0 : Int32).toInt ≤ 0) (by decide) (by decide))), (show (-2147483648 : Int) ≤ (-1 : Int32).toInt ∧ (-1 : Int32).toInt ≤ 19999 from (rg_w (by decide : (-1 : Int) ≤ ((-1) : Int32).toInt ∧ ((-1) : Int32).toInt ≤ -1) (by decide) (by decide))), (show (0 : Int) ≤ (0 : Int32).toInt ∧ (0 : Int32).toInt ≤ 2147483647 from (rg_w (by decide : (0 : Int) ≤ (0 : Int32).toInt ∧ (0 : Int32).toInt ≤ 0) (by decide) (by decide))), lv_sub hl [0, 1, 2, 3, 4, 5, 6] rfl⟩
      obtain ⟨y_521, y_522, y_523, y_524⟩ := v
      obtain ⟨b_y_521, b_y_523, b_y_524, hl⟩ := hI
      have b_y_521 : (0 : Int) ≤ y_521.toInt ∧ y_521.toInt ≤ 20000 := b_y_521
      have b_y_523 : (-2147483648 : Int) ≤ y_523.toInt ∧ y_523.toInt ≤ 19999 := b_y_523
      have b_y_524 : (0 : Int) ≤ y_524.toInt ∧ y_524.toInt ≤ 2147483647 := b_y_524
      have hl : lv_has ls 7 [(6, .int y_521), (5, .int y_522), (4, .int y_523), (3, .int y_524), (0, .ref h0), (1, .int a1), (2, .int a2)] := hl
      refine lv_iload hx hb dX9_run_34 (lv_at hl 0 rfl) ?_
      refine lv_aload_n hx hb dX9_run_36 rfl (lv_at hl 4 rfl) ?_
      refine va_get (D := (dC, dI)) (ci := 7) (v := .ref cu) (C := RX9) (T := TX9) (N := 10) hx hb hts iX9_run_X9 hown hK hP 0 rfl rfl 3 (by decide) (hts (.fieldLink RX9 35 "LuckyTicket" "current" "LLuckyTicket$Roll;") (List.mem_of_getElem? (i := 1) rfl)) (fun _ h9 => h9) rfl dX9_run_37 ?_
      refine va_getN (own := RX9) (index := 155) (ref := RX2) (host := RX9) (D := (dC, dI)) (ci := 1) (v := .int tk) (C := RX2) (T := TX2) (N := 7) hx hb hts iX9_run_X2 hown hK hP 1 rfl rfl 2 (by decide) (va_Nw.use rfl (hN _ (List.mem_of_getElem? (i := 18) rfl))) (fun _ h9 => h9) rfl dX9_run_40 ?_
      refine lv_icmp_ge (tgt := 93) hx hb dX9_run_43 (by decide) (fun c_945 => ?_) (fun c_945 => ?_)
      ·
        have n_c_945 : (tk.toInt : Int) ≤ y_521.toInt := c_ge rfl rfl c_945
        refine lv_iload_n hx hb dX9_run_93 rfl (lv_at hl 6 rfl) ?_
        refine lv_if_ne (tgt := 101) hx hb dX9_run_94 (by decide) (fun c_959 => ?_) (fun c_959 => ?_)
        ·
          have n_c_959 : (a2.toInt : Int) ≠ 0 := c_ne rfl (by decide) c_959
          have b_a2 : (1 : Int) ≤ a2.toInt ∧ a2.toInt ≤ 1 := r_ne1 b_a2 (by decide : (0 : Int) ≤ (0 : Int32).toInt ∧ (0 : Int32).toInt ≤ 0) n_c_959 (by decide)
          refine lv_iload hx hb dX9_run_101 (lv_at hl 2 rfl) ?_
          exact W.iret (v := y_523) hx hb hr (fun t ht hW => ⟨y_523, rfl, trivial, ht⟩) t_nil dX9_run_103
        ·
          have n_c_959 : (a2.toInt : Int) = 0 := c_eq rfl (by decide) c_959
          have b_a2 : (0 : Int) ≤ a2.toInt ∧ a2.toInt ≤ 0 := r_eq1 b_a2 (by decide : (0 : Int) ≤ (0 : Int32).toInt ∧ (0 : Int32).toInt ≤ 0) n_c_959 (by decide)
          refine lv_iload_n hx hb dX9_run_97 rfl (lv_at hl 3 rfl) ?_
          refine lv_goto (tgt := 103) hx hb dX9_run_98 (by decide) ?_
          exact W.iret (v := y_524) hx hb hr (fun t ht hW => ⟨y_524, rfl, trivial, ht⟩) t_nil dX9_run_103
      ·
        have n_c_945 : (y_521.toInt : Int) < tk.toInt := c_nge rfl rfl c_945
        have b_y_521 : (0 : Int) ≤ y_521.toInt ∧ y_521.toInt ≤ 19999 := r_lt1 b_y_521 b_tk n_c_945 (by decide)
        have b_tk : (1 : Int) ≤ tk.toInt ∧ tk.toInt ≤ 20000 := r_lt2 b_y_521 b_tk n_c_945 (by decide)
        refine lv_aload_n hx hb dX9_run_46 rfl (lv_at hl 4 rfl) ?_
        refine va_get (D := (dC, dI)) (ci := 7) (v := .ref cu) (C := RX9) (T := TX9) (N := 10) hx hb hts iX9_run_X9 hown hK hP 0 rfl rfl 3 (by decide) (hts (.fieldLink RX9 35 "LuckyTicket" "current" "LLuckyTicket$Roll;") (List.mem_of_getElem? (i := 1) rfl)) (fun _ h9 => h9) rfl dX9_run_47 ?_
        refine lv_iload_n hx hb dX9_run_50 rfl (lv_at hl 5 rfl) ?_
        refine lv_iload hx hb dX9_run_51 (lv_at hl 0 rfl) ?_
        refine vp_callSi (W.runV (As := [.int a1, .int y_521]) (rest := []) ⟨hx, hb, hml, hown, hts⟩ (kX2_isLucky l dC dI cu ln bs tk lw li fa lu cL nl fl a1 y_521 b_ln b_bs (rg_w b_tk (by decide) (by decide)) b_lw (by omega)) (cwV 2 hts gX9_run__X2_isLucky_V175 rfl rfl rfl hd_yX2_isLucky ⟨lel 1 1 rfl, lel 22 22 rfl⟩) ⟨pw_fb, rcv_X2 hK hP (q0 := 1) rfl, (pw_use hP hK hN [1, 2] rfl [0] rfl)⟩ rfl rfl hl.1 rfl (lv_room (Nat.le_of_ble_eq_true rfl)) dX9_run_53 ⟨lel 0 0 rfl, lel 0 0 rfl⟩) (fun r_960 h_r_960 => ?_)
        have b_r_960 := h_r_960
        have b_r_960 : (0 : Int) ≤ r_960.toInt ∧ r_960.toInt ≤ 1 := b_r_960
        refine cutP (σ := Int32) (pc2 := 67) (st2 := fun v => [.int v]) (cells2 := 0) (slots2 := 0) (fun v ls => lv_has ls 7 [(6, .int y_521), (5, .int y_522), (4, .int y_523), (3, .int y_524), (0, .ref h0), (1, .int a1), (2, .int a2)]) (fun v ls hI => ?_) (fun hj_67_963 => ?_)
        ·
          obtain ⟨y_963, rfl⟩ : ∃ z, z = v := ⟨_, rfl⟩
          have hl := hI
          have hl : lv_has ls 7 [(6, .int y_521), (5, .int y_522), (4, .int y_523), (3, .int y_524), (0, .ref h0), (1, .int a1), (2, .int a2)] := hl
          refine lv_istore (lv' := [(5, .int y_963), (6, .int y_521), (4, .int y_523), (3, .int y_524), (0, .ref h0), (1, .int a1), (2, .int a2)]) hx hb dX9_run_67 hl (by decide) rfl (fun ls hl => ?_)
          refine lv_iload hx hb dX9_run_69 (lv_at hl 0 rfl) ?_
          refine lv_iload_n hx hb dX9_run_71 rfl (lv_at hl 3 rfl) ?_
          refine cutP (σ := Int32 × Int32) (pc2 := 87) (st2 := fun v => []) (cells2 := 0) (slots2 := 0) (fun v ls => ((-2147483648 : Int) ≤ v.1.toInt ∧ v.1.toInt ≤ 19999) ∧ ((0 : Int) ≤ v.2.toInt ∧ v.2.toInt ≤ 2147483647) ∧ lv_has ls 7 [(5, .int y_963), (6, .int y_521), (4, .int v.1), (3, .int v.2), (0, .ref h0), (1, .int a1), (2, .int a2)]) (fun v ls hI => ?_) (fun hj_87_968 => ?_)
          ·
            obtain ⟨y_967, y_968⟩ := v
            obtain ⟨b_y_967, b_y_968, hl⟩ := hI
            have b_y_967 : (-2147483648 : Int) ≤ y_967.toInt ∧ y_967.toInt ≤ 19999 := b_y_967
            have b_y_968 : (0 : Int) ≤ y_968.toInt ∧ y_968.toInt ≤ 2147483647 := b_y_968
            have hl : lv_has ls 7 [(5, .int y_963), (6, .int y_521), (4, .int y_967), (3, .int y_968), (0, .ref h0), (1, .int a1), (2, .int a2)] := hl
            obtain ⟨z_969, e_z_969⟩ : ∃ y : Int32, y = y_521 + 1 := ⟨_, rfl⟩
            refine lv_iinc (v := z_969) (lv' := [(6, .int z_969), (5, .int y_963), (4, .int y_967), (3, .int y_968), (0, .ref h0), (1, .int a1), (2, .int a2)]) hx hb dX9_run_87 hl (k := 1) rfl (by rw [e_z_969]; rfl) (by decide) rfl (fun ls hl => ?_)
            obtain ⟨q_z_969, b_z_969⟩ := ti_add (lo := 1) (hi := 20000) e_z_969 rfl (by decide : (1 : Int32).toInt = 1) b_y_521 (by decide : (1 : Int) ≤ (1 : Int32).toInt ∧ (1 : Int32).toInt ≤ 1) (by decide)
            refine lv_goto (tgt := 34) hx hb dX9_run_90 (by decide) ?_
            exact ih_34_944 (z_969, y_963, y_967, y_968) _ ⟨(show (0 : Int) ≤ z_969.toInt ∧ z_969.toInt ≤ 20000 from (rg_w b_z_969 (by decide) (by decide))), (show (-2147483648 : Int) ≤ y_967.toInt ∧ y_967.toInt ≤ 19999 from b_y_967), (show (0 : Int) ≤ y_968.toInt ∧ y_968.toInt ≤ 2147483647 from b_y_968), lv_sub hl [0, 1, 2, 3, 4, 5, 6] rfl⟩ (show (20000 - z_969.toInt).toNat < (20000 - y_521.toInt).toNat by omega)
          ·
            refine lv_icmp_le (tgt := 87) hx hb dX9_run_72 (by decide) (fun c_964 => ?_) (fun c_964 => ?_)
            ·
              have n_c_964 : (y_963.toInt : Int) ≤ y_524.toInt := c_le rfl rfl c_964
              exact hj_87_968 (y_523, y_524) _ ⟨(show (-2147483648 : Int) ≤ y_523.toInt ∧ y_523.toInt ≤ 19999 from b_y_523), (show (0 : Int) ≤ y_524.toInt ∧ y_524.toInt ≤ 2147483647 from b_y_524), lv_sub hl [0, 1, 2, 3, 4, 5, 6] rfl⟩
            ·
              have n_c_964 : (y_524.toInt : Int) < y_963.toInt := c_nle rfl rfl c_964
              have b_y_524 : (0 : Int) ≤ y_524.toInt ∧ y_524.toInt ≤ 2147483646 := r_lt1 b_y_524 (ti_rng y_963) n_c_964 (by decide)
              have b_y_963 : (1 : Int) ≤ y_963.toInt ∧ y_963.toInt ≤ 2147483647 := r_lt2 b_y_524 (ti_rng y_963) n_c_964 (by decide)
              refine lv_iload hx hb dX9_run_75 (lv_at hl 0 rfl) ?_
              refine lv_istore_n (lv' := [(3, .int y_963), (5, .int y_963), (6, .int y_521), (4, .int y_523), (0, .ref h0), (1, .int a1), (2, .int a2)]) hx hb dX9_run_77 rfl hl (by decide) rfl (fun ls hl => ?_)
              refine lv_iload hx hb dX9_run_78 (lv_at hl 2 rfl) ?_
              refine lv_iload hx hb dX9_run_80 (lv_at hl 1 rfl) ?_
              refine lv_isub hx hb dX9_run_82 ?_
              refine lv_topi (fun z_970 e_z_970 => ?_)
              obtain ⟨q_z_970, b_z_970⟩ := ti_sub (lo := -2147483647) (hi := 19998) e_z_970 rfl rfl b_y_521 b_y_963 (by decide)
              refine lv_iconst (v := 1) hx hb dX9_run_83 (by decide) ?_
              refine lv_iadd hx hb dX9_run_84 ?_
              refine lv_topi (fun z_971 e_z_971 => ?_)
              obtain ⟨q_z_971, b_z_971⟩ := ti_add (lo := -2147483646) (hi := 19999) e_z_971 rfl (by decide : (1 : Int32).toInt = 1) b_z_970 (by decide : (1 : Int) ≤ (1 : Int32).toInt ∧ (1 : Int32).toInt ≤ 1) (by decide)
              refine lv_istore (lv' := [(4, .int z_971), (3, .int y_963), (5, .int y_963), (6, .int y_521), (0, .ref h0), (1, .int a1), (2, .int a2)]) hx hb dX9_run_85 hl (by decide) rfl (fun ls hl => ?_)
              exact hj_87_968 (z_971, y_963) _ ⟨(show (-2147483648 : Int) ≤ z_971.toInt ∧ z_971.toInt ≤ 19999 from (rg_w b_z_971 (by decide) (by decide))), (show (0 : Int) ≤ y_963.toInt ∧ y_963.toInt ≤ 2147483647 from (rg_w b_y_963 (by decide) (by decide))), lv_sub hl [2, 3, 0, 1, 4, 5, 6] rfl⟩
        ·
          refine lv_if_eq (tgt := 66) hx hb dX9_run_56 (by decide) (fun c_961 => ?_) (fun c_961 => ?_)
          ·
            have n_c_961 : (r_960.toInt : Int) = 0 := c_eq rfl (by decide) c_961
            have b_r_960 : (0 : Int) ≤ r_960.toInt ∧ r_960.toInt ≤ 0 := r_eq1 b_r_960 (by decide : (0 : Int) ≤ (0 : Int32).toInt ∧ (0 : Int32).toInt ≤ 0) n_c_961 (by decide)
            refine lv_iconst (v := 0) hx hb dX9_run_66 (by decide) ?_
            exact hj_67_963 (0 : Int32) _ (lv_sub hl [0, 1, 2, 3, 4, 5, 6] rfl)
          ·
            have n_c_961 : (r_960.toInt : Int) ≠ 0 := c_ne rfl (by decide) c_961
            have b_r_960 : (1 : Int) ≤ r_960.toInt ∧ r_960.toInt ≤ 1 := r_ne1 b_r_960 (by decide : (0 : Int) ≤ (0 : Int32).toInt ∧ (0 : Int32).toInt ≤ 0) n_c_961 (by decide)
            refine lv_iload hx hb dX9_run_59 (lv_at hl 1 rfl) ?_
            refine lv_iconst (v := 1) hx hb dX9_run_61 (by decide) ?_
            refine lv_iadd hx hb dX9_run_62 ?_
            refine lv_topi (fun z_972 e_z_972 => ?_)
            refine lv_goto (tgt := 67) hx hb dX9_run_63 (by decide) ?_
            exact hj_67_963 z_972 _ (lv_sub hl [0, 1, 2, 3, 4, 5, 6] rfl)
    ·
      have n_c_491 : (r_490.toInt : Int) = 0 := c_eq rfl (by decide) c_491
      have b_r_490 : (0 : Int) ≤ r_490.toInt ∧ r_490.toInt ≤ 0 := r_eq1 b_r_490 (by decide : (0 : Int) ≤ (0 : Int32).toInt ∧ (0 : Int32).toInt ≤ 0) n_c_491 (by decide)
      refine lv_bipush (v := (-2)) hx hb dX9_run_20 (by decide) ?_
      exact W.iret (v := (-2)) hx hb hr (fun t ht hW => ⟨(-2), rfl, trivial, ht⟩) t_nil dX9_run_22
theorem dX9_window_0 : decode cX9_window 0 = .ok (.aload_n 0, 1) := by decide +kernel
theorem dX9_window_1 : decode cX9_window 1 = .ok (.getfield 35, 3) := by decide +kernel
theorem dX9_window_4 : decode cX9_window 4 = .ok (.iload_n 1, 1) := by decide +kernel
theorem dX9_window_5 : decode cX9_window 5 = .ok (.invokevirtual 149, 3) := by decide +kernel
theorem dX9_window_8 : decode cX9_window 8 = .ok (.ifCond .eq 27, 3) := by decide +kernel
theorem dX9_window_11 : decode cX9_window 11 = .ok (.iload_n 2, 1) := by decide +kernel
theorem dX9_window_12 : decode cX9_window 12 = .ok (.iconst 1, 1) := by decide +kernel
theorem dX9_window_13 : decode cX9_window 13 = .ok (.aload_n 0, 1) := by decide +kernel
theorem dX9_window_14 : decode cX9_window 14 = .ok (.getfield 35, 3) := by decide +kernel
theorem dX9_window_17 : decode cX9_window 17 = .ok (.getfield 155, 3) := by decide +kernel
theorem dX9_window_20 : decode cX9_window 20 = .ok (.invokestatic 158, 3) := by decide +kernel
theorem dX9_window_23 : decode cX9_window 23 = .ok (.ifCond .eq 12, 3) := by decide +kernel
theorem dX9_window_26 : decode cX9_window 26 = .ok (.iload_n 3, 1) := by decide +kernel
theorem dX9_window_27 : decode cX9_window 27 = .ok (.iconst 0, 1) := by decide +kernel
theorem dX9_window_28 : decode cX9_window 28 = .ok (.iconst 3, 1) := by decide +kernel
theorem dX9_window_29 : decode cX9_window 29 = .ok (.invokestatic 158, 3) := by decide +kernel
theorem dX9_window_32 : decode cX9_window 32 = .ok (.ifCond .ne 6, 3) := by decide +kernel
theorem dX9_window_35 : decode cX9_window 35 = .ok (.bipush (-2), 2) := by decide +kernel
theorem dX9_window_37 : decode cX9_window 37 = .ok (.ireturn, 1) := by decide +kernel
theorem dX9_window_38 : decode cX9_window 38 = .ok (.iload_n 3, 1) := by decide +kernel
theorem dX9_window_39 : decode cX9_window 39 = .ok (.iconst 2, 1) := by decide +kernel
theorem dX9_window_40 : decode cX9_window 40 = .ok (.if_icmp .ge 7, 3) := by decide +kernel
theorem dX9_window_43 : decode cX9_window 43 = .ok (.iconst 1, 1) := by decide +kernel
theorem dX9_window_44 : decode cX9_window 44 = .ok (.goto 4, 3) := by decide +kernel
theorem dX9_window_47 : decode cX9_window 47 = .ok (.iconst (-1), 1) := by decide +kernel
theorem dX9_window_48 : decode cX9_window 48 = .ok (.istore 4, 2) := by decide +kernel
theorem dX9_window_50 : decode cX9_window 50 = .ok (.aload_n 0, 1) := by decide +kernel
theorem dX9_window_51 : decode cX9_window 51 = .ok (.getfield 35, 3) := by decide +kernel
theorem dX9_window_54 : decode cX9_window 54 = .ok (.iload_n 1, 1) := by decide +kernel
theorem dX9_window_55 : decode cX9_window 55 = .ok (.iconst 0, 1) := by decide +kernel
theorem dX9_window_56 : decode cX9_window 56 = .ok (.iload_n 2, 1) := by decide +kernel
theorem dX9_window_57 : decode cX9_window 57 = .ok (.invokevirtual 162, 3) := by decide +kernel
theorem dX9_window_60 : decode cX9_window 60 = .ok (.istore 5, 2) := by decide +kernel
theorem dX9_window_62 : decode cX9_window 62 = .ok (.iload 5, 2) := by decide +kernel
theorem dX9_window_64 : decode cX9_window 64 = .ok (.istore 6, 2) := by decide +kernel
theorem dX9_window_66 : decode cX9_window 66 = .ok (.iconst 0, 1) := by decide +kernel
theorem dX9_window_67 : decode cX9_window 67 = .ok (.istore 7, 2) := by decide +kernel
theorem dX9_window_69 : decode cX9_window 69 = .ok (.iconst 1, 1) := by decide +kernel
theorem dX9_window_70 : decode cX9_window 70 = .ok (.istore 8, 2) := by decide +kernel
theorem dX9_window_72 : decode cX9_window 72 = .ok (.iload 8, 2) := by decide +kernel
theorem dX9_window_74 : decode cX9_window 74 = .ok (.iload_n 2, 1) := by decide +kernel
theorem dX9_window_75 : decode cX9_window 75 = .ok (.iadd, 1) := by decide +kernel
theorem dX9_window_76 : decode cX9_window 76 = .ok (.aload_n 0, 1) := by decide +kernel
theorem dX9_window_77 : decode cX9_window 77 = .ok (.getfield 35, 3) := by decide +kernel
theorem dX9_window_80 : decode cX9_window 80 = .ok (.getfield 155, 3) := by decide +kernel
theorem dX9_window_83 : decode cX9_window 83 = .ok (.if_icmp .gt 62, 3) := by decide +kernel
theorem dX9_window_86 : decode cX9_window 86 = .ok (.iload 5, 2) := by decide +kernel
theorem dX9_window_88 : decode cX9_window 88 = .ok (.aload_n 0, 1) := by decide +kernel
theorem dX9_window_89 : decode cX9_window 89 = .ok (.getfield 35, 3) := by decide +kernel
theorem dX9_window_92 : decode cX9_window 92 = .ok (.iload_n 1, 1) := by decide +kernel
theorem dX9_window_93 : decode cX9_window 93 = .ok (.iload 8, 2) := by decide +kernel
theorem dX9_window_95 : decode cX9_window 95 = .ok (.iload_n 2, 1) := by decide +kernel
theorem dX9_window_96 : decode cX9_window 96 = .ok (.iadd, 1) := by decide +kernel
theorem dX9_window_97 : decode cX9_window 97 = .ok (.iconst 1, 1) := by decide +kernel
theorem dX9_window_98 : decode cX9_window 98 = .ok (.isub, 1) := by decide +kernel
theorem dX9_window_99 : decode cX9_window 99 = .ok (.invokevirtual 141, 3) := by decide +kernel
theorem dX9_window_102 : decode cX9_window 102 = .ok (.aload_n 0, 1) := by decide +kernel
theorem dX9_window_103 : decode cX9_window 103 = .ok (.getfield 35, 3) := by decide +kernel
theorem dX9_window_106 : decode cX9_window 106 = .ok (.iload_n 1, 1) := by decide +kernel
theorem dX9_window_107 : decode cX9_window 107 = .ok (.iload 8, 2) := by decide +kernel
theorem dX9_window_109 : decode cX9_window 109 = .ok (.iconst 1, 1) := by decide +kernel
theorem dX9_window_110 : decode cX9_window 110 = .ok (.isub, 1) := by decide +kernel
theorem dX9_window_111 : decode cX9_window 111 = .ok (.invokevirtual 141, 3) := by decide +kernel
theorem dX9_window_114 : decode cX9_window 114 = .ok (.isub, 1) := by decide +kernel
theorem dX9_window_115 : decode cX9_window 115 = .ok (.iadd, 1) := by decide +kernel
theorem dX9_window_116 : decode cX9_window 116 = .ok (.istore 5, 2) := by decide +kernel
theorem dX9_window_118 : decode cX9_window 118 = .ok (.iload 4, 2) := by decide +kernel
theorem dX9_window_120 : decode cX9_window 120 = .ok (.iload 5, 2) := by decide +kernel
theorem dX9_window_122 : decode cX9_window 122 = .ok (.imul, 1) := by decide +kernel
theorem dX9_window_123 : decode cX9_window 123 = .ok (.iload 4, 2) := by decide +kernel
theorem dX9_window_125 : decode cX9_window 125 = .ok (.iload 6, 2) := by decide +kernel
theorem dX9_window_127 : decode cX9_window 127 = .ok (.imul, 1) := by decide +kernel
theorem dX9_window_128 : decode cX9_window 128 = .ok (.if_icmp .le 11, 3) := by decide +kernel
theorem dX9_window_131 : decode cX9_window 131 = .ok (.iload 5, 2) := by decide +kernel
theorem dX9_window_133 : decode cX9_window 133 = .ok (.istore 6, 2) := by decide +kernel
theorem dX9_window_135 : decode cX9_window 135 = .ok (.iload 8, 2) := by decide +kernel
theorem dX9_window_137 : decode cX9_window 137 = .ok (.istore 7, 2) := by decide +kernel
theorem dX9_window_139 : decode cX9_window 139 = .ok (.iinc 8 1, 3) := by decide +kernel
theorem dX9_window_142 : decode cX9_window 142 = .ok (.goto (-70), 3) := by decide +kernel
theorem dX9_window_145 : decode cX9_window 145 = .ok (.iload_n 3, 1) := by decide +kernel
theorem dX9_window_146 : decode cX9_window 146 = .ok (.iconst 1, 1) := by decide +kernel
theorem dX9_window_147 : decode cX9_window 147 = .ok (.iand, 1) := by decide +kernel
theorem dX9_window_148 : decode cX9_window 148 = .ok (.ifCond .ne 8, 3) := by decide +kernel
theorem dX9_window_151 : decode cX9_window 151 = .ok (.iload 6, 2) := by decide +kernel
theorem dX9_window_153 : decode cX9_window 153 = .ok (.goto 5, 3) := by decide +kernel
theorem dX9_window_156 : decode cX9_window 156 = .ok (.iload 7, 2) := by decide +kernel
theorem dX9_window_158 : decode cX9_window 158 = .ok (.ireturn, 1) := by decide +kernel
theorem hd_yX9_window : yX9_window.cls = RX9 ∧ yX9_window.cls ≠ "java/lang/invoke/MethodHandle" ∧ yX9_window.cls ≠ "java/lang/invoke/VarHandle" ∧ (parseMethodDescriptor yX9_window.desc).map (fun d => d.parameters.length) = some 3 := by decide +kernel
def uX9_window : List Cond := List.cons (.code yX9_window cX9_window 9 (some .int)) (HAppend.hAppend ([.fieldLink RX9 35 "LuckyTicket" "current" "LLuckyTicket$Roll;", .methodLink RX9 149 yX2_hasLaw, .instanceMethod yX2_hasLaw, .selects RX2 yX2_hasLaw yX2_hasLaw, .initialized RX2, .methodLink RX9 158 yX9_isWithin, .static yX9_isWithin, .initialized RX9, .methodLink RX9 162 yX2_tally, .instanceMethod yX2_tally, .selects RX2 yX2_tally yX2_tally, .methodLink RX9 141 yX2_luckBit, .instanceMethod yX2_luckBit, .selects RX2 yX2_luckBit yX2_luckBit] : List Cond) (HAppend.hAppend uX2_hasLaw (HAppend.hAppend uX9_isWithin (HAppend.hAppend uX2_tally (HAppend.hAppend uX2_luckBit (HAppend.hAppend wsX90 wsX20))))))
theorem iX9_window_X9 : ∀ w ∈ wsX90, w ∈ uX9_window := fun _ h => (List.mem_cons_of_mem _ (List.mem_append_right _ (List.mem_append_right _ (List.mem_append_right _ (List.mem_append_right _ (List.mem_append_right _ (List.mem_append_left _ h)))))))
theorem iX9_window_X2 : ∀ w ∈ wsX20, w ∈ uX9_window := fun _ h => (List.mem_cons_of_mem _ (List.mem_append_right _ (List.mem_append_right _ (List.mem_append_right _ (List.mem_append_right _ (List.mem_append_right _ (List.mem_append_right _ h)))))))
theorem guX9_window : GU uX9_window := gu_cons (gu_app (by decide +kernel) (gu_ap guX2_hasLaw (gu_ap guX9_isWithin (gu_ap guX2_tally (gu_ap guX2_luckBit (gu_ap gws_X9 gws_X2))))))
theorem gX9_window__X2_hasLaw_V149 : GoodIn uX9_window (wsV RX9 149 RX2 yX2_hasLaw uX2_hasLaw) := gin_V (List.mem_of_getElem? (i := 2) rfl) (List.mem_of_getElem? (i := 3) rfl) (List.mem_of_getElem? (i := 4) rfl) (List.mem_of_getElem? (i := 5) rfl) (fun _ h => (List.mem_cons_of_mem _ (List.mem_append_right _ (List.mem_append_left _ h)))) guX2_hasLaw
theorem gX9_window__X9_isWithin_S158 : GoodIn uX9_window (va_wsS RX9 158 yX9_isWithin uX9_isWithin) := gin_S (List.mem_of_getElem? (i := 6) rfl) (List.mem_of_getElem? (i := 7) rfl) (List.mem_of_getElem? (i := 8) rfl) (fun _ h => (List.mem_cons_of_mem _ (List.mem_append_right _ (List.mem_append_right _ (List.mem_append_left _ h))))) guX9_isWithin
theorem gX9_window__X2_tally_V162 : GoodIn uX9_window (wsV RX9 162 RX2 yX2_tally uX2_tally) := gin_V (List.mem_of_getElem? (i := 9) rfl) (List.mem_of_getElem? (i := 10) rfl) (List.mem_of_getElem? (i := 11) rfl) (List.mem_of_getElem? (i := 5) rfl) (fun _ h => (List.mem_cons_of_mem _ (List.mem_append_right _ (List.mem_append_right _ (List.mem_append_right _ (List.mem_append_left _ h)))))) guX2_tally
theorem gX9_window__X2_luckBit_V141 : GoodIn uX9_window (wsV RX9 141 RX2 yX2_luckBit uX2_luckBit) := gin_V (List.mem_of_getElem? (i := 12) rfl) (List.mem_of_getElem? (i := 13) rfl) (List.mem_of_getElem? (i := 14) rfl) (List.mem_of_getElem? (i := 5) rfl) (fun _ h => (List.mem_cons_of_mem _ (List.mem_append_right _ (List.mem_append_right _ (List.mem_append_right _ (List.mem_append_right _ (List.mem_append_left _ h))))))) guX2_luckBit
set_option maxHeartbeats 4000000 in
set_option maxRecDepth 100000 in
theorem kX9_window (l : Launch) (dC : Nat → ClassId) (dI : Nat → Nat → Nat) (h0 : Nat) (tp : Nat) (sc : Nat) (rd : Nat) (cu : Nat) (im : Nat) (ig : Nat) (sl : Nat) (se : Nat) (sm : Nat) (fc : Nat) (ln : Int32) (bs : Int32) (tk : Int32) (lw : Int32) (li : Int32) (fa : Nat) (lu : Nat) (cL : ClassId) (nl : Nat) (fl : Nat → Int32) (a1 : Int32) (a2 : Int32) (a3 : Int32) (b_ln : (0 : Int) ≤ ln.toInt ∧ ln.toInt ≤ 12) (b_bs : (0 : Int) ≤ bs.toInt ∧ bs.toInt ≤ 16) (b_tk : (0 : Int) ≤ tk.toInt ∧ tk.toInt ≤ 20000) (b_lw : (0 : Int) ≤ lw.toInt ∧ lw.toInt ≤ 9) (hl1 : tk.toInt ≤ (nl : Int)) : Met l yX9_window uX9_window ({ frames := 2, cells := 0, slots := 0, locals := 43 }) (va_Pc [.ref h0, .int a1, .int a2, .int a3] (pw (dC, dI) vwCl [(h0, .inr (7, [.ref tp, .ref sc, .ref rd, .ref cu, .ref im, .ref ig, .ref sl, .ref se, .ref sm, .ref fc])), (cu, .inr (1, [.int ln, .int bs, .int tk, .int lw, .int li, .ref fa, .ref lu])), (lu, .inl (cL, nl, .inl fl))] [(cL, .int)])) (vp_Si (fun r => True)) 0 0 (fun _ => False) := by
  refine Met.ofW (cc := cX9_window) (maxL := 9) (ret := (some .int)) pn_X9 rfl ?_
  intro p e s m args below meth c s₁ B hml hv
  obtain ⟨rfl, hP, hK, hN⟩ := hv
  have hx := B.exec
  have hb := B.bytes
  have hr := B.returns
  have hts := atoms_spec (ws := uX9_window) B.pre
  have hown : s.vm.findClass RX9 = some m.cls := hown_of B.named rfl
  have hlocks := B.notSynchronized
  have hl := lv_entry ([.ref h0, .int a1, .int a2, .int a3]) (n := 9) (Nat.le_of_ble_eq_true rfl)
  rw [lg_entry_eq]
  generalize (lg_sl ([.ref h0, .int a1, .int a2, .int a3]) ++ List.replicate (9 - (lg_sl ([.ref h0, .int a1, .int a2, .int a3])).length) Slot.unset).toArray = ls at hl ⊢
  have hl : lv_has ls 9 [(0, .ref h0), (1, .int a1), (2, .int a2), (3, .int a3)] := hl
  refine lv_aload_n hx hb dX9_window_0 rfl (lv_at hl 0 rfl) ?_
  refine va_get (D := (dC, dI)) (ci := 7) (v := .ref cu) (C := RX9) (T := TX9) (N := 10) hx hb hts iX9_window_X9 hown hK hP 0 rfl rfl 3 (by decide) (hts (.fieldLink RX9 35 "LuckyTicket" "current" "LLuckyTicket$Roll;") (List.mem_of_getElem? (i := 1) rfl)) (fun _ h9 => h9) rfl dX9_window_1 ?_
  refine lv_iload_n hx hb dX9_window_4 rfl (lv_at hl 1 rfl) ?_
  refine vp_callSi (W.runV (As := [.int a1]) (rest := []) ⟨hx, hb, hml, hown, hts⟩ (kX2_hasLaw l dC dI cu ln bs tk lw li fa lu a1 b_ln b_bs b_tk b_lw) (cwV 1 hts gX9_window__X2_hasLaw_V149 rfl rfl rfl hd_yX2_hasLaw ⟨lel 1 2 rfl, lel 21 43 rfl⟩) ⟨pw_fb, rcv_X2 hK hP (q0 := 1) rfl, (pw_use hP hK hN [1] rfl [] rfl)⟩ rfl rfl hl.1 rfl (lv_room (Nat.le_of_ble_eq_true rfl)) dX9_window_5 ⟨lel 0 0 rfl, lel 0 0 rfl⟩) (fun r_167 h_r_167 => ?_)
  obtain ⟨b_r_167, nz_r_167⟩ := h_r_167
  have b_r_167 : (0 : Int) ≤ r_167.toInt ∧ r_167.toInt ≤ 1 := b_r_167
  refine lv_if_eq (tgt := 35) hx hb dX9_window_8 (by decide) (fun c_168 => ?_) (fun c_168 => ?_)
  ·
    have n_c_168 : (r_167.toInt : Int) = 0 := c_eq rfl (by decide) c_168
    have b_r_167 : (0 : Int) ≤ r_167.toInt ∧ r_167.toInt ≤ 0 := r_eq1 b_r_167 (by decide : (0 : Int) ≤ (0 : Int32).toInt ∧ (0 : Int32).toInt ≤ 0) n_c_168 (by decide)
    refine lv_bipush (v := (-2)) hx hb dX9_window_35 (by decide) ?_
    exact W.iret (v := (-2)) hx hb hr (fun t ht hW => ⟨(-2), rfl, trivial, ht⟩) t_nil dX9_window_37
  ·
    have n_c_168 : (r_167.toInt : Int) ≠ 0 := c_ne rfl (by decide) c_168
    have b_r_167 : (1 : Int) ≤ r_167.toInt ∧ r_167.toInt ≤ 1 := r_ne1 b_r_167 (by decide : (0 : Int) ≤ (0 : Int32).toInt ∧ (0 : Int32).toInt ≤ 0) n_c_168 (by decide)
    obtain ⟨b_a1, g_169⟩ := nz_r_167 c_168
    refine lv_iload_n hx hb dX9_window_11 rfl (lv_at hl 2 rfl) ?_
    refine lv_iconst (v := 1) hx hb dX9_window_12 (by decide) ?_
    refine lv_aload_n hx hb dX9_window_13 rfl (lv_at hl 0 rfl) ?_
    refine va_get (D := (dC, dI)) (ci := 7) (v := .ref cu) (C := RX9) (T := TX9) (N := 10) hx hb hts iX9_window_X9 hown hK hP 0 rfl rfl 3 (by decide) (hts (.fieldLink RX9 35 "LuckyTicket" "current" "LLuckyTicket$Roll;") (List.mem_of_getElem? (i := 1) rfl)) (fun _ h9 => h9) rfl dX9_window_14 ?_
    refine va_getN (own := RX9) (index := 155) (ref := RX2) (host := RX9) (D := (dC, dI)) (ci := 1) (v := .int tk) (C := RX2) (T := TX2) (N := 7) hx hb hts iX9_window_X2 hown hK hP 1 rfl rfl 2 (by decide) (va_Nw.use rfl (hN _ (List.mem_of_getElem? (i := 18) rfl))) (fun _ h9 => h9) rfl dX9_window_17 ?_
    refine vp_callSi (W.runS (As := [.int a2, .int 1, .int tk]) (rest := []) ⟨hx, hb, hml, hown, hts⟩ (kX9_isWithin l dC dI a2 1 tk ) (va_cwS 3 hts gX9_window__X9_isWithin_S158 rfl rfl rfl hd_yX9_isWithin.2 ⟨lel 1 2 rfl, lel 22 43 rfl⟩) ⟨pn_fb, pn_use⟩ rfl rfl hl.1 rfl (lv_room (Nat.le_of_ble_eq_true rfl)) dX9_window_20 ⟨lel 0 0 rfl, lel 0 0 rfl⟩) (fun r_170 h_r_170 => ?_)
    obtain ⟨b_r_170, nz_r_170⟩ := h_r_170
    have b_r_170 : (0 : Int) ≤ r_170.toInt ∧ r_170.toInt ≤ 1 := b_r_170
    refine lv_if_eq (tgt := 35) hx hb dX9_window_23 (by decide) (fun c_171 => ?_) (fun c_171 => ?_)
    ·
      have n_c_171 : (r_170.toInt : Int) = 0 := c_eq rfl (by decide) c_171
      have b_r_170 : (0 : Int) ≤ r_170.toInt ∧ r_170.toInt ≤ 0 := r_eq1 b_r_170 (by decide : (0 : Int) ≤ (0 : Int32).toInt ∧ (0 : Int32).toInt ≤ 0) n_c_171 (by decide)
      refine lv_bipush (v := (-2)) hx hb dX9_window_35 (by decide) ?_
      exact W.iret (v := (-2)) hx hb hr (fun t ht hW => ⟨(-2), rfl, trivial, ht⟩) t_nil dX9_window_37
    ·
      have n_c_171 : (r_170.toInt : Int) ≠ 0 := c_ne rfl (by decide) c_171
      have b_r_170 : (1 : Int) ≤ r_170.toInt ∧ r_170.toInt ≤ 1 := r_ne1 b_r_170 (by decide : (0 : Int) ≤ (0 : Int32).toInt ∧ (0 : Int32).toInt ≤ 0) n_c_171 (by decide)
      have g_172 := nz_r_170 c_171
      have lt0_g_172 := (by decide : (1 : Int32).toInt = 1)
      have b_a2 : (1 : Int) ≤ a2.toInt ∧ a2.toInt ≤ 20000 := by
        have q0 := (ti_rng a2)
        have q1 := (by decide : (1 : Int) ≤ (1 : Int32).toInt ∧ (1 : Int32).toInt ≤ 1)
        have q2 := b_tk
        omega
      refine lv_iload_n hx hb dX9_window_26 rfl (lv_at hl 3 rfl) ?_
      refine lv_iconst (v := 0) hx hb dX9_window_27 (by decide) ?_
      refine lv_iconst (v := 3) hx hb dX9_window_28 (by decide) ?_
      refine vp_callSi (W.runS (As := [.int a3, .int 0, .int 3]) (rest := []) ⟨hx, hb, hml, hown, hts⟩ (kX9_isWithin l dC dI a3 0 3 ) (va_cwS 3 hts gX9_window__X9_isWithin_S158 rfl rfl rfl hd_yX9_isWithin.2 ⟨lel 1 2 rfl, lel 22 43 rfl⟩) ⟨pn_fb, pn_use⟩ rfl rfl hl.1 rfl (lv_room (Nat.le_of_ble_eq_true rfl)) dX9_window_29 ⟨lel 0 0 rfl, lel 0 0 rfl⟩) (fun r_173 h_r_173 => ?_)
      obtain ⟨b_r_173, nz_r_173⟩ := h_r_173
      have b_r_173 : (0 : Int) ≤ r_173.toInt ∧ r_173.toInt ≤ 1 := b_r_173
      refine lv_if_ne (tgt := 38) hx hb dX9_window_32 (by decide) (fun c_174 => ?_) (fun c_174 => ?_)
      ·
        have n_c_174 : (r_173.toInt : Int) ≠ 0 := c_ne rfl (by decide) c_174
        have b_r_173 : (1 : Int) ≤ r_173.toInt ∧ r_173.toInt ≤ 1 := r_ne1 b_r_173 (by decide : (0 : Int) ≤ (0 : Int32).toInt ∧ (0 : Int32).toInt ≤ 0) n_c_174 (by decide)
        have g_175 := nz_r_173 c_174
        have lt0_g_175 := (by decide : (0 : Int32).toInt = 0)
        have lt1_g_175 := (by decide : (3 : Int32).toInt = 3)
        have b_a3 : (0 : Int) ≤ a3.toInt ∧ a3.toInt ≤ 3 := by
          have q0 := (ti_rng a3)
          have q1 := (by decide : (0 : Int) ≤ (0 : Int32).toInt ∧ (0 : Int32).toInt ≤ 0)
          have q2 := (by decide : (3 : Int) ≤ (3 : Int32).toInt ∧ (3 : Int32).toInt ≤ 3)
          omega
        refine lv_iload_n hx hb dX9_window_38 rfl (lv_at hl 3 rfl) ?_
        refine lv_iconst (v := 2) hx hb dX9_window_39 (by decide) ?_
        refine cutP (σ := Int32) (pc2 := 48) (st2 := fun v => [.int v]) (cells2 := 0) (slots2 := 0) (fun v ls => ((-1 : Int) ≤ v.toInt ∧ v.toInt ≤ 1) ∧ lv_has ls 9 [(0, .ref h0), (1, .int a1), (2, .int a2), (3, .int a3)]) (fun v ls hI => ?_) (fun hj_48_177 => ?_)
        ·
          obtain ⟨y_177, rfl⟩ : ∃ z, z = v := ⟨_, rfl⟩
          obtain ⟨b_y_177, hl⟩ := hI
          have b_y_177 : (-1 : Int) ≤ y_177.toInt ∧ y_177.toInt ≤ 1 := b_y_177
          have hl : lv_has ls 9 [(0, .ref h0), (1, .int a1), (2, .int a2), (3, .int a3)] := hl
          refine lv_istore (lv' := [(4, .int y_177), (0, .ref h0), (1, .int a1), (2, .int a2), (3, .int a3)]) hx hb dX9_window_48 hl (by decide) rfl (fun ls hl => ?_)
          refine lv_aload_n hx hb dX9_window_50 rfl (lv_at hl 1 rfl) ?_
          refine va_get (D := (dC, dI)) (ci := 7) (v := .ref cu) (C := RX9) (T := TX9) (N := 10) hx hb hts iX9_window_X9 hown hK hP 0 rfl rfl 3 (by decide) (hts (.fieldLink RX9 35 "LuckyTicket" "current" "LLuckyTicket$Roll;") (List.mem_of_getElem? (i := 1) rfl)) (fun _ h9 => h9) rfl dX9_window_51 ?_
          refine lv_iload_n hx hb dX9_window_54 rfl (lv_at hl 2 rfl) ?_
          refine lv_iconst (v := 0) hx hb dX9_window_55 (by decide) ?_
          refine lv_iload_n hx hb dX9_window_56 rfl (lv_at hl 3 rfl) ?_
          refine vp_callSi (W.runV (As := [.int a1, .int 0, .int a2]) (rest := []) ⟨hx, hb, hml, hown, hts⟩ (kX2_tally l dC dI cu ln bs tk lw li fa lu cL nl fl a1 0 a2 b_ln b_bs b_tk b_lw (by omega)) (cwV 3 hts gX9_window__X2_tally_V162 rfl rfl rfl hd_yX2_tally ⟨lel 2 2 rfl, lel 39 43 rfl⟩) ⟨pw_fb, rcv_X2 hK hP (q0 := 1) rfl, (pw_use hP hK hN [1, 2] rfl [0] rfl)⟩ rfl rfl hl.1 rfl (lv_room (Nat.le_of_ble_eq_true rfl)) dX9_window_57 ⟨lel 0 0 rfl, lel 0 0 rfl⟩) (fun r_178 h_r_178 => ?_)
          refine lv_istore (lv' := [(5, .int r_178), (4, .int y_177), (0, .ref h0), (1, .int a1), (2, .int a2), (3, .int a3)]) hx hb dX9_window_60 hl (by decide) rfl (fun ls hl => ?_)
          refine lv_iload hx hb dX9_window_62 (lv_at hl 0 rfl) ?_
          refine lv_istore (lv' := [(6, .int r_178), (5, .int r_178), (4, .int y_177), (0, .ref h0), (1, .int a1), (2, .int a2), (3, .int a3)]) hx hb dX9_window_64 hl (by decide) rfl (fun ls hl => ?_)
          refine lv_iconst (v := 0) hx hb dX9_window_66 (by decide) ?_
          refine lv_istore (lv' := [(7, .int 0), (6, .int r_178), (5, .int r_178), (4, .int y_177), (0, .ref h0), (1, .int a1), (2, .int a2), (3, .int a3)]) hx hb dX9_window_67 hl (by decide) rfl (fun ls hl => ?_)
          refine lv_iconst (v := 1) hx hb dX9_window_69 (by decide) ?_
          refine lv_istore (lv' := [(8, .int 1), (7, .int 0), (6, .int r_178), (5, .int r_178), (4, .int y_177), (0, .ref h0), (1, .int a1), (2, .int a2), (3, .int a3)]) hx hb dX9_window_70 hl (by decide) rfl (fun ls hl => ?_)
          refine loopP (σ := Int32 × Int32 × Int32 × Int32) (fun v => (20000 - v.1.toInt).toNat) (fun v ls => ((1 : Int) ≤ v.1.toInt ∧ v.1.toInt ≤ 20000) ∧ ((0 : Int) ≤ v.2.1.toInt ∧ v.2.1.toInt ≤ 19999) ∧ lv_has ls 9 [(8, .int v.1), (7, .int v.2.1), (6, .int v.2.2.1), (5, .int v.2.2.2), (4, .int y_177), (0, .ref h0), (1, .int a1), (2, .int a2), (3, .int a3)]) (fun v ls hI ih_72_302 => ?_) ((1 : Int32), (0 : Int32), r_178, r_178) ⟨(show (1 : Int) ≤ (1 : Int32).toInt ∧ (1 : Int32).toInt ≤ 20000 from (rg_w (by decide : (1 : Int) ≤ (1 : Int32).toInt ∧ (1 : Int32).toInt ≤ 1) (by decide) (by decide))), (show (0 : Int) ≤ (0 : Int32).toInt ∧ (0 : Int32).toInt ≤ 19999 from (rg_w (by decide : (0 : Int) ≤ (0 : Int32).toInt ∧ (0 : Int32).toInt ≤ 0) (by decide) (by decide))), lv_sub hl [0, 1, 2, 3, 4, 5, 6, 7, 8] rfl⟩
          obtain ⟨y_209, y_210, y_211, y_212⟩ := v
          obtain ⟨b_y_209, b_y_210, hl⟩ := hI
          have b_y_209 : (1 : Int) ≤ y_209.toInt ∧ y_209.toInt ≤ 20000 := b_y_209
          have b_y_210 : (0 : Int) ≤ y_210.toInt ∧ y_210.toInt ≤ 19999 := b_y_210
          have hl : lv_has ls 9 [(8, .int y_209), (7, .int y_210), (6, .int y_211), (5, .int y_212), (4, .int y_177), (0, .ref h0), (1, .int a1), (2, .int a2), (3, .int a3)] := hl
          refine lv_iload hx hb dX9_window_72 (lv_at hl 0 rfl) ?_
          refine lv_iload_n hx hb dX9_window_74 rfl (lv_at hl 7 rfl) ?_
          refine lv_iadd hx hb dX9_window_75 ?_
          refine lv_topi (fun z_303 e_z_303 => ?_)
          obtain ⟨q_z_303, b_z_303⟩ := ti_add (lo := 2) (hi := 40000) e_z_303 rfl rfl b_y_209 b_a2 (by decide)
          refine lv_aload_n hx hb dX9_window_76 rfl (lv_at hl 5 rfl) ?_
          refine va_get (D := (dC, dI)) (ci := 7) (v := .ref cu) (C := RX9) (T := TX9) (N := 10) hx hb hts iX9_window_X9 hown hK hP 0 rfl rfl 3 (by decide) (hts (.fieldLink RX9 35 "LuckyTicket" "current" "LLuckyTicket$Roll;") (List.mem_of_getElem? (i := 1) rfl)) (fun _ h9 => h9) rfl dX9_window_77 ?_
          refine va_getN (own := RX9) (index := 155) (ref := RX2) (host := RX9) (D := (dC, dI)) (ci := 1) (v := .int tk) (C := RX2) (T := TX2) (N := 7) hx hb hts iX9_window_X2 hown hK hP 1 rfl rfl 2 (by decide) (va_Nw.use rfl (hN _ (List.mem_of_getElem? (i := 18) rfl))) (fun _ h9 => h9) rfl dX9_window_80 ?_
          refine lv_icmp_gt (tgt := 145) hx hb dX9_window_83 (by decide) (fun c_304 => ?_) (fun c_304 => ?_)
          ·
            have n_c_304 : (tk.toInt : Int) < z_303.toInt := c_gt rfl rfl c_304
            refine lv_iload_n hx hb dX9_window_145 rfl (lv_at hl 8 rfl) ?_
            refine lv_iconst (v := 1) hx hb dX9_window_146 (by decide) ?_
            refine lv_iand hx hb dX9_window_147 ?_
            refine lv_topi (fun z_318 e_z_318 => ?_)
            have b_z_318 : (0 : Int) ≤ z_318.toInt ∧ z_318.toInt ≤ 1 := ti_and (k := 1) e_z_318 (by decide) (by decide) (by decide)
            refine lv_if_ne (tgt := 156) hx hb dX9_window_148 (by decide) (fun c_319 => ?_) (fun c_319 => ?_)
            ·
              have n_c_319 : (z_318.toInt : Int) ≠ 0 := c_ne rfl (by decide) c_319
              have b_z_318 : (1 : Int) ≤ z_318.toInt ∧ z_318.toInt ≤ 1 := r_ne1 b_z_318 (by decide : (0 : Int) ≤ (0 : Int32).toInt ∧ (0 : Int32).toInt ≤ 0) n_c_319 (by decide)
              refine lv_iload hx hb dX9_window_156 (lv_at hl 1 rfl) ?_
              exact W.iret (v := y_210) hx hb hr (fun t ht hW => ⟨y_210, rfl, trivial, ht⟩) t_nil dX9_window_158
            ·
              have n_c_319 : (z_318.toInt : Int) = 0 := c_eq rfl (by decide) c_319
              have b_z_318 : (0 : Int) ≤ z_318.toInt ∧ z_318.toInt ≤ 0 := r_eq1 b_z_318 (by decide : (0 : Int) ≤ (0 : Int32).toInt ∧ (0 : Int32).toInt ≤ 0) n_c_319 (by decide)
              refine lv_iload hx hb dX9_window_151 (lv_at hl 2 rfl) ?_
              refine lv_goto (tgt := 158) hx hb dX9_window_153 (by decide) ?_
              exact W.iret (v := y_211) hx hb hr (fun t ht hW => ⟨y_211, rfl, trivial, ht⟩) t_nil dX9_window_158
          ·
            have n_c_304 : (z_303.toInt : Int) ≤ tk.toInt := c_ngt rfl rfl c_304
            have b_z_303 : (2 : Int) ≤ z_303.toInt ∧ z_303.toInt ≤ 20000 := r_le1 b_z_303 b_tk n_c_304 (by decide)
            have b_y_209 : (1 : Int) ≤ y_209.toInt ∧ y_209.toInt ≤ 19999 := by
              have q0 := b_z_303; have q1 := q_z_303; have q2 := b_y_209; have q3 := b_a2; omega
            have b_a2 : (1 : Int) ≤ a2.toInt ∧ a2.toInt ≤ 19999 := by
              have q0 := b_z_303; have q1 := q_z_303; have q2 := b_a2; have q3 := b_y_209; omega
            have b_tk : (2 : Int) ≤ tk.toInt ∧ tk.toInt ≤ 20000 := r_le2 b_z_303 b_tk n_c_304 (by decide)
            refine lv_iload hx hb dX9_window_86 (lv_at hl 3 rfl) ?_
            refine lv_aload_n hx hb dX9_window_88 rfl (lv_at hl 5 rfl) ?_
            refine va_get (D := (dC, dI)) (ci := 7) (v := .ref cu) (C := RX9) (T := TX9) (N := 10) hx hb hts iX9_window_X9 hown hK hP 0 rfl rfl 3 (by decide) (hts (.fieldLink RX9 35 "LuckyTicket" "current" "LLuckyTicket$Roll;") (List.mem_of_getElem? (i := 1) rfl)) (fun _ h9 => h9) rfl dX9_window_89 ?_
            refine lv_iload_n hx hb dX9_window_92 rfl (lv_at hl 6 rfl) ?_
            refine lv_iload hx hb dX9_window_93 (lv_at hl 0 rfl) ?_
            refine lv_iload_n hx hb dX9_window_95 rfl (lv_at hl 7 rfl) ?_
            refine lv_iadd hx hb dX9_window_96 ?_
            refine lv_topi (fun z_320 e_z_320 => ?_)
            obtain ⟨q_z_320, b_z_320⟩ := ti_add (lo := 2) (hi := 39998) e_z_320 rfl rfl b_y_209 b_a2 (by decide)
            refine lv_iconst (v := 1) hx hb dX9_window_97 (by decide) ?_
            refine lv_isub hx hb dX9_window_98 ?_
            refine lv_topi (fun z_321 e_z_321 => ?_)
            obtain ⟨q_z_321, b_z_321⟩ := ti_sub (lo := 1) (hi := 39997) e_z_321 rfl (by decide : (1 : Int32).toInt = 1) b_z_320 (by decide : (1 : Int) ≤ (1 : Int32).toInt ∧ (1 : Int32).toInt ≤ 1) (by decide)
            refine vp_callSi (W.runV (As := [.int a1, .int z_321]) (rest := [.int y_212]) ⟨hx, hb, hml, hown, hts⟩ (kX2_luckBit l dC dI cu ln bs tk lw li fa lu cL nl fl a1 z_321 b_ln b_bs (rg_w b_tk (by decide) (by decide)) b_lw (by omega)) (cwV 2 hts gX9_window__X2_luckBit_V141 rfl rfl rfl hd_yX2_luckBit ⟨lel 2 2 rfl, lel 43 43 rfl⟩) ⟨pw_fb, rcv_X2 hK hP (q0 := 1) rfl, (pw_use hP hK hN [1, 2] rfl [0] rfl)⟩ rfl rfl hl.1 rfl (lv_room (Nat.le_of_ble_eq_true rfl)) dX9_window_99 ⟨lel 0 0 rfl, lel 0 0 rfl⟩) (fun r_322 h_r_322 => ?_)
            have b_r_322 := h_r_322
            have b_r_322 : (0 : Int) ≤ r_322.toInt ∧ r_322.toInt ≤ 1 := b_r_322
            refine lv_aload_n hx hb dX9_window_102 rfl (lv_at hl 5 rfl) ?_
            refine va_get (D := (dC, dI)) (ci := 7) (v := .ref cu) (C := RX9) (T := TX9) (N := 10) hx hb hts iX9_window_X9 hown hK hP 0 rfl rfl 3 (by decide) (hts (.fieldLink RX9 35 "LuckyTicket" "current" "LLuckyTicket$Roll;") (List.mem_of_getElem? (i := 1) rfl)) (fun _ h9 => h9) rfl dX9_window_103 ?_
            refine lv_iload_n hx hb dX9_window_106 rfl (lv_at hl 6 rfl) ?_
            refine lv_iload hx hb dX9_window_107 (lv_at hl 0 rfl) ?_
            refine lv_iconst (v := 1) hx hb dX9_window_109 (by decide) ?_
            refine lv_isub hx hb dX9_window_110 ?_
            refine lv_topi (fun z_323 e_z_323 => ?_)
            obtain ⟨q_z_323, b_z_323⟩ := ti_sub (lo := 0) (hi := 19998) e_z_323 rfl (by decide : (1 : Int32).toInt = 1) b_y_209 (by decide : (1 : Int) ≤ (1 : Int32).toInt ∧ (1 : Int32).toInt ≤ 1) (by decide)
            refine vp_callSi (W.runV (As := [.int a1, .int z_323]) (rest := [.int r_322, .int y_212]) ⟨hx, hb, hml, hown, hts⟩ (kX2_luckBit l dC dI cu ln bs tk lw li fa lu cL nl fl a1 z_323 b_ln b_bs (rg_w b_tk (by decide) (by decide)) b_lw (by omega)) (cwV 2 hts gX9_window__X2_luckBit_V141 rfl rfl rfl hd_yX2_luckBit ⟨lel 2 2 rfl, lel 43 43 rfl⟩) ⟨pw_fb, rcv_X2 hK hP (q0 := 1) rfl, (pw_use hP hK hN [1, 2] rfl [0] rfl)⟩ rfl rfl hl.1 rfl (lv_room (Nat.le_of_ble_eq_true rfl)) dX9_window_111 ⟨lel 0 0 rfl, lel 0 0 rfl⟩) (fun r_324 h_r_324 => ?_)
            have b_r_324 := h_r_324
            have b_r_324 : (0 : Int) ≤ r_324.toInt ∧ r_324.toInt ≤ 1 := b_r_324
            refine lv_isub hx hb dX9_window_114 ?_
            refine lv_topi (fun z_325 e_z_325 => ?_)
            obtain ⟨q_z_325, b_z_325⟩ := ti_sub (lo := -1) (hi := 1) e_z_325 rfl rfl b_r_322 b_r_324 (by decide)
            refine lv_iadd hx hb dX9_window_115 ?_
            refine lv_topi (fun z_326 e_z_326 => ?_)
            refine lv_istore (lv' := [(5, .int z_326), (8, .int y_209), (7, .int y_210), (6, .int y_211), (4, .int y_177), (0, .ref h0), (1, .int a1), (2, .int a2), (3, .int a3)]) hx hb dX9_window_116 hl (by decide) rfl (fun ls hl => ?_)
            refine lv_iload hx hb dX9_window_118 (lv_at hl 4 rfl) ?_
            refine lv_iload hx hb dX9_window_120 (lv_at hl 0 rfl) ?_
            refine lv_imul hx hb dX9_window_122 ?_
            refine lv_topi (fun z_327 e_z_327 => ?_)
            refine lv_iload hx hb dX9_window_123 (lv_at hl 4 rfl) ?_
            refine lv_iload hx hb dX9_window_125 (lv_at hl 3 rfl) ?_
            refine lv_imul hx hb dX9_window_127 ?_
            refine lv_topi (fun z_328 e_z_328 => ?_)
            refine cutP (σ := Int32 × Int32) (pc2 := 139) (st2 := fun v => []) (cells2 := 0) (slots2 := 0) (fun v ls => ((0 : Int) ≤ v.1.toInt ∧ v.1.toInt ≤ 19999) ∧ lv_has ls 9 [(5, .int z_326), (8, .int y_209), (7, .int v.1), (6, .int v.2), (4, .int y_177), (0, .ref h0), (1, .int a1), (2, .int a2), (3, .int a3)]) (fun v ls hI => ?_) (fun hj_139_331 => ?_)
            ·
              obtain ⟨y_330, y_331⟩ := v
              obtain ⟨b_y_330, hl⟩ := hI
              have b_y_330 : (0 : Int) ≤ y_330.toInt ∧ y_330.toInt ≤ 19999 := b_y_330
              have hl : lv_has ls 9 [(5, .int z_326), (8, .int y_209), (7, .int y_330), (6, .int y_331), (4, .int y_177), (0, .ref h0), (1, .int a1), (2, .int a2), (3, .int a3)] := hl
              obtain ⟨z_332, e_z_332⟩ : ∃ y : Int32, y = y_209 + 1 := ⟨_, rfl⟩
              refine lv_iinc (v := z_332) (lv' := [(8, .int z_332), (5, .int z_326), (7, .int y_330), (6, .int y_331), (4, .int y_177), (0, .ref h0), (1, .int a1), (2, .int a2), (3, .int a3)]) hx hb dX9_window_139 hl (k := 1) rfl (by rw [e_z_332]; rfl) (by decide) rfl (fun ls hl => ?_)
              obtain ⟨q_z_332, b_z_332⟩ := ti_add (lo := 2) (hi := 20000) e_z_332 rfl (by decide : (1 : Int32).toInt = 1) b_y_209 (by decide : (1 : Int) ≤ (1 : Int32).toInt ∧ (1 : Int32).toInt ≤ 1) (by decide)
              refine lv_goto (tgt := 72) hx hb dX9_window_142 (by decide) ?_
              exact ih_72_302 (z_332, y_330, y_331, z_326) _ ⟨(show (1 : Int) ≤ z_332.toInt ∧ z_332.toInt ≤ 20000 from (rg_w b_z_332 (by decide) (by decide))), (show (0 : Int) ≤ y_330.toInt ∧ y_330.toInt ≤ 19999 from b_y_330), lv_sub hl [0, 2, 3, 1, 4, 5, 6, 7, 8] rfl⟩ (show (20000 - z_332.toInt).toNat < (20000 - y_209.toInt).toNat by omega)
            ·
              refine lv_icmp_le (tgt := 139) hx hb dX9_window_128 (by decide) (fun c_329 => ?_) (fun c_329 => ?_)
              ·
                have n_c_329 : (z_327.toInt : Int) ≤ z_328.toInt := c_le rfl rfl c_329
                exact hj_139_331 (y_210, y_211) _ ⟨(show (0 : Int) ≤ y_210.toInt ∧ y_210.toInt ≤ 19999 from b_y_210), lv_sub hl [0, 1, 2, 3, 4, 5, 6, 7, 8] rfl⟩
              ·
                have n_c_329 : (z_328.toInt : Int) < z_327.toInt := c_nle rfl rfl c_329
                have b_z_328 : (-2147483648 : Int) ≤ z_328.toInt ∧ z_328.toInt ≤ 2147483646 := r_lt1 (ti_rng z_328) (ti_rng z_327) n_c_329 (by decide)
                have b_z_327 : (-2147483647 : Int) ≤ z_327.toInt ∧ z_327.toInt ≤ 2147483647 := r_lt2 (ti_rng z_328) (ti_rng z_327) n_c_329 (by decide)
                refine lv_iload hx hb dX9_window_131 (lv_at hl 0 rfl) ?_
                refine lv_istore (lv' := [(6, .int z_326), (5, .int z_326), (8, .int y_209), (7, .int y_210), (4, .int y_177), (0, .ref h0), (1, .int a1), (2, .int a2), (3, .int a3)]) hx hb dX9_window_133 hl (by decide) rfl (fun ls hl => ?_)
                refine lv_iload hx hb dX9_window_135 (lv_at hl 2 rfl) ?_
                refine lv_istore (lv' := [(7, .int y_209), (6, .int z_326), (5, .int z_326), (8, .int y_209), (4, .int y_177), (0, .ref h0), (1, .int a1), (2, .int a2), (3, .int a3)]) hx hb dX9_window_137 hl (by decide) rfl (fun ls hl => ?_)
                exact hj_139_331 (y_209, z_326) _ ⟨(show (0 : Int) ≤ y_209.toInt ∧ y_209.toInt ≤ 19999 from (rg_w b_y_209 (by decide) (by decide))), lv_sub hl [2, 3, 0, 1, 4, 5, 6, 7, 8] rfl⟩
        ·
          refine lv_icmp_ge (tgt := 47) hx hb dX9_window_40 (by decide) (fun c_176 => ?_) (fun c_176 => ?_)
          ·
            have n_c_176 : (2 : Int) ≤ a3.toInt := c_ge rfl (by decide) c_176
            have b_a3 : (2 : Int) ≤ a3.toInt ∧ a3.toInt ≤ 3 := r_le2 (by decide : (2 : Int) ≤ (2 : Int32).toInt ∧ (2 : Int32).toInt ≤ 2) b_a3 n_c_176 (by decide)
            refine lv_iconst (v := (-1)) hx hb dX9_window_47 (by decide) ?_
            exact hj_48_177 (-1 : Int32) _ ⟨(show (-1 : Int) ≤ (-1 : Int32).toInt ∧ (-1 : Int32).toInt ≤ 1 from (rg_w (by decide : (-1 : Int) ≤ ((-1) : Int32).toInt ∧ ((-1) : Int32).toInt ≤ -1) (by decide) (by decide))), lv_sub hl [0, 1, 2, 3] rfl⟩
          ·
            have n_c_176 : (a3.toInt : Int) < 2 := c_nge rfl (by decide) c_176
            have b_a3 : (0 : Int) ≤ a3.toInt ∧ a3.toInt ≤ 1 := r_lt1 b_a3 (by decide : (2 : Int) ≤ (2 : Int32).toInt ∧ (2 : Int32).toInt ≤ 2) n_c_176 (by decide)
            refine lv_iconst (v := 1) hx hb dX9_window_43 (by decide) ?_
            refine lv_goto (tgt := 48) hx hb dX9_window_44 (by decide) ?_
            exact hj_48_177 (1 : Int32) _ ⟨(show (-1 : Int) ≤ (1 : Int32).toInt ∧ (1 : Int32).toInt ≤ 1 from (rg_w (by decide : (1 : Int) ≤ (1 : Int32).toInt ∧ (1 : Int32).toInt ≤ 1) (by decide) (by decide))), lv_sub hl [0, 1, 2, 3] rfl⟩
      ·
        have n_c_174 : (r_173.toInt : Int) = 0 := c_eq rfl (by decide) c_174
        have b_r_173 : (0 : Int) ≤ r_173.toInt ∧ r_173.toInt ≤ 0 := r_eq1 b_r_173 (by decide : (0 : Int) ≤ (0 : Int32).toInt ∧ (0 : Int32).toInt ≤ 0) n_c_174 (by decide)
        refine lv_bipush (v := (-2)) hx hb dX9_window_35 (by decide) ?_
        exact W.iret (v := (-2)) hx hb hr (fun t ht hW => ⟨(-2), rfl, trivial, ht⟩) t_nil dX9_window_37
theorem dX9_have_0 : decode cX9_have 0 = .ok (.aload_n 0, 1) := by decide +kernel
theorem dX9_have_1 : decode cX9_have 1 = .ok (.getfield 35, 3) := by decide +kernel
theorem dX9_have_4 : decode cX9_have 4 = .ok (.iload_n 1, 1) := by decide +kernel
theorem dX9_have_5 : decode cX9_have 5 = .ok (.invokevirtual 149, 3) := by decide +kernel
theorem dX9_have_8 : decode cX9_have 8 = .ok (.ifCond .eq 7, 3) := by decide +kernel
theorem dX9_have_11 : decode cX9_have 11 = .ok (.iload_n 2, 1) := by decide +kernel
theorem dX9_have_12 : decode cX9_have 12 = .ok (.ifCond .ge 6, 3) := by decide +kernel
theorem dX9_have_15 : decode cX9_have 15 = .ok (.bipush (-2), 2) := by decide +kernel
theorem dX9_have_17 : decode cX9_have 17 = .ok (.ireturn, 1) := by decide +kernel
theorem dX9_have_18 : decode cX9_have 18 = .ok (.iconst 0, 1) := by decide +kernel
theorem dX9_have_19 : decode cX9_have 19 = .ok (.istore_n 3, 1) := by decide +kernel
theorem dX9_have_20 : decode cX9_have 20 = .ok (.iconst 0, 1) := by decide +kernel
theorem dX9_have_21 : decode cX9_have 21 = .ok (.istore 4, 2) := by decide +kernel
theorem dX9_have_23 : decode cX9_have 23 = .ok (.iload 4, 2) := by decide +kernel
theorem dX9_have_25 : decode cX9_have 25 = .ok (.aload_n 0, 1) := by decide +kernel
theorem dX9_have_26 : decode cX9_have 26 = .ok (.getfield 35, 3) := by decide +kernel
theorem dX9_have_29 : decode cX9_have 29 = .ok (.getfield 155, 3) := by decide +kernel
theorem dX9_have_32 : decode cX9_have 32 = .ok (.if_icmp .ge 41, 3) := by decide +kernel
theorem dX9_have_35 : decode cX9_have 35 = .ok (.aload_n 0, 1) := by decide +kernel
theorem dX9_have_36 : decode cX9_have 36 = .ok (.getfield 35, 3) := by decide +kernel
theorem dX9_have_39 : decode cX9_have 39 = .ok (.iload_n 1, 1) := by decide +kernel
theorem dX9_have_40 : decode cX9_have 40 = .ok (.iload 4, 2) := by decide +kernel
theorem dX9_have_42 : decode cX9_have 42 = .ok (.invokevirtual 175, 3) := by decide +kernel
theorem dX9_have_45 : decode cX9_have 45 = .ok (.ifCond .eq 22, 3) := by decide +kernel
theorem dX9_have_48 : decode cX9_have 48 = .ok (.aload_n 0, 1) := by decide +kernel
theorem dX9_have_49 : decode cX9_have 49 = .ok (.getfield 35, 3) := by decide +kernel
theorem dX9_have_52 : decode cX9_have 52 = .ok (.iload 4, 2) := by decide +kernel
theorem dX9_have_54 : decode cX9_have 54 = .ok (.invokevirtual 106, 3) := by decide +kernel
theorem dX9_have_57 : decode cX9_have 57 = .ok (.invokestatic 119, 3) := by decide +kernel
theorem dX9_have_60 : decode cX9_have 60 = .ok (.iload_n 2, 1) := by decide +kernel
theorem dX9_have_61 : decode cX9_have 61 = .ok (.if_icmp .ne 6, 3) := by decide +kernel
theorem dX9_have_64 : decode cX9_have 64 = .ok (.iinc 3 1, 3) := by decide +kernel
theorem dX9_have_67 : decode cX9_have 67 = .ok (.iinc 4 1, 3) := by decide +kernel
theorem dX9_have_70 : decode cX9_have 70 = .ok (.goto (-47), 3) := by decide +kernel
theorem dX9_have_73 : decode cX9_have 73 = .ok (.iload_n 3, 1) := by decide +kernel
theorem dX9_have_74 : decode cX9_have 74 = .ok (.ireturn, 1) := by decide +kernel
theorem hd_yX9_have : yX9_have.cls = RX9 ∧ yX9_have.cls ≠ "java/lang/invoke/MethodHandle" ∧ yX9_have.cls ≠ "java/lang/invoke/VarHandle" ∧ (parseMethodDescriptor yX9_have.desc).map (fun d => d.parameters.length) = some 2 := by decide +kernel
def uX9_have : List Cond := List.cons (.code yX9_have cX9_have 5 (some .int)) (HAppend.hAppend ([.fieldLink RX9 35 "LuckyTicket" "current" "LLuckyTicket$Roll;", .methodLink RX9 149 yX2_hasLaw, .instanceMethod yX2_hasLaw, .selects RX2 yX2_hasLaw yX2_hasLaw, .initialized RX2, .methodLink RX9 175 yX2_isLucky, .instanceMethod yX2_isLucky, .selects RX2 yX2_isLucky yX2_isLucky, .methodLink RX9 106 yX2_faceOf, .instanceMethod yX2_faceOf, .selects RX2 yX2_faceOf yX2_faceOf, .methodLink RX9 119 yX0_sumOf, .static yX0_sumOf, .initialized RX0] : List Cond) (HAppend.hAppend uX2_hasLaw (HAppend.hAppend uX2_isLucky (HAppend.hAppend uX2_faceOf (HAppend.hAppend uX0_sumOf (HAppend.hAppend wsX90 wsX20))))))
theorem iX9_have_X9 : ∀ w ∈ wsX90, w ∈ uX9_have := fun _ h => (List.mem_cons_of_mem _ (List.mem_append_right _ (List.mem_append_right _ (List.mem_append_right _ (List.mem_append_right _ (List.mem_append_right _ (List.mem_append_left _ h)))))))
theorem iX9_have_X2 : ∀ w ∈ wsX20, w ∈ uX9_have := fun _ h => (List.mem_cons_of_mem _ (List.mem_append_right _ (List.mem_append_right _ (List.mem_append_right _ (List.mem_append_right _ (List.mem_append_right _ (List.mem_append_right _ h)))))))
theorem guX9_have : GU uX9_have := gu_cons (gu_app (by decide +kernel) (gu_ap guX2_hasLaw (gu_ap guX2_isLucky (gu_ap guX2_faceOf (gu_ap guX0_sumOf (gu_ap gws_X9 gws_X2))))))
theorem gX9_have__X2_hasLaw_V149 : GoodIn uX9_have (wsV RX9 149 RX2 yX2_hasLaw uX2_hasLaw) := gin_V (List.mem_of_getElem? (i := 2) rfl) (List.mem_of_getElem? (i := 3) rfl) (List.mem_of_getElem? (i := 4) rfl) (List.mem_of_getElem? (i := 5) rfl) (fun _ h => (List.mem_cons_of_mem _ (List.mem_append_right _ (List.mem_append_left _ h)))) guX2_hasLaw
theorem gX9_have__X2_isLucky_V175 : GoodIn uX9_have (wsV RX9 175 RX2 yX2_isLucky uX2_isLucky) := gin_V (List.mem_of_getElem? (i := 6) rfl) (List.mem_of_getElem? (i := 7) rfl) (List.mem_of_getElem? (i := 8) rfl) (List.mem_of_getElem? (i := 5) rfl) (fun _ h => (List.mem_cons_of_mem _ (List.mem_append_right _ (List.mem_append_right _ (List.mem_append_left _ h))))) guX2_isLucky
theorem gX9_have__X2_faceOf_V106 : GoodIn uX9_have (wsV RX9 106 RX2 yX2_faceOf uX2_faceOf) := gin_V (List.mem_of_getElem? (i := 9) rfl) (List.mem_of_getElem? (i := 10) rfl) (List.mem_of_getElem? (i := 11) rfl) (List.mem_of_getElem? (i := 5) rfl) (fun _ h => (List.mem_cons_of_mem _ (List.mem_append_right _ (List.mem_append_right _ (List.mem_append_right _ (List.mem_append_left _ h)))))) guX2_faceOf
theorem gX9_have__X0_sumOf_S119 : GoodIn uX9_have (va_wsS RX9 119 yX0_sumOf uX0_sumOf) := gin_S (List.mem_of_getElem? (i := 12) rfl) (List.mem_of_getElem? (i := 13) rfl) (List.mem_of_getElem? (i := 14) rfl) (fun _ h => (List.mem_cons_of_mem _ (List.mem_append_right _ (List.mem_append_right _ (List.mem_append_right _ (List.mem_append_right _ (List.mem_append_left _ h))))))) guX0_sumOf
set_option maxHeartbeats 4000000 in
set_option maxRecDepth 100000 in
theorem kX9_have (l : Launch) (dC : Nat → ClassId) (dI : Nat → Nat → Nat) (h0 : Nat) (tp : Nat) (sc : Nat) (rd : Nat) (cu : Nat) (im : Nat) (ig : Nat) (sl : Nat) (se : Nat) (sm : Nat) (fc : Nat) (ln : Int32) (bs : Int32) (tk : Int32) (lw : Int32) (li : Int32) (fa : Nat) (lu : Nat) (cL : ClassId) (nl : Nat) (fl : Nat → Int32) (cF : ClassId) (nf : Nat) (ff : Nat → Int64) (a1 : Int32) (a2 : Int32) (b_ln : (0 : Int) ≤ ln.toInt ∧ ln.toInt ≤ 12) (b_bs : (0 : Int) ≤ bs.toInt ∧ bs.toInt ≤ 16) (b_tk : (0 : Int) ≤ tk.toInt ∧ tk.toInt ≤ 20000) (b_lw : (0 : Int) ≤ lw.toInt ∧ lw.toInt ≤ 9) (hl1 : tk.toInt ≤ (nl : Int)) (hf1 : tk.toInt ≤ (nf : Int)) : Met l yX9_have uX9_have ({ frames := 2, cells := 0, slots := 0, locals := 42 }) (va_Pc [.ref h0, .int a1, .int a2] (pw (dC, dI) vwCl [(h0, .inr (7, [.ref tp, .ref sc, .ref rd, .ref cu, .ref im, .ref ig, .ref sl, .ref se, .ref sm, .ref fc])), (cu, .inr (1, [.int ln, .int bs, .int tk, .int lw, .int li, .ref fa, .ref lu])), (lu, .inl (cL, nl, .inl fl)), (fa, .inl (cF, nf, .inr (.inl ff)))] [(cL, .int), (cF, .long)])) (vp_Si (fun r => True)) 0 0 (fun _ => False) := by
  refine Met.ofW (cc := cX9_have) (maxL := 5) (ret := (some .int)) pn_X9 rfl ?_
  intro p e s m args below meth c s₁ B hml hv
  obtain ⟨rfl, hP, hK, hN⟩ := hv
  have hx := B.exec
  have hb := B.bytes
  have hr := B.returns
  have hts := atoms_spec (ws := uX9_have) B.pre
  have hown : s.vm.findClass RX9 = some m.cls := hown_of B.named rfl
  have hlocks := B.notSynchronized
  have hl := lv_entry ([.ref h0, .int a1, .int a2]) (n := 5) (Nat.le_of_ble_eq_true rfl)
  rw [lg_entry_eq]
  generalize (lg_sl ([.ref h0, .int a1, .int a2]) ++ List.replicate (5 - (lg_sl ([.ref h0, .int a1, .int a2])).length) Slot.unset).toArray = ls at hl ⊢
  have hl : lv_has ls 5 [(0, .ref h0), (1, .int a1), (2, .int a2)] := hl
  refine lv_aload_n hx hb dX9_have_0 rfl (lv_at hl 0 rfl) ?_
  refine va_get (D := (dC, dI)) (ci := 7) (v := .ref cu) (C := RX9) (T := TX9) (N := 10) hx hb hts iX9_have_X9 hown hK hP 0 rfl rfl 3 (by decide) (hts (.fieldLink RX9 35 "LuckyTicket" "current" "LLuckyTicket$Roll;") (List.mem_of_getElem? (i := 1) rfl)) (fun _ h9 => h9) rfl dX9_have_1 ?_
  refine lv_iload_n hx hb dX9_have_4 rfl (lv_at hl 1 rfl) ?_
  refine vp_callSi (W.runV (As := [.int a1]) (rest := []) ⟨hx, hb, hml, hown, hts⟩ (kX2_hasLaw l dC dI cu ln bs tk lw li fa lu a1 b_ln b_bs b_tk b_lw) (cwV 1 hts gX9_have__X2_hasLaw_V149 rfl rfl rfl hd_yX2_hasLaw ⟨lel 1 2 rfl, lel 21 42 rfl⟩) ⟨pw_fb, rcv_X2 hK hP (q0 := 1) rfl, (pw_use hP hK hN [1] rfl [] rfl)⟩ rfl rfl hl.1 rfl (lv_room (Nat.le_of_ble_eq_true rfl)) dX9_have_5 ⟨lel 0 0 rfl, lel 0 0 rfl⟩) (fun r_228 h_r_228 => ?_)
  obtain ⟨b_r_228, nz_r_228⟩ := h_r_228
  have b_r_228 : (0 : Int) ≤ r_228.toInt ∧ r_228.toInt ≤ 1 := b_r_228
  refine lv_if_eq (tgt := 15) hx hb dX9_have_8 (by decide) (fun c_229 => ?_) (fun c_229 => ?_)
  ·
    have n_c_229 : (r_228.toInt : Int) = 0 := c_eq rfl (by decide) c_229
    have b_r_228 : (0 : Int) ≤ r_228.toInt ∧ r_228.toInt ≤ 0 := r_eq1 b_r_228 (by decide : (0 : Int) ≤ (0 : Int32).toInt ∧ (0 : Int32).toInt ≤ 0) n_c_229 (by decide)
    refine lv_bipush (v := (-2)) hx hb dX9_have_15 (by decide) ?_
    exact W.iret (v := (-2)) hx hb hr (fun t ht hW => ⟨(-2), rfl, trivial, ht⟩) t_nil dX9_have_17
  ·
    have n_c_229 : (r_228.toInt : Int) ≠ 0 := c_ne rfl (by decide) c_229
    have b_r_228 : (1 : Int) ≤ r_228.toInt ∧ r_228.toInt ≤ 1 := r_ne1 b_r_228 (by decide : (0 : Int) ≤ (0 : Int32).toInt ∧ (0 : Int32).toInt ≤ 0) n_c_229 (by decide)
    obtain ⟨b_a1, g_230⟩ := nz_r_228 c_229
    refine lv_iload_n hx hb dX9_have_11 rfl (lv_at hl 2 rfl) ?_
    refine lv_if_ge (tgt := 18) hx hb dX9_have_12 (by decide) (fun c_231 => ?_) (fun c_231 => ?_)
    ·
      have n_c_231 : (0 : Int) ≤ a2.toInt := c_ge rfl (by decide) c_231
      have b_a2 : (0 : Int) ≤ a2.toInt ∧ a2.toInt ≤ 2147483647 := r_le2 (by decide : (0 : Int) ≤ (0 : Int32).toInt ∧ (0 : Int32).toInt ≤ 0) (ti_rng a2) n_c_231 (by decide)
      refine lv_iconst (v := 0) hx hb dX9_have_18 (by decide) ?_
      refine lv_istore_n (lv' := [(3, .int 0), (0, .ref h0), (1, .int a1), (2, .int a2)]) hx hb dX9_have_19 rfl hl (by decide) rfl (fun ls hl => ?_)
      refine lv_iconst (v := 0) hx hb dX9_have_20 (by decide) ?_
      refine lv_istore (lv' := [(4, .int 0), (3, .int 0), (0, .ref h0), (1, .int a1), (2, .int a2)]) hx hb dX9_have_21 hl (by decide) rfl (fun ls hl => ?_)
      refine loopP (σ := Int32 × Int32) (fun v => (20000 - v.1.toInt).toNat) (fun v ls => ((0 : Int) ≤ v.1.toInt ∧ v.1.toInt ≤ 20000) ∧ lv_has ls 5 [(4, .int v.1), (3, .int v.2), (0, .ref h0), (1, .int a1), (2, .int a2)]) (fun v ls hI ih_23_441 => ?_) ((0 : Int32), (0 : Int32)) ⟨(show (0 : Int) ≤ (0 : Int32).toInt ∧ (0 : Int32).toInt ≤ 20000 from (rg_w (by decide : (0 : Int) ≤ (0 : Int32).toInt ∧ (0 : Int32).toInt ≤ 0) (by decide) (by decide))), lv_sub hl [0, 1, 2, 3, 4] rfl⟩
      obtain ⟨y_245, y_246⟩ := v
      obtain ⟨b_y_245, hl⟩ := hI
      have b_y_245 : (0 : Int) ≤ y_245.toInt ∧ y_245.toInt ≤ 20000 := b_y_245
      have hl : lv_has ls 5 [(4, .int y_245), (3, .int y_246), (0, .ref h0), (1, .int a1), (2, .int a2)] := hl
      refine lv_iload hx hb dX9_have_23 (lv_at hl 0 rfl) ?_
      refine lv_aload_n hx hb dX9_have_25 rfl (lv_at hl 2 rfl) ?_
      refine va_get (D := (dC, dI)) (ci := 7) (v := .ref cu) (C := RX9) (T := TX9) (N := 10) hx hb hts iX9_have_X9 hown hK hP 0 rfl rfl 3 (by decide) (hts (.fieldLink RX9 35 "LuckyTicket" "current" "LLuckyTicket$Roll;") (List.mem_of_getElem? (i := 1) rfl)) (fun _ h9 => h9) rfl dX9_have_26 ?_
      refine va_getN (own := RX9) (index := 155) (ref := RX2) (host := RX9) (D := (dC, dI)) (ci := 1) (v := .int tk) (C := RX2) (T := TX2) (N := 7) hx hb hts iX9_have_X2 hown hK hP 1 rfl rfl 2 (by decide) (va_Nw.use rfl (hN _ (List.mem_of_getElem? (i := 18) rfl))) (fun _ h9 => h9) rfl dX9_have_29 ?_
      refine lv_icmp_ge (tgt := 73) hx hb dX9_have_32 (by decide) (fun c_442 => ?_) (fun c_442 => ?_)
      ·
        have n_c_442 : (tk.toInt : Int) ≤ y_245.toInt := c_ge rfl rfl c_442
        refine lv_iload_n hx hb dX9_have_73 rfl (lv_at hl 1 rfl) ?_
        exact W.iret (v := y_246) hx hb hr (fun t ht hW => ⟨y_246, rfl, trivial, ht⟩) t_nil dX9_have_74
      ·
        have n_c_442 : (y_245.toInt : Int) < tk.toInt := c_nge rfl rfl c_442
        have b_y_245 : (0 : Int) ≤ y_245.toInt ∧ y_245.toInt ≤ 19999 := r_lt1 b_y_245 b_tk n_c_442 (by decide)
        have b_tk : (1 : Int) ≤ tk.toInt ∧ tk.toInt ≤ 20000 := r_lt2 b_y_245 b_tk n_c_442 (by decide)
        refine lv_aload_n hx hb dX9_have_35 rfl (lv_at hl 2 rfl) ?_
        refine va_get (D := (dC, dI)) (ci := 7) (v := .ref cu) (C := RX9) (T := TX9) (N := 10) hx hb hts iX9_have_X9 hown hK hP 0 rfl rfl 3 (by decide) (hts (.fieldLink RX9 35 "LuckyTicket" "current" "LLuckyTicket$Roll;") (List.mem_of_getElem? (i := 1) rfl)) (fun _ h9 => h9) rfl dX9_have_36 ?_
        refine lv_iload_n hx hb dX9_have_39 rfl (lv_at hl 3 rfl) ?_
        refine lv_iload hx hb dX9_have_40 (lv_at hl 0 rfl) ?_
        refine vp_callSi (W.runV (As := [.int a1, .int y_245]) (rest := []) ⟨hx, hb, hml, hown, hts⟩ (kX2_isLucky l dC dI cu ln bs tk lw li fa lu cL nl fl a1 y_245 b_ln b_bs (rg_w b_tk (by decide) (by decide)) b_lw (by omega)) (cwV 2 hts gX9_have__X2_isLucky_V175 rfl rfl rfl hd_yX2_isLucky ⟨lel 1 2 rfl, lel 22 42 rfl⟩) ⟨pw_fb, rcv_X2 hK hP (q0 := 1) rfl, (pw_use hP hK hN [1, 2] rfl [0] rfl)⟩ rfl rfl hl.1 rfl (lv_room (Nat.le_of_ble_eq_true rfl)) dX9_have_42 ⟨lel 0 0 rfl, lel 0 0 rfl⟩) (fun r_443 h_r_443 => ?_)
        have b_r_443 := h_r_443
        have b_r_443 : (0 : Int) ≤ r_443.toInt ∧ r_443.toInt ≤ 1 := b_r_443
        refine cutP (σ := Int32) (pc2 := 67) (st2 := fun v => []) (cells2 := 0) (slots2 := 0) (fun v ls => lv_has ls 5 [(4, .int y_245), (3, .int v), (0, .ref h0), (1, .int a1), (2, .int a2)]) (fun v ls hI => ?_) (fun hj_67_449 => ?_)
        ·
          obtain ⟨y_449, rfl⟩ : ∃ z, z = v := ⟨_, rfl⟩
          have hl := hI
          have hl : lv_has ls 5 [(4, .int y_245), (3, .int y_449), (0, .ref h0), (1, .int a1), (2, .int a2)] := hl
          obtain ⟨z_450, e_z_450⟩ : ∃ y : Int32, y = y_245 + 1 := ⟨_, rfl⟩
          refine lv_iinc (v := z_450) (lv' := [(4, .int z_450), (3, .int y_449), (0, .ref h0), (1, .int a1), (2, .int a2)]) hx hb dX9_have_67 hl (k := 0) rfl (by rw [e_z_450]; rfl) (by decide) rfl (fun ls hl => ?_)
          obtain ⟨q_z_450, b_z_450⟩ := ti_add (lo := 1) (hi := 20000) e_z_450 rfl (by decide : (1 : Int32).toInt = 1) b_y_245 (by decide : (1 : Int) ≤ (1 : Int32).toInt ∧ (1 : Int32).toInt ≤ 1) (by decide)
          refine lv_goto (tgt := 23) hx hb dX9_have_70 (by decide) ?_
          exact ih_23_441 (z_450, y_449) _ ⟨(show (0 : Int) ≤ z_450.toInt ∧ z_450.toInt ≤ 20000 from (rg_w b_z_450 (by decide) (by decide))), lv_sub hl [0, 1, 2, 3, 4] rfl⟩ (show (20000 - z_450.toInt).toNat < (20000 - y_245.toInt).toNat by omega)
        ·
          refine lv_if_eq (tgt := 67) hx hb dX9_have_45 (by decide) (fun c_444 => ?_) (fun c_444 => ?_)
          ·
            have n_c_444 : (r_443.toInt : Int) = 0 := c_eq rfl (by decide) c_444
            have b_r_443 : (0 : Int) ≤ r_443.toInt ∧ r_443.toInt ≤ 0 := r_eq1 b_r_443 (by decide : (0 : Int) ≤ (0 : Int32).toInt ∧ (0 : Int32).toInt ≤ 0) n_c_444 (by decide)
            exact hj_67_449 y_246 _ (lv_sub hl [0, 1, 2, 3, 4] rfl)
          ·
            have n_c_444 : (r_443.toInt : Int) ≠ 0 := c_ne rfl (by decide) c_444
            have b_r_443 : (1 : Int) ≤ r_443.toInt ∧ r_443.toInt ≤ 1 := r_ne1 b_r_443 (by decide : (0 : Int) ≤ (0 : Int32).toInt ∧ (0 : Int32).toInt ≤ 0) n_c_444 (by decide)
            refine lv_aload_n hx hb dX9_have_48 rfl (lv_at hl 2 rfl) ?_
            refine va_get (D := (dC, dI)) (ci := 7) (v := .ref cu) (C := RX9) (T := TX9) (N := 10) hx hb hts iX9_have_X9 hown hK hP 0 rfl rfl 3 (by decide) (hts (.fieldLink RX9 35 "LuckyTicket" "current" "LLuckyTicket$Roll;") (List.mem_of_getElem? (i := 1) rfl)) (fun _ h9 => h9) rfl dX9_have_49 ?_
            refine lv_iload hx hb dX9_have_52 (lv_at hl 0 rfl) ?_
            refine vp_callSl (W.runV (As := [.int y_245]) (rest := []) ⟨hx, hb, hml, hown, hts⟩ (kX2_faceOf l dC dI cu ln bs tk lw li fa lu cF nf ff y_245 b_ln b_bs (rg_w b_tk (by decide) (by decide)) b_lw (by omega)) (cwV 1 hts gX9_have__X2_faceOf_V106 rfl rfl rfl hd_yX2_faceOf ⟨lel 2 2 rfl, lel 42 42 rfl⟩) ⟨pw_fb, rcv_X2 hK hP (q0 := 1) rfl, (pw_use hP hK hN [1, 3] rfl [1] rfl)⟩ rfl rfl hl.1 rfl (lv_room (Nat.le_of_ble_eq_true rfl)) dX9_have_54 ⟨lel 0 0 rfl, lel 0 0 rfl⟩) (fun r_451 h_r_451 => ?_)
            refine vp_callSi (W.runS (As := [.long r_451]) (rest := []) ⟨hx, hb, hml, hown, hts⟩ (kX0_sumOf l dC dI r_451 ) (va_cwS 1 hts gX9_have__X0_sumOf_S119 rfl rfl rfl hd_yX0_sumOf.2 ⟨lel 1 2 rfl, lel 23 42 rfl⟩) ⟨pn_fb, pn_use⟩ rfl rfl hl.1 rfl (lv_room (Nat.le_of_ble_eq_true rfl)) dX9_have_57 ⟨lel 0 0 rfl, lel 0 0 rfl⟩) (fun r_452 h_r_452 => ?_)
            have b_r_452 := h_r_452
            have b_r_452 : (0 : Int) ≤ r_452.toInt ∧ r_452.toInt ≤ 255 := b_r_452
            refine lv_iload_n hx hb dX9_have_60 rfl (lv_at hl 4 rfl) ?_
            refine lv_icmp_ne (tgt := 67) hx hb dX9_have_61 (by decide) (fun c_453 => ?_) (fun c_453 => ?_)
            ·
              have n_c_453 : (r_452.toInt : Int) ≠ a2.toInt := c_ne rfl rfl c_453
              exact hj_67_449 y_246 _ (lv_sub hl [0, 1, 2, 3, 4] rfl)
            ·
              have n_c_453 : (r_452.toInt : Int) = a2.toInt := c_eq rfl rfl c_453
              have b_a2 : (0 : Int) ≤ a2.toInt ∧ a2.toInt ≤ 255 := r_eq2 b_r_452 b_a2 n_c_453 (by decide)
              obtain ⟨z_454, e_z_454⟩ : ∃ y : Int32, y = y_246 + 1 := ⟨_, rfl⟩
              refine lv_iinc (v := z_454) (lv' := [(3, .int z_454), (4, .int y_245), (0, .ref h0), (1, .int a1), (2, .int a2)]) hx hb dX9_have_64 hl (k := 1) rfl (by rw [e_z_454]; rfl) (by decide) rfl (fun ls hl => ?_)
              exact hj_67_449 z_454 _ (lv_sub hl [1, 0, 2, 3, 4] rfl)
    ·
      have n_c_231 : (a2.toInt : Int) < 0 := c_nge rfl (by decide) c_231
      have b_a2 : (-2147483648 : Int) ≤ a2.toInt ∧ a2.toInt ≤ -1 := r_lt1 (ti_rng a2) (by decide : (0 : Int) ≤ (0 : Int32).toInt ∧ (0 : Int32).toInt ≤ 0) n_c_231 (by decide)
      refine lv_bipush (v := (-2)) hx hb dX9_have_15 (by decide) ?_
      exact W.iret (v := (-2)) hx hb hr (fun t ht hW => ⟨(-2), rfl, trivial, ht⟩) t_nil dX9_have_17
theorem dX9_same_0 : decode cX9_same 0 = .ok (.aload_n 0, 1) := by decide +kernel
theorem dX9_same_1 : decode cX9_same 1 = .ok (.iload_n 1, 1) := by decide +kernel
theorem dX9_same_2 : decode cX9_same 2 = .ok (.iload_n 2, 1) := by decide +kernel
theorem dX9_same_3 : decode cX9_same 3 = .ok (.invokevirtual 137, 3) := by decide +kernel
theorem dX9_same_6 : decode cX9_same 6 = .ok (.ifCond .eq 12, 3) := by decide +kernel
theorem dX9_same_9 : decode cX9_same 9 = .ok (.iload_n 3, 1) := by decide +kernel
theorem dX9_same_10 : decode cX9_same 10 = .ok (.iconst 0, 1) := by decide +kernel
theorem dX9_same_11 : decode cX9_same 11 = .ok (.iconst 2, 1) := by decide +kernel
theorem dX9_same_12 : decode cX9_same 12 = .ok (.invokestatic 158, 3) := by decide +kernel
theorem dX9_same_15 : decode cX9_same 15 = .ok (.ifCond .ne 6, 3) := by decide +kernel
theorem dX9_same_18 : decode cX9_same 18 = .ok (.bipush (-2), 2) := by decide +kernel
theorem dX9_same_20 : decode cX9_same 20 = .ok (.ireturn, 1) := by decide +kernel
theorem dX9_same_21 : decode cX9_same 21 = .ok (.aload_n 0, 1) := by decide +kernel
theorem dX9_same_22 : decode cX9_same 22 = .ok (.getfield 35, 3) := by decide +kernel
theorem dX9_same_25 : decode cX9_same 25 = .ok (.iload_n 2, 1) := by decide +kernel
theorem dX9_same_26 : decode cX9_same 26 = .ok (.invokevirtual 106, 3) := by decide +kernel
theorem dX9_same_29 : decode cX9_same 29 = .ok (.lstore 4, 2) := by decide +kernel
theorem dX9_same_31 : decode cX9_same 31 = .ok (.lload 4, 2) := by decide +kernel
theorem dX9_same_33 : decode cX9_same 33 = .ok (.invokestatic 119, 3) := by decide +kernel
theorem dX9_same_36 : decode cX9_same 36 = .ok (.istore 6, 2) := by decide +kernel
theorem dX9_same_38 : decode cX9_same 38 = .ok (.lload 4, 2) := by decide +kernel
theorem dX9_same_40 : decode cX9_same 40 = .ok (.aload_n 0, 1) := by decide +kernel
theorem dX9_same_41 : decode cX9_same 41 = .ok (.getfield 35, 3) := by decide +kernel
theorem dX9_same_44 : decode cX9_same 44 = .ok (.getfield 110, 3) := by decide +kernel
theorem dX9_same_47 : decode cX9_same 47 = .ok (.invokestatic 286, 3) := by decide +kernel
theorem dX9_same_50 : decode cX9_same 50 = .ok (.lstore 7, 2) := by decide +kernel
theorem dX9_same_52 : decode cX9_same 52 = .ok (.iconst 0, 1) := by decide +kernel
theorem dX9_same_53 : decode cX9_same 53 = .ok (.istore 9, 2) := by decide +kernel
theorem dX9_same_55 : decode cX9_same 55 = .ok (.iconst 0, 1) := by decide +kernel
theorem dX9_same_56 : decode cX9_same 56 = .ok (.istore 10, 2) := by decide +kernel
theorem dX9_same_58 : decode cX9_same 58 = .ok (.iload 10, 2) := by decide +kernel
theorem dX9_same_60 : decode cX9_same 60 = .ok (.aload_n 0, 1) := by decide +kernel
theorem dX9_same_61 : decode cX9_same 61 = .ok (.getfield 35, 3) := by decide +kernel
theorem dX9_same_64 : decode cX9_same 64 = .ok (.getfield 155, 3) := by decide +kernel
theorem dX9_same_67 : decode cX9_same 67 = .ok (.if_icmp .ge 88, 3) := by decide +kernel
theorem dX9_same_70 : decode cX9_same 70 = .ok (.aload_n 0, 1) := by decide +kernel
theorem dX9_same_71 : decode cX9_same 71 = .ok (.getfield 35, 3) := by decide +kernel
theorem dX9_same_74 : decode cX9_same 74 = .ok (.iload 10, 2) := by decide +kernel
theorem dX9_same_76 : decode cX9_same 76 = .ok (.invokevirtual 106, 3) := by decide +kernel
theorem dX9_same_79 : decode cX9_same 79 = .ok (.lstore 11, 2) := by decide +kernel
theorem dX9_same_81 : decode cX9_same 81 = .ok (.lload 11, 2) := by decide +kernel
theorem dX9_same_83 : decode cX9_same 83 = .ok (.invokestatic 119, 3) := by decide +kernel
theorem dX9_same_86 : decode cX9_same 86 = .ok (.iload 6, 2) := by decide +kernel
theorem dX9_same_88 : decode cX9_same 88 = .ok (.if_icmp .ne 25, 3) := by decide +kernel
theorem dX9_same_91 : decode cX9_same 91 = .ok (.lload 11, 2) := by decide +kernel
theorem dX9_same_93 : decode cX9_same 93 = .ok (.aload_n 0, 1) := by decide +kernel
theorem dX9_same_94 : decode cX9_same 94 = .ok (.getfield 35, 3) := by decide +kernel
theorem dX9_same_97 : decode cX9_same 97 = .ok (.getfield 110, 3) := by decide +kernel
theorem dX9_same_100 : decode cX9_same 100 = .ok (.invokestatic 286, 3) := by decide +kernel
theorem dX9_same_103 : decode cX9_same 103 = .ok (.lload 7, 2) := by decide +kernel
theorem dX9_same_105 : decode cX9_same 105 = .ok (.lcmp, 1) := by decide +kernel
theorem dX9_same_106 : decode cX9_same 106 = .ok (.ifCond .ne 7, 3) := by decide +kernel
theorem dX9_same_109 : decode cX9_same 109 = .ok (.iconst 1, 1) := by decide +kernel
theorem dX9_same_110 : decode cX9_same 110 = .ok (.goto 4, 3) := by decide +kernel
theorem dX9_same_113 : decode cX9_same 113 = .ok (.iconst 0, 1) := by decide +kernel
theorem dX9_same_114 : decode cX9_same 114 = .ok (.istore 13, 2) := by decide +kernel
theorem dX9_same_116 : decode cX9_same 116 = .ok (.iload 13, 2) := by decide +kernel
theorem dX9_same_118 : decode cX9_same 118 = .ok (.ifCond .eq 31, 3) := by decide +kernel
theorem dX9_same_121 : decode cX9_same 121 = .ok (.iload_n 3, 1) := by decide +kernel
theorem dX9_same_122 : decode cX9_same 122 = .ok (.ifCond .eq 16, 3) := by decide +kernel
theorem dX9_same_125 : decode cX9_same 125 = .ok (.aload_n 0, 1) := by decide +kernel
theorem dX9_same_126 : decode cX9_same 126 = .ok (.getfield 35, 3) := by decide +kernel
theorem dX9_same_129 : decode cX9_same 129 = .ok (.iload_n 1, 1) := by decide +kernel
theorem dX9_same_130 : decode cX9_same 130 = .ok (.iload 10, 2) := by decide +kernel
theorem dX9_same_132 : decode cX9_same 132 = .ok (.invokevirtual 175, 3) := by decide +kernel
theorem dX9_same_135 : decode cX9_same 135 = .ok (.ifCond .eq 14, 3) := by decide +kernel
theorem dX9_same_138 : decode cX9_same 138 = .ok (.iload_n 3, 1) := by decide +kernel
theorem dX9_same_139 : decode cX9_same 139 = .ok (.iconst 2, 1) := by decide +kernel
theorem dX9_same_140 : decode cX9_same 140 = .ok (.if_icmp .ne 6, 3) := by decide +kernel
theorem dX9_same_143 : decode cX9_same 143 = .ok (.iload 10, 2) := by decide +kernel
theorem dX9_same_145 : decode cX9_same 145 = .ok (.ireturn, 1) := by decide +kernel
theorem dX9_same_146 : decode cX9_same 146 = .ok (.iinc 9 1, 3) := by decide +kernel
theorem dX9_same_149 : decode cX9_same 149 = .ok (.iinc 10 1, 3) := by decide +kernel
theorem dX9_same_152 : decode cX9_same 152 = .ok (.goto (-94), 3) := by decide +kernel
theorem dX9_same_155 : decode cX9_same 155 = .ok (.iload_n 3, 1) := by decide +kernel
theorem dX9_same_156 : decode cX9_same 156 = .ok (.iconst 2, 1) := by decide +kernel
theorem dX9_same_157 : decode cX9_same 157 = .ok (.if_icmp .ne 7, 3) := by decide +kernel
theorem dX9_same_160 : decode cX9_same 160 = .ok (.iconst (-1), 1) := by decide +kernel
theorem dX9_same_161 : decode cX9_same 161 = .ok (.goto 5, 3) := by decide +kernel
theorem dX9_same_164 : decode cX9_same 164 = .ok (.iload 9, 2) := by decide +kernel
theorem dX9_same_166 : decode cX9_same 166 = .ok (.ireturn, 1) := by decide +kernel
theorem hd_yX9_same : yX9_same.cls = RX9 ∧ yX9_same.cls ≠ "java/lang/invoke/MethodHandle" ∧ yX9_same.cls ≠ "java/lang/invoke/VarHandle" ∧ (parseMethodDescriptor yX9_same.desc).map (fun d => d.parameters.length) = some 3 := by decide +kernel
def uX9_same : List Cond := List.cons (.code yX9_same cX9_same 14 (some .int)) (HAppend.hAppend ([.methodLink RX9 137 yX9_hasBoth, .instanceMethod yX9_hasBoth, .selects RX9 yX9_hasBoth yX9_hasBoth, .initialized RX9, .methodLink RX9 158 yX9_isWithin, .static yX9_isWithin, .fieldLink RX9 35 "LuckyTicket" "current" "LLuckyTicket$Roll;", .methodLink RX9 106 yX2_faceOf, .instanceMethod yX2_faceOf, .selects RX2 yX2_faceOf yX2_faceOf, .initialized RX2, .methodLink RX9 119 yX0_sumOf, .static yX0_sumOf, .initialized RX0, .methodLink RX9 286 yX0_countsOf, .static yX0_countsOf, .methodLink RX9 175 yX2_isLucky, .instanceMethod yX2_isLucky, .selects RX2 yX2_isLucky yX2_isLucky] : List Cond) (HAppend.hAppend uX9_hasBoth (HAppend.hAppend uX9_isWithin (HAppend.hAppend uX2_faceOf (HAppend.hAppend uX0_sumOf (HAppend.hAppend uX0_countsOf (HAppend.hAppend uX2_isLucky (HAppend.hAppend wsX90 wsX20))))))))
theorem iX9_same_X9 : ∀ w ∈ wsX90, w ∈ uX9_same := fun _ h => (List.mem_cons_of_mem _ (List.mem_append_right _ (List.mem_append_right _ (List.mem_append_right _ (List.mem_append_right _ (List.mem_append_right _ (List.mem_append_right _ (List.mem_append_right _ (List.mem_append_left _ h)))))))))
theorem iX9_same_X2 : ∀ w ∈ wsX20, w ∈ uX9_same := fun _ h => (List.mem_cons_of_mem _ (List.mem_append_right _ (List.mem_append_right _ (List.mem_append_right _ (List.mem_append_right _ (List.mem_append_right _ (List.mem_append_right _ (List.mem_append_right _ (List.mem_append_right _ h)))))))))
theorem guX9_same : GU uX9_same := gu_cons (gu_app (by decide +kernel) (gu_ap guX9_hasBoth (gu_ap guX9_isWithin (gu_ap guX2_faceOf (gu_ap guX0_sumOf (gu_ap guX0_countsOf (gu_ap guX2_isLucky (gu_ap gws_X9 gws_X2))))))))
theorem gX9_same__X9_hasBoth_V137 : GoodIn uX9_same (wsV RX9 137 RX9 yX9_hasBoth uX9_hasBoth) := gin_V (List.mem_of_getElem? (i := 1) rfl) (List.mem_of_getElem? (i := 2) rfl) (List.mem_of_getElem? (i := 3) rfl) (List.mem_of_getElem? (i := 4) rfl) (fun _ h => (List.mem_cons_of_mem _ (List.mem_append_right _ (List.mem_append_left _ h)))) guX9_hasBoth
theorem gX9_same__X9_isWithin_S158 : GoodIn uX9_same (va_wsS RX9 158 yX9_isWithin uX9_isWithin) := gin_S (List.mem_of_getElem? (i := 5) rfl) (List.mem_of_getElem? (i := 6) rfl) (List.mem_of_getElem? (i := 4) rfl) (fun _ h => (List.mem_cons_of_mem _ (List.mem_append_right _ (List.mem_append_right _ (List.mem_append_left _ h))))) guX9_isWithin
theorem gX9_same__X2_faceOf_V106 : GoodIn uX9_same (wsV RX9 106 RX2 yX2_faceOf uX2_faceOf) := gin_V (List.mem_of_getElem? (i := 8) rfl) (List.mem_of_getElem? (i := 9) rfl) (List.mem_of_getElem? (i := 10) rfl) (List.mem_of_getElem? (i := 11) rfl) (fun _ h => (List.mem_cons_of_mem _ (List.mem_append_right _ (List.mem_append_right _ (List.mem_append_right _ (List.mem_append_left _ h)))))) guX2_faceOf
theorem gX9_same__X0_sumOf_S119 : GoodIn uX9_same (va_wsS RX9 119 yX0_sumOf uX0_sumOf) := gin_S (List.mem_of_getElem? (i := 12) rfl) (List.mem_of_getElem? (i := 13) rfl) (List.mem_of_getElem? (i := 14) rfl) (fun _ h => (List.mem_cons_of_mem _ (List.mem_append_right _ (List.mem_append_right _ (List.mem_append_right _ (List.mem_append_right _ (List.mem_append_left _ h))))))) guX0_sumOf
theorem gX9_same__X0_countsOf_S286 : GoodIn uX9_same (va_wsS RX9 286 yX0_countsOf uX0_countsOf) := gin_S (List.mem_of_getElem? (i := 15) rfl) (List.mem_of_getElem? (i := 16) rfl) (List.mem_of_getElem? (i := 14) rfl) (fun _ h => (List.mem_cons_of_mem _ (List.mem_append_right _ (List.mem_append_right _ (List.mem_append_right _ (List.mem_append_right _ (List.mem_append_right _ (List.mem_append_left _ h)))))))) guX0_countsOf
theorem gX9_same__X2_isLucky_V175 : GoodIn uX9_same (wsV RX9 175 RX2 yX2_isLucky uX2_isLucky) := gin_V (List.mem_of_getElem? (i := 17) rfl) (List.mem_of_getElem? (i := 18) rfl) (List.mem_of_getElem? (i := 19) rfl) (List.mem_of_getElem? (i := 11) rfl) (fun _ h => (List.mem_cons_of_mem _ (List.mem_append_right _ (List.mem_append_right _ (List.mem_append_right _ (List.mem_append_right _ (List.mem_append_right _ (List.mem_append_right _ (List.mem_append_left _ h))))))))) guX2_isLucky
set_option maxHeartbeats 4000000 in
set_option maxRecDepth 100000 in
theorem kX9_same (l : Launch) (dC : Nat → ClassId) (dI : Nat → Nat → Nat) (h0 : Nat) (tp : Nat) (sc : Nat) (rd : Nat) (cu : Nat) (im : Nat) (ig : Nat) (sl : Nat) (se : Nat) (sm : Nat) (fc : Nat) (ln : Int32) (bs : Int32) (tk : Int32) (lw : Int32) (li : Int32) (fa : Nat) (lu : Nat) (cL : ClassId) (nl : Nat) (fl : Nat → Int32) (cF : ClassId) (nf : Nat) (ff : Nat → Int64) (a1 : Int32) (a2 : Int32) (a3 : Int32) (b_ln : (0 : Int) ≤ ln.toInt ∧ ln.toInt ≤ 12) (b_bs : (0 : Int) ≤ bs.toInt ∧ bs.toInt ≤ 16) (b_tk : (0 : Int) ≤ tk.toInt ∧ tk.toInt ≤ 20000) (b_lw : (0 : Int) ≤ lw.toInt ∧ lw.toInt ≤ 9) (hl1 : tk.toInt ≤ (nl : Int)) (hf1 : tk.toInt ≤ (nf : Int)) : Met l yX9_same uX9_same ({ frames := 2, cells := 0, slots := 0, locals := 43 }) (va_Pc [.ref h0, .int a1, .int a2, .int a3] (pw (dC, dI) vwCl [(h0, .inr (7, [.ref tp, .ref sc, .ref rd, .ref cu, .ref im, .ref ig, .ref sl, .ref se, .ref sm, .ref fc])), (cu, .inr (1, [.int ln, .int bs, .int tk, .int lw, .int li, .ref fa, .ref lu])), (lu, .inl (cL, nl, .inl fl)), (fa, .inl (cF, nf, .inr (.inl ff)))] [(cL, .int), (cF, .long)])) (vp_Si (fun r => True)) 0 0 (fun _ => False) := by
  refine Met.ofW (cc := cX9_same) (maxL := 14) (ret := (some .int)) pn_X9 rfl ?_
  intro p e s m args below meth c s₁ B hml hv
  obtain ⟨rfl, hP, hK, hN⟩ := hv
  have hx := B.exec
  have hb := B.bytes
  have hr := B.returns
  have hts := atoms_spec (ws := uX9_same) B.pre
  have hown : s.vm.findClass RX9 = some m.cls := hown_of B.named rfl
  have hlocks := B.notSynchronized
  have hl := lv_entry ([.ref h0, .int a1, .int a2, .int a3]) (n := 14) (Nat.le_of_ble_eq_true rfl)
  rw [lg_entry_eq]
  generalize (lg_sl ([.ref h0, .int a1, .int a2, .int a3]) ++ List.replicate (14 - (lg_sl ([.ref h0, .int a1, .int a2, .int a3])).length) Slot.unset).toArray = ls at hl ⊢
  have hl : lv_has ls 14 [(0, .ref h0), (1, .int a1), (2, .int a2), (3, .int a3)] := hl
  refine lv_aload_n hx hb dX9_same_0 rfl (lv_at hl 0 rfl) ?_
  refine lv_iload_n hx hb dX9_same_1 rfl (lv_at hl 1 rfl) ?_
  refine lv_iload_n hx hb dX9_same_2 rfl (lv_at hl 2 rfl) ?_
  refine vp_callSi (W.runV (As := [.int a1, .int a2]) (rest := []) ⟨hx, hb, hml, hown, hts⟩ (kX9_hasBoth l dC dI h0 tp sc rd cu im ig sl se sm fc ln bs tk lw li fa lu a1 a2 b_ln b_bs b_tk b_lw) (cwV 2 hts gX9_same__X9_hasBoth_V137 rfl rfl rfl hd_yX9_hasBoth ⟨lel 2 2 rfl, lel 43 43 rfl⟩) ⟨pw_fb, rcv_X9 hK hP (q0 := 0) rfl, (pw_use hP hK hN [0, 1] rfl [] rfl)⟩ rfl rfl hl.1 rfl (lv_room (Nat.le_of_ble_eq_true rfl)) dX9_same_3 ⟨lel 0 0 rfl, lel 0 0 rfl⟩) (fun r_386 h_r_386 => ?_)
  obtain ⟨b_r_386, nz_r_386⟩ := h_r_386
  have b_r_386 : (0 : Int) ≤ r_386.toInt ∧ r_386.toInt ≤ 1 := b_r_386
  refine lv_if_eq (tgt := 18) hx hb dX9_same_6 (by decide) (fun c_387 => ?_) (fun c_387 => ?_)
  ·
    have n_c_387 : (r_386.toInt : Int) = 0 := c_eq rfl (by decide) c_387
    have b_r_386 : (0 : Int) ≤ r_386.toInt ∧ r_386.toInt ≤ 0 := r_eq1 b_r_386 (by decide : (0 : Int) ≤ (0 : Int32).toInt ∧ (0 : Int32).toInt ≤ 0) n_c_387 (by decide)
    refine lv_bipush (v := (-2)) hx hb dX9_same_18 (by decide) ?_
    exact W.iret (v := (-2)) hx hb hr (fun t ht hW => ⟨(-2), rfl, trivial, ht⟩) t_nil dX9_same_20
  ·
    have n_c_387 : (r_386.toInt : Int) ≠ 0 := c_ne rfl (by decide) c_387
    have b_r_386 : (1 : Int) ≤ r_386.toInt ∧ r_386.toInt ≤ 1 := r_ne1 b_r_386 (by decide : (0 : Int) ≤ (0 : Int32).toInt ∧ (0 : Int32).toInt ≤ 0) n_c_387 (by decide)
    obtain ⟨b_a1, b_a2, g_388⟩ := nz_r_386 c_387
    refine lv_iload_n hx hb dX9_same_9 rfl (lv_at hl 3 rfl) ?_
    refine lv_iconst (v := 0) hx hb dX9_same_10 (by decide) ?_
    refine lv_iconst (v := 2) hx hb dX9_same_11 (by decide) ?_
    refine vp_callSi (W.runS (As := [.int a3, .int 0, .int 2]) (rest := []) ⟨hx, hb, hml, hown, hts⟩ (kX9_isWithin l dC dI a3 0 2 ) (va_cwS 3 hts gX9_same__X9_isWithin_S158 rfl rfl rfl hd_yX9_isWithin.2 ⟨lel 1 2 rfl, lel 22 43 rfl⟩) ⟨pn_fb, pn_use⟩ rfl rfl hl.1 rfl (lv_room (Nat.le_of_ble_eq_true rfl)) dX9_same_12 ⟨lel 0 0 rfl, lel 0 0 rfl⟩) (fun r_389 h_r_389 => ?_)
    obtain ⟨b_r_389, nz_r_389⟩ := h_r_389
    have b_r_389 : (0 : Int) ≤ r_389.toInt ∧ r_389.toInt ≤ 1 := b_r_389
    refine lv_if_ne (tgt := 21) hx hb dX9_same_15 (by decide) (fun c_390 => ?_) (fun c_390 => ?_)
    ·
      have n_c_390 : (r_389.toInt : Int) ≠ 0 := c_ne rfl (by decide) c_390
      have b_r_389 : (1 : Int) ≤ r_389.toInt ∧ r_389.toInt ≤ 1 := r_ne1 b_r_389 (by decide : (0 : Int) ≤ (0 : Int32).toInt ∧ (0 : Int32).toInt ≤ 0) n_c_390 (by decide)
      have g_391 := nz_r_389 c_390
      have lt0_g_391 := (by decide : (0 : Int32).toInt = 0)
      have lt1_g_391 := (by decide : (2 : Int32).toInt = 2)
      have b_a3 : (0 : Int) ≤ a3.toInt ∧ a3.toInt ≤ 2 := by
        have q0 := (ti_rng a3)
        have q1 := (by decide : (0 : Int) ≤ (0 : Int32).toInt ∧ (0 : Int32).toInt ≤ 0)
        have q2 := (by decide : (2 : Int) ≤ (2 : Int32).toInt ∧ (2 : Int32).toInt ≤ 2)
        omega
      refine lv_aload_n hx hb dX9_same_21 rfl (lv_at hl 0 rfl) ?_
      refine va_get (D := (dC, dI)) (ci := 7) (v := .ref cu) (C := RX9) (T := TX9) (N := 10) hx hb hts iX9_same_X9 hown hK hP 0 rfl rfl 3 (by decide) (hts (.fieldLink RX9 35 "LuckyTicket" "current" "LLuckyTicket$Roll;") (List.mem_of_getElem? (i := 7) rfl)) (fun _ h9 => h9) rfl dX9_same_22 ?_
      refine lv_iload_n hx hb dX9_same_25 rfl (lv_at hl 2 rfl) ?_
      refine vp_callSl (W.runV (As := [.int a2]) (rest := []) ⟨hx, hb, hml, hown, hts⟩ (kX2_faceOf l dC dI cu ln bs tk lw li fa lu cF nf ff a2 b_ln b_bs b_tk b_lw (by omega)) (cwV 1 hts gX9_same__X2_faceOf_V106 rfl rfl rfl hd_yX2_faceOf ⟨lel 2 2 rfl, lel 42 43 rfl⟩) ⟨pw_fb, rcv_X2 hK hP (q0 := 1) rfl, (pw_use hP hK hN [1, 3] rfl [1] rfl)⟩ rfl rfl hl.1 rfl (lv_room (Nat.le_of_ble_eq_true rfl)) dX9_same_26 ⟨lel 0 0 rfl, lel 0 0 rfl⟩) (fun r_392 h_r_392 => ?_)
      refine lv_lstore (lv' := [(4, .long r_392), (0, .ref h0), (1, .int a1), (2, .int a2), (3, .int a3)]) hx hb dX9_same_29 hl (by decide) rfl (fun ls hl => ?_)
      refine lv_lload hx hb dX9_same_31 (lv_at hl 0 rfl) ?_
      refine vp_callSi (W.runS (As := [.long r_392]) (rest := []) ⟨hx, hb, hml, hown, hts⟩ (kX0_sumOf l dC dI r_392 ) (va_cwS 1 hts gX9_same__X0_sumOf_S119 rfl rfl rfl hd_yX0_sumOf.2 ⟨lel 1 2 rfl, lel 23 43 rfl⟩) ⟨pn_fb, pn_use⟩ rfl rfl hl.1 rfl (lv_room (Nat.le_of_ble_eq_true rfl)) dX9_same_33 ⟨lel 0 0 rfl, lel 0 0 rfl⟩) (fun r_393 h_r_393 => ?_)
      have b_r_393 := h_r_393
      have b_r_393 : (0 : Int) ≤ r_393.toInt ∧ r_393.toInt ≤ 255 := b_r_393
      refine lv_istore (lv' := [(6, .int r_393), (4, .long r_392), (0, .ref h0), (1, .int a1), (2, .int a2), (3, .int a3)]) hx hb dX9_same_36 hl (by decide) rfl (fun ls hl => ?_)
      refine lv_lload hx hb dX9_same_38 (lv_at hl 1 rfl) ?_
      refine lv_aload_n hx hb dX9_same_40 rfl (lv_at hl 2 rfl) ?_
      refine va_get (D := (dC, dI)) (ci := 7) (v := .ref cu) (C := RX9) (T := TX9) (N := 10) hx hb hts iX9_same_X9 hown hK hP 0 rfl rfl 3 (by decide) (hts (.fieldLink RX9 35 "LuckyTicket" "current" "LLuckyTicket$Roll;") (List.mem_of_getElem? (i := 7) rfl)) (fun _ h9 => h9) rfl dX9_same_41 ?_
      refine va_getN (own := RX9) (index := 110) (ref := RX2) (host := RX9) (D := (dC, dI)) (ci := 1) (v := .int ln) (C := RX2) (T := TX2) (N := 7) hx hb hts iX9_same_X2 hown hK hP 1 rfl rfl 0 (by decide) (va_Nw.use rfl (hN _ (List.mem_of_getElem? (i := 14) rfl))) (fun _ h9 => h9) rfl dX9_same_44 ?_
      refine vp_callSl (W.runS (As := [.long r_392, .int ln]) (rest := []) ⟨hx, hb, hml, hown, hts⟩ (kX0_countsOf l dC dI r_392 ln b_ln) (va_cwS 2 hts gX9_same__X0_countsOf_S286 rfl rfl rfl hd_yX0_countsOf.2 ⟨lel 1 2 rfl, lel 27 43 rfl⟩) ⟨pn_fb, pn_use⟩ rfl rfl hl.1 rfl (lv_room (Nat.le_of_ble_eq_true rfl)) dX9_same_47 ⟨lel 0 0 rfl, lel 0 0 rfl⟩) (fun r_394 h_r_394 => ?_)
      refine lv_lstore (lv' := [(7, .long r_394), (6, .int r_393), (4, .long r_392), (0, .ref h0), (1, .int a1), (2, .int a2), (3, .int a3)]) hx hb dX9_same_50 hl (by decide) rfl (fun ls hl => ?_)
      refine lv_iconst (v := 0) hx hb dX9_same_52 (by decide) ?_
      refine lv_istore (lv' := [(9, .int 0), (7, .long r_394), (6, .int r_393), (4, .long r_392), (0, .ref h0), (1, .int a1), (2, .int a2), (3, .int a3)]) hx hb dX9_same_53 hl (by decide) rfl (fun ls hl => ?_)
      refine lv_iconst (v := 0) hx hb dX9_same_55 (by decide) ?_
      refine lv_istore (lv' := [(10, .int 0), (9, .int 0), (7, .long r_394), (6, .int r_393), (4, .long r_392), (0, .ref h0), (1, .int a1), (2, .int a2), (3, .int a3)]) hx hb dX9_same_56 hl (by decide) rfl (fun ls hl => ?_)
      refine loopP (σ := Int32 × Int32) (fun v => (20000 - v.1.toInt).toNat) (fun v ls => ((0 : Int) ≤ v.1.toInt ∧ v.1.toInt ≤ 20000) ∧ lv_has ls 14 [(10, .int v.1), (9, .int v.2), (7, .long r_394), (6, .int r_393), (4, .long r_392), (0, .ref h0), (1, .int a1), (2, .int a2), (3, .int a3)]) (fun v ls hI ih_58_748 => ?_) ((0 : Int32), (0 : Int32)) ⟨(show (0 : Int) ≤ (0 : Int32).toInt ∧ (0 : Int32).toInt ≤ 20000 from (rg_w (by decide : (0 : Int) ≤ (0 : Int32).toInt ∧ (0 : Int32).toInt ≤ 0) (by decide) (by decide))), lv_sub hl [0, 1, 2, 3, 4, 5, 6, 7, 8] rfl⟩
      obtain ⟨y_417, y_418⟩ := v
      obtain ⟨b_y_417, hl⟩ := hI
      have b_y_417 : (0 : Int) ≤ y_417.toInt ∧ y_417.toInt ≤ 20000 := b_y_417
      have hl : lv_has ls 14 [(10, .int y_417), (9, .int y_418), (7, .long r_394), (6, .int r_393), (4, .long r_392), (0, .ref h0), (1, .int a1), (2, .int a2), (3, .int a3)] := hl
      refine lv_iload hx hb dX9_same_58 (lv_at hl 0 rfl) ?_
      refine lv_aload_n hx hb dX9_same_60 rfl (lv_at hl 5 rfl) ?_
      refine va_get (D := (dC, dI)) (ci := 7) (v := .ref cu) (C := RX9) (T := TX9) (N := 10) hx hb hts iX9_same_X9 hown hK hP 0 rfl rfl 3 (by decide) (hts (.fieldLink RX9 35 "LuckyTicket" "current" "LLuckyTicket$Roll;") (List.mem_of_getElem? (i := 7) rfl)) (fun _ h9 => h9) rfl dX9_same_61 ?_
      refine va_getN (own := RX9) (index := 155) (ref := RX2) (host := RX9) (D := (dC, dI)) (ci := 1) (v := .int tk) (C := RX2) (T := TX2) (N := 7) hx hb hts iX9_same_X2 hown hK hP 1 rfl rfl 2 (by decide) (va_Nw.use rfl (hN _ (List.mem_of_getElem? (i := 18) rfl))) (fun _ h9 => h9) rfl dX9_same_64 ?_
      refine lv_icmp_ge (tgt := 155) hx hb dX9_same_67 (by decide) (fun c_749 => ?_) (fun c_749 => ?_)
      ·
        have n_c_749 : (tk.toInt : Int) ≤ y_417.toInt := c_ge rfl rfl c_749
        refine lv_iload_n hx hb dX9_same_155 rfl (lv_at hl 8 rfl) ?_
        refine lv_iconst (v := 2) hx hb dX9_same_156 (by decide) ?_
        refine lv_icmp_ne (tgt := 164) hx hb dX9_same_157 (by decide) (fun c_750 => ?_) (fun c_750 => ?_)
        ·
          have n_c_750 : (a3.toInt : Int) ≠ 2 := c_ne rfl (by decide) c_750
          have b_a3 : (0 : Int) ≤ a3.toInt ∧ a3.toInt ≤ 1 := r_ne2 b_a3 (by decide : (2 : Int) ≤ (2 : Int32).toInt ∧ (2 : Int32).toInt ≤ 2) n_c_750 (by decide)
          refine lv_iload hx hb dX9_same_164 (lv_at hl 1 rfl) ?_
          exact W.iret (v := y_418) hx hb hr (fun t ht hW => ⟨y_418, rfl, trivial, ht⟩) t_nil dX9_same_166
        ·
          have n_c_750 : (a3.toInt : Int) = 2 := c_eq rfl (by decide) c_750
          have b_a3 : (2 : Int) ≤ a3.toInt ∧ a3.toInt ≤ 2 := r_eq1 b_a3 (by decide : (2 : Int) ≤ (2 : Int32).toInt ∧ (2 : Int32).toInt ≤ 2) n_c_750 (by decide)
          refine lv_iconst (v := (-1)) hx hb dX9_same_160 (by decide) ?_
          refine lv_goto (tgt := 166) hx hb dX9_same_161 (by decide) ?_
          exact W.iret (v := (-1)) hx hb hr (fun t ht hW => ⟨(-1), rfl, trivial, ht⟩) t_nil dX9_same_166
      ·
        have n_c_749 : (y_417.toInt : Int) < tk.toInt := c_nge rfl rfl c_749
        have b_y_417 : (0 : Int) ≤ y_417.toInt ∧ y_417.toInt ≤ 19999 := r_lt1 b_y_417 b_tk n_c_749 (by decide)
        have b_tk : (1 : Int) ≤ tk.toInt ∧ tk.toInt ≤ 20000 := r_lt2 b_y_417 b_tk n_c_749 (by decide)
        refine lv_aload_n hx hb dX9_same_70 rfl (lv_at hl 5 rfl) ?_
        refine va_get (D := (dC, dI)) (ci := 7) (v := .ref cu) (C := RX9) (T := TX9) (N := 10) hx hb hts iX9_same_X9 hown hK hP 0 rfl rfl 3 (by decide) (hts (.fieldLink RX9 35 "LuckyTicket" "current" "LLuckyTicket$Roll;") (List.mem_of_getElem? (i := 7) rfl)) (fun _ h9 => h9) rfl dX9_same_71 ?_
        refine lv_iload hx hb dX9_same_74 (lv_at hl 0 rfl) ?_
        refine vp_callSl (W.runV (As := [.int y_417]) (rest := []) ⟨hx, hb, hml, hown, hts⟩ (kX2_faceOf l dC dI cu ln bs tk lw li fa lu cF nf ff y_417 b_ln b_bs (rg_w b_tk (by decide) (by decide)) b_lw (by omega)) (cwV 1 hts gX9_same__X2_faceOf_V106 rfl rfl rfl hd_yX2_faceOf ⟨lel 2 2 rfl, lel 42 43 rfl⟩) ⟨pw_fb, rcv_X2 hK hP (q0 := 1) rfl, (pw_use hP hK hN [1, 3] rfl [1] rfl)⟩ rfl rfl hl.1 rfl (lv_room (Nat.le_of_ble_eq_true rfl)) dX9_same_76 ⟨lel 0 0 rfl, lel 0 0 rfl⟩) (fun r_751 h_r_751 => ?_)
        refine lv_lstore (lv' := [(11, .long r_751), (10, .int y_417), (9, .int y_418), (7, .long r_394), (6, .int r_393), (4, .long r_392), (0, .ref h0), (1, .int a1), (2, .int a2), (3, .int a3)]) hx hb dX9_same_79 hl (by decide) rfl (fun ls hl => ?_)
        refine lv_lload hx hb dX9_same_81 (lv_at hl 0 rfl) ?_
        refine vp_callSi (W.runS (As := [.long r_751]) (rest := []) ⟨hx, hb, hml, hown, hts⟩ (kX0_sumOf l dC dI r_751 ) (va_cwS 1 hts gX9_same__X0_sumOf_S119 rfl rfl rfl hd_yX0_sumOf.2 ⟨lel 1 2 rfl, lel 23 43 rfl⟩) ⟨pn_fb, pn_use⟩ rfl rfl hl.1 rfl (lv_room (Nat.le_of_ble_eq_true rfl)) dX9_same_83 ⟨lel 0 0 rfl, lel 0 0 rfl⟩) (fun r_752 h_r_752 => ?_)
        have b_r_752 := h_r_752
        have b_r_752 : (0 : Int) ≤ r_752.toInt ∧ r_752.toInt ≤ 255 := b_r_752
        refine lv_iload hx hb dX9_same_86 (lv_at hl 4 rfl) ?_
        refine cutP (σ := Int32) (pc2 := 114) (st2 := fun v => [.int v]) (cells2 := 0) (slots2 := 0) (fun v ls => ((0 : Int) ≤ v.toInt ∧ v.toInt ≤ 1) ∧ lv_has ls 14 [(11, .long r_751), (10, .int y_417), (9, .int y_418), (7, .long r_394), (6, .int r_393), (4, .long r_392), (0, .ref h0), (1, .int a1), (2, .int a2), (3, .int a3)]) (fun v ls hI => ?_) (fun hj_114_756 => ?_)
        ·
          obtain ⟨y_756, rfl⟩ : ∃ z, z = v := ⟨_, rfl⟩
          obtain ⟨b_y_756, hl⟩ := hI
          have b_y_756 : (0 : Int) ≤ y_756.toInt ∧ y_756.toInt ≤ 1 := b_y_756
          have hl : lv_has ls 14 [(11, .long r_751), (10, .int y_417), (9, .int y_418), (7, .long r_394), (6, .int r_393), (4, .long r_392), (0, .ref h0), (1, .int a1), (2, .int a2), (3, .int a3)] := hl
          refine lv_istore (lv' := [(13, .int y_756), (11, .long r_751), (10, .int y_417), (9, .int y_418), (7, .long r_394), (6, .int r_393), (4, .long r_392), (0, .ref h0), (1, .int a1), (2, .int a2), (3, .int a3)]) hx hb dX9_same_114 hl (by decide) rfl (fun ls hl => ?_)
          refine lv_iload hx hb dX9_same_116 (lv_at hl 0 rfl) ?_
          refine lv_if_eq (tgt := 149) hx hb dX9_same_118 (by decide) (fun c_757 => ?_) (fun c_757 => ?_)
          ·
            have n_c_757 : (y_756.toInt : Int) = 0 := c_eq rfl (by decide) c_757
            have b_y_756 : (0 : Int) ≤ y_756.toInt ∧ y_756.toInt ≤ 0 := r_eq1 b_y_756 (by decide : (0 : Int) ≤ (0 : Int32).toInt ∧ (0 : Int32).toInt ≤ 0) n_c_757 (by decide)
            obtain ⟨z_758, e_z_758⟩ : ∃ y : Int32, y = y_417 + 1 := ⟨_, rfl⟩
            refine lv_iinc (v := z_758) (lv' := [(10, .int z_758), (13, .int y_756), (11, .long r_751), (9, .int y_418), (7, .long r_394), (6, .int r_393), (4, .long r_392), (0, .ref h0), (1, .int a1), (2, .int a2), (3, .int a3)]) hx hb dX9_same_149 hl (k := 2) rfl (by rw [e_z_758]; rfl) (by decide) rfl (fun ls hl => ?_)
            obtain ⟨q_z_758, b_z_758⟩ := ti_add (lo := 1) (hi := 20000) e_z_758 rfl (by decide : (1 : Int32).toInt = 1) b_y_417 (by decide : (1 : Int) ≤ (1 : Int32).toInt ∧ (1 : Int32).toInt ≤ 1) (by decide)
            refine lv_goto (tgt := 58) hx hb dX9_same_152 (by decide) ?_
            exact ih_58_748 (z_758, y_418) _ ⟨(show (0 : Int) ≤ z_758.toInt ∧ z_758.toInt ≤ 20000 from (rg_w b_z_758 (by decide) (by decide))), lv_sub hl [0, 3, 4, 5, 6, 7, 8, 9, 10] rfl⟩ (show (20000 - z_758.toInt).toNat < (20000 - y_417.toInt).toNat by omega)
          ·
            have n_c_757 : (y_756.toInt : Int) ≠ 0 := c_ne rfl (by decide) c_757
            have b_y_756 : (1 : Int) ≤ y_756.toInt ∧ y_756.toInt ≤ 1 := r_ne1 b_y_756 (by decide : (0 : Int) ≤ (0 : Int32).toInt ∧ (0 : Int32).toInt ≤ 0) n_c_757 (by decide)
            refine lv_iload_n hx hb dX9_same_121 rfl (lv_at hl 10 rfl) ?_
            refine lv_if_eq (tgt := 138) hx hb dX9_same_122 (by decide) (fun c_759 => ?_) (fun c_759 => ?_)
            ·
              have n_c_759 : (a3.toInt : Int) = 0 := c_eq rfl (by decide) c_759
              have b_a3 : (0 : Int) ≤ a3.toInt ∧ a3.toInt ≤ 0 := r_eq1 b_a3 (by decide : (0 : Int) ≤ (0 : Int32).toInt ∧ (0 : Int32).toInt ≤ 0) n_c_759 (by decide)
              refine lv_iload_n hx hb dX9_same_138 rfl (lv_at hl 10 rfl) ?_
              refine lv_iconst (v := 2) hx hb dX9_same_139 (by decide) ?_
              refine lv_icmp_ne (tgt := 146) hx hb dX9_same_140 (by decide) (fun c_760 => ?_) (fun c_760 => absurd (show (a3.toInt : Int) = 2 from c_eq rfl (by decide) c_760) (by have q1 := b_a3; have q2 := (by decide : (2 : Int) ≤ (2 : Int32).toInt ∧ (2 : Int32).toInt ≤ 2); omega))
              obtain ⟨z_761, e_z_761⟩ : ∃ y : Int32, y = y_418 + 1 := ⟨_, rfl⟩
              refine lv_iinc (v := z_761) (lv' := [(9, .int z_761), (13, .int y_756), (11, .long r_751), (10, .int y_417), (7, .long r_394), (6, .int r_393), (4, .long r_392), (0, .ref h0), (1, .int a1), (2, .int a2), (3, .int a3)]) hx hb dX9_same_146 hl (k := 3) rfl (by rw [e_z_761]; rfl) (by decide) rfl (fun ls hl => ?_)
              obtain ⟨z_762, e_z_762⟩ : ∃ y : Int32, y = y_417 + 1 := ⟨_, rfl⟩
              refine lv_iinc (v := z_762) (lv' := [(10, .int z_762), (9, .int z_761), (13, .int y_756), (11, .long r_751), (7, .long r_394), (6, .int r_393), (4, .long r_392), (0, .ref h0), (1, .int a1), (2, .int a2), (3, .int a3)]) hx hb dX9_same_149 hl (k := 3) rfl (by rw [e_z_762]; rfl) (by decide) rfl (fun ls hl => ?_)
              obtain ⟨q_z_762, b_z_762⟩ := ti_add (lo := 1) (hi := 20000) e_z_762 rfl (by decide : (1 : Int32).toInt = 1) b_y_417 (by decide : (1 : Int) ≤ (1 : Int32).toInt ∧ (1 : Int32).toInt ≤ 1) (by decide)
              refine lv_goto (tgt := 58) hx hb dX9_same_152 (by decide) ?_
              exact ih_58_748 (z_762, z_761) _ ⟨(show (0 : Int) ≤ z_762.toInt ∧ z_762.toInt ≤ 20000 from (rg_w b_z_762 (by decide) (by decide))), lv_sub hl [0, 1, 4, 5, 6, 7, 8, 9, 10] rfl⟩ (show (20000 - z_762.toInt).toNat < (20000 - y_417.toInt).toNat by omega)
            ·
              have n_c_759 : (a3.toInt : Int) ≠ 0 := c_ne rfl (by decide) c_759
              have b_a3 : (1 : Int) ≤ a3.toInt ∧ a3.toInt ≤ 2 := r_ne1 b_a3 (by decide : (0 : Int) ≤ (0 : Int32).toInt ∧ (0 : Int32).toInt ≤ 0) n_c_759 (by decide)
              refine lv_aload_n hx hb dX9_same_125 rfl (lv_at hl 7 rfl) ?_
              refine va_get (D := (dC, dI)) (ci := 7) (v := .ref cu) (C := RX9) (T := TX9) (N := 10) hx hb hts iX9_same_X9 hown hK hP 0 rfl rfl 3 (by decide) (hts (.fieldLink RX9 35 "LuckyTicket" "current" "LLuckyTicket$Roll;") (List.mem_of_getElem? (i := 7) rfl)) (fun _ h9 => h9) rfl dX9_same_126 ?_
              refine lv_iload_n hx hb dX9_same_129 rfl (lv_at hl 8 rfl) ?_
              refine lv_iload hx hb dX9_same_130 (lv_at hl 2 rfl) ?_
              refine vp_callSi (W.runV (As := [.int a1, .int y_417]) (rest := []) ⟨hx, hb, hml, hown, hts⟩ (kX2_isLucky l dC dI cu ln bs tk lw li fa lu cL nl fl a1 y_417 b_ln b_bs (rg_w b_tk (by decide) (by decide)) b_lw (by omega)) (cwV 2 hts gX9_same__X2_isLucky_V175 rfl rfl rfl hd_yX2_isLucky ⟨lel 1 2 rfl, lel 22 43 rfl⟩) ⟨pw_fb, rcv_X2 hK hP (q0 := 1) rfl, (pw_use hP hK hN [1, 2] rfl [0] rfl)⟩ rfl rfl hl.1 rfl (lv_room (Nat.le_of_ble_eq_true rfl)) dX9_same_132 ⟨lel 0 0 rfl, lel 0 0 rfl⟩) (fun r_763 h_r_763 => ?_)
              have b_r_763 := h_r_763
              have b_r_763 : (0 : Int) ≤ r_763.toInt ∧ r_763.toInt ≤ 1 := b_r_763
              refine lv_if_eq (tgt := 149) hx hb dX9_same_135 (by decide) (fun c_764 => ?_) (fun c_764 => ?_)
              ·
                have n_c_764 : (r_763.toInt : Int) = 0 := c_eq rfl (by decide) c_764
                have b_r_763 : (0 : Int) ≤ r_763.toInt ∧ r_763.toInt ≤ 0 := r_eq1 b_r_763 (by decide : (0 : Int) ≤ (0 : Int32).toInt ∧ (0 : Int32).toInt ≤ 0) n_c_764 (by decide)
                obtain ⟨z_765, e_z_765⟩ : ∃ y : Int32, y = y_417 + 1 := ⟨_, rfl⟩
                refine lv_iinc (v := z_765) (lv' := [(10, .int z_765), (13, .int y_756), (11, .long r_751), (9, .int y_418), (7, .long r_394), (6, .int r_393), (4, .long r_392), (0, .ref h0), (1, .int a1), (2, .int a2), (3, .int a3)]) hx hb dX9_same_149 hl (k := 2) rfl (by rw [e_z_765]; rfl) (by decide) rfl (fun ls hl => ?_)
                obtain ⟨q_z_765, b_z_765⟩ := ti_add (lo := 1) (hi := 20000) e_z_765 rfl (by decide : (1 : Int32).toInt = 1) b_y_417 (by decide : (1 : Int) ≤ (1 : Int32).toInt ∧ (1 : Int32).toInt ≤ 1) (by decide)
                refine lv_goto (tgt := 58) hx hb dX9_same_152 (by decide) ?_
                exact ih_58_748 (z_765, y_418) _ ⟨(show (0 : Int) ≤ z_765.toInt ∧ z_765.toInt ≤ 20000 from (rg_w b_z_765 (by decide) (by decide))), lv_sub hl [0, 3, 4, 5, 6, 7, 8, 9, 10] rfl⟩ (show (20000 - z_765.toInt).toNat < (20000 - y_417.toInt).toNat by omega)
              ·
                have n_c_764 : (r_763.toInt : Int) ≠ 0 := c_ne rfl (by decide) c_764
                have b_r_763 : (1 : Int) ≤ r_763.toInt ∧ r_763.toInt ≤ 1 := r_ne1 b_r_763 (by decide : (0 : Int) ≤ (0 : Int32).toInt ∧ (0 : Int32).toInt ≤ 0) n_c_764 (by decide)
                refine lv_iload_n hx hb dX9_same_138 rfl (lv_at hl 10 rfl) ?_
                refine lv_iconst (v := 2) hx hb dX9_same_139 (by decide) ?_
                refine lv_icmp_ne (tgt := 146) hx hb dX9_same_140 (by decide) (fun c_766 => ?_) (fun c_766 => ?_)
                ·
                  have n_c_766 : (a3.toInt : Int) ≠ 2 := c_ne rfl (by decide) c_766
                  have b_a3 : (1 : Int) ≤ a3.toInt ∧ a3.toInt ≤ 1 := r_ne2 b_a3 (by decide : (2 : Int) ≤ (2 : Int32).toInt ∧ (2 : Int32).toInt ≤ 2) n_c_766 (by decide)
                  obtain ⟨z_767, e_z_767⟩ : ∃ y : Int32, y = y_418 + 1 := ⟨_, rfl⟩
                  refine lv_iinc (v := z_767) (lv' := [(9, .int z_767), (13, .int y_756), (11, .long r_751), (10, .int y_417), (7, .long r_394), (6, .int r_393), (4, .long r_392), (0, .ref h0), (1, .int a1), (2, .int a2), (3, .int a3)]) hx hb dX9_same_146 hl (k := 3) rfl (by rw [e_z_767]; rfl) (by decide) rfl (fun ls hl => ?_)
                  obtain ⟨z_768, e_z_768⟩ : ∃ y : Int32, y = y_417 + 1 := ⟨_, rfl⟩
                  refine lv_iinc (v := z_768) (lv' := [(10, .int z_768), (9, .int z_767), (13, .int y_756), (11, .long r_751), (7, .long r_394), (6, .int r_393), (4, .long r_392), (0, .ref h0), (1, .int a1), (2, .int a2), (3, .int a3)]) hx hb dX9_same_149 hl (k := 3) rfl (by rw [e_z_768]; rfl) (by decide) rfl (fun ls hl => ?_)
                  obtain ⟨q_z_768, b_z_768⟩ := ti_add (lo := 1) (hi := 20000) e_z_768 rfl (by decide : (1 : Int32).toInt = 1) b_y_417 (by decide : (1 : Int) ≤ (1 : Int32).toInt ∧ (1 : Int32).toInt ≤ 1) (by decide)
                  refine lv_goto (tgt := 58) hx hb dX9_same_152 (by decide) ?_
                  exact ih_58_748 (z_768, z_767) _ ⟨(show (0 : Int) ≤ z_768.toInt ∧ z_768.toInt ≤ 20000 from (rg_w b_z_768 (by decide) (by decide))), lv_sub hl [0, 1, 4, 5, 6, 7, 8, 9, 10] rfl⟩ (show (20000 - z_768.toInt).toNat < (20000 - y_417.toInt).toNat by omega)
                ·
                  have n_c_766 : (a3.toInt : Int) = 2 := c_eq rfl (by decide) c_766
                  have b_a3 : (2 : Int) ≤ a3.toInt ∧ a3.toInt ≤ 2 := r_eq1 b_a3 (by decide : (2 : Int) ≤ (2 : Int32).toInt ∧ (2 : Int32).toInt ≤ 2) n_c_766 (by decide)
                  refine lv_iload hx hb dX9_same_143 (lv_at hl 2 rfl) ?_
                  exact W.iret (v := y_417) hx hb hr (fun t ht hW => ⟨y_417, rfl, trivial, ht⟩) t_nil dX9_same_145
        ·
          refine lv_icmp_ne (tgt := 113) hx hb dX9_same_88 (by decide) (fun c_753 => ?_) (fun c_753 => ?_)
          ·
            have n_c_753 : (r_752.toInt : Int) ≠ r_393.toInt := c_ne rfl rfl c_753
            refine lv_iconst (v := 0) hx hb dX9_same_113 (by decide) ?_
            exact hj_114_756 (0 : Int32) _ ⟨(show (0 : Int) ≤ (0 : Int32).toInt ∧ (0 : Int32).toInt ≤ 1 from (rg_w (by decide : (0 : Int) ≤ (0 : Int32).toInt ∧ (0 : Int32).toInt ≤ 0) (by decide) (by decide))), lv_sub hl [0, 1, 2, 3, 4, 5, 6, 7, 8, 9] rfl⟩
          ·
            have n_c_753 : (r_752.toInt : Int) = r_393.toInt := c_eq rfl rfl c_753
            refine lv_lload hx hb dX9_same_91 (lv_at hl 0 rfl) ?_
            refine lv_aload_n hx hb dX9_same_93 rfl (lv_at hl 6 rfl) ?_
            refine va_get (D := (dC, dI)) (ci := 7) (v := .ref cu) (C := RX9) (T := TX9) (N := 10) hx hb hts iX9_same_X9 hown hK hP 0 rfl rfl 3 (by decide) (hts (.fieldLink RX9 35 "LuckyTicket" "current" "LLuckyTicket$Roll;") (List.mem_of_getElem? (i := 7) rfl)) (fun _ h9 => h9) rfl dX9_same_94 ?_
            refine va_getN (own := RX9) (index := 110) (ref := RX2) (host := RX9) (D := (dC, dI)) (ci := 1) (v := .int ln) (C := RX2) (T := TX2) (N := 7) hx hb hts iX9_same_X2 hown hK hP 1 rfl rfl 0 (by decide) (va_Nw.use rfl (hN _ (List.mem_of_getElem? (i := 14) rfl))) (fun _ h9 => h9) rfl dX9_same_97 ?_
            refine vp_callSl (W.runS (As := [.long r_751, .int ln]) (rest := []) ⟨hx, hb, hml, hown, hts⟩ (kX0_countsOf l dC dI r_751 ln b_ln) (va_cwS 2 hts gX9_same__X0_countsOf_S286 rfl rfl rfl hd_yX0_countsOf.2 ⟨lel 1 2 rfl, lel 27 43 rfl⟩) ⟨pn_fb, pn_use⟩ rfl rfl hl.1 rfl (lv_room (Nat.le_of_ble_eq_true rfl)) dX9_same_100 ⟨lel 0 0 rfl, lel 0 0 rfl⟩) (fun r_769 h_r_769 => ?_)
            refine lv_lload hx hb dX9_same_103 (lv_at hl 3 rfl) ?_
            refine W.lcmp hx hb dX9_same_105 ?_
            refine lv_if_ne (tgt := 113) hx hb dX9_same_106 (by decide) (fun c_770 => ?_) (fun c_770 => ?_)
            ·
              have n_c_770 : (r_769.toInt : Int) ≠ r_394.toInt := g_ne rfl rfl c_770
              refine lv_iconst (v := 0) hx hb dX9_same_113 (by decide) ?_
              exact hj_114_756 (0 : Int32) _ ⟨(show (0 : Int) ≤ (0 : Int32).toInt ∧ (0 : Int32).toInt ≤ 1 from (rg_w (by decide : (0 : Int) ≤ (0 : Int32).toInt ∧ (0 : Int32).toInt ≤ 0) (by decide) (by decide))), lv_sub hl [0, 1, 2, 3, 4, 5, 6, 7, 8, 9] rfl⟩
            ·
              have n_c_770 : (r_769.toInt : Int) = r_394.toInt := g_eq rfl rfl c_770
              refine lv_iconst (v := 1) hx hb dX9_same_109 (by decide) ?_
              refine lv_goto (tgt := 114) hx hb dX9_same_110 (by decide) ?_
              exact hj_114_756 (1 : Int32) _ ⟨(show (0 : Int) ≤ (1 : Int32).toInt ∧ (1 : Int32).toInt ≤ 1 from (rg_w (by decide : (1 : Int) ≤ (1 : Int32).toInt ∧ (1 : Int32).toInt ≤ 1) (by decide) (by decide))), lv_sub hl [0, 1, 2, 3, 4, 5, 6, 7, 8, 9] rfl⟩
    ·
      have n_c_390 : (r_389.toInt : Int) = 0 := c_eq rfl (by decide) c_390
      have b_r_389 : (0 : Int) ≤ r_389.toInt ∧ r_389.toInt ≤ 0 := r_eq1 b_r_389 (by decide : (0 : Int) ≤ (0 : Int32).toInt ∧ (0 : Int32).toInt ≤ 0) n_c_390 (by decide)
      refine lv_bipush (v := (-2)) hx hb dX9_same_18 (by decide) ?_
      exact W.iret (v := (-2)) hx hb hr (fun t ht hW => ⟨(-2), rfl, trivial, ht⟩) t_nil dX9_same_20
