theorem dX9_nearest_0 : decode cX9_nearest 0 = .ok (.aload_n 0, 1) := by decide +kernel
theorem dX9_nearest_1 : decode cX9_nearest 1 = .ok (.iload_n 1, 1) := by decide +kernel
theorem dX9_nearest_2 : decode cX9_nearest 2 = .ok (.iload_n 2, 1) := by decide +kernel
theorem dX9_nearest_3 : decode cX9_nearest 3 = .ok (.invokevirtual 137, 3) := by decide +kernel
theorem dX9_nearest_6 : decode cX9_nearest 6 = .ok (.ifCond .ne 6, 3) := by decide +kernel
theorem dX9_nearest_9 : decode cX9_nearest 9 = .ok (.bipush (-2), 2) := by decide +kernel
theorem dX9_nearest_11 : decode cX9_nearest 11 = .ok (.ireturn, 1) := by decide +kernel
theorem dX9_nearest_12 : decode cX9_nearest 12 = .ok (.aload_n 0, 1) := by decide +kernel
theorem dX9_nearest_13 : decode cX9_nearest 13 = .ok (.getfield 35, 3) := by decide +kernel
theorem dX9_nearest_16 : decode cX9_nearest 16 = .ok (.iload_n 1, 1) := by decide +kernel
theorem dX9_nearest_17 : decode cX9_nearest 17 = .ok (.iload_n 2, 1) := by decide +kernel
theorem dX9_nearest_18 : decode cX9_nearest 18 = .ok (.invokevirtual 169, 3) := by decide +kernel
theorem dX9_nearest_21 : decode cX9_nearest 21 = .ok (.istore_n 3, 1) := by decide +kernel
theorem dX9_nearest_22 : decode cX9_nearest 22 = .ok (.aload_n 0, 1) := by decide +kernel
theorem dX9_nearest_23 : decode cX9_nearest 23 = .ok (.getfield 35, 3) := by decide +kernel
theorem dX9_nearest_26 : decode cX9_nearest 26 = .ok (.iload_n 1, 1) := by decide +kernel
theorem dX9_nearest_27 : decode cX9_nearest 27 = .ok (.iload_n 2, 1) := by decide +kernel
theorem dX9_nearest_28 : decode cX9_nearest 28 = .ok (.invokevirtual 166, 3) := by decide +kernel
theorem dX9_nearest_31 : decode cX9_nearest 31 = .ok (.istore 4, 2) := by decide +kernel
theorem dX9_nearest_33 : decode cX9_nearest 33 = .ok (.iload_n 3, 1) := by decide +kernel
theorem dX9_nearest_34 : decode cX9_nearest 34 = .ok (.iconst (-1), 1) := by decide +kernel
theorem dX9_nearest_35 : decode cX9_nearest 35 = .ok (.if_icmp .eq 9, 3) := by decide +kernel
theorem dX9_nearest_38 : decode cX9_nearest 38 = .ok (.iload 4, 2) := by decide +kernel
theorem dX9_nearest_40 : decode cX9_nearest 40 = .ok (.iconst (-1), 1) := by decide +kernel
theorem dX9_nearest_41 : decode cX9_nearest 41 = .ok (.if_icmp .ne 15, 3) := by decide +kernel
theorem dX9_nearest_44 : decode cX9_nearest 44 = .ok (.iload_n 3, 1) := by decide +kernel
theorem dX9_nearest_45 : decode cX9_nearest 45 = .ok (.iconst (-1), 1) := by decide +kernel
theorem dX9_nearest_46 : decode cX9_nearest 46 = .ok (.if_icmp .ne 8, 3) := by decide +kernel
theorem dX9_nearest_49 : decode cX9_nearest 49 = .ok (.iload 4, 2) := by decide +kernel
theorem dX9_nearest_51 : decode cX9_nearest 51 = .ok (.goto 4, 3) := by decide +kernel
theorem dX9_nearest_54 : decode cX9_nearest 54 = .ok (.iload_n 3, 1) := by decide +kernel
theorem dX9_nearest_55 : decode cX9_nearest 55 = .ok (.ireturn, 1) := by decide +kernel
theorem dX9_nearest_56 : decode cX9_nearest 56 = .ok (.iload_n 2, 1) := by decide +kernel
theorem dX9_nearest_57 : decode cX9_nearest 57 = .ok (.iload_n 3, 1) := by decide +kernel
theorem dX9_nearest_58 : decode cX9_nearest 58 = .ok (.isub, 1) := by decide +kernel
theorem dX9_nearest_59 : decode cX9_nearest 59 = .ok (.iload 4, 2) := by decide +kernel
theorem dX9_nearest_61 : decode cX9_nearest 61 = .ok (.iload_n 2, 1) := by decide +kernel
theorem dX9_nearest_62 : decode cX9_nearest 62 = .ok (.isub, 1) := by decide +kernel
theorem dX9_nearest_63 : decode cX9_nearest 63 = .ok (.if_icmp .gt 7, 3) := by decide +kernel
theorem dX9_nearest_66 : decode cX9_nearest 66 = .ok (.iload_n 3, 1) := by decide +kernel
theorem dX9_nearest_67 : decode cX9_nearest 67 = .ok (.goto 5, 3) := by decide +kernel
theorem dX9_nearest_70 : decode cX9_nearest 70 = .ok (.iload 4, 2) := by decide +kernel
theorem dX9_nearest_72 : decode cX9_nearest 72 = .ok (.ireturn, 1) := by decide +kernel
def uX9_nearest : List Cond := .code yX9_nearest cX9_nearest 5 (some .int) :: ([.methodLink RX9 137 yX9_hasBoth, .instanceMethod yX9_hasBoth, .selects RX9 yX9_hasBoth yX9_hasBoth, .initialized RX9, .code yX9_hasBoth cX9_hasBoth 3 (some .boolean), .fieldLink RX9 35 "LuckyTicket" "current" "LLuckyTicket$Roll;", .methodLink RX9 149 yX2_hasLaw, .instanceMethod yX2_hasLaw, .selects RX2 yX2_hasLaw yX2_hasLaw, .initialized RX2, .code yX2_hasLaw cX2_hasLaw 2 (some .boolean), .fieldLink RX2 33 "LuckyTicket$Roll" "laws" "I", .methodLink RX9 100 yX2_hasTicket, .instanceMethod yX2_hasTicket, .selects RX2 yX2_hasTicket yX2_hasTicket, .code yX2_hasTicket cX2_hasTicket 2 (some .boolean), .fieldLink RX2 42 "LuckyTicket$Roll" "tickets" "I", .methodLink RX9 169 yX2_seekDown, .instanceMethod yX2_seekDown, .selects RX2 yX2_seekDown yX2_seekDown, .code yX2_seekDown cX2_seekDown 4 (some .int), .methodLink RX2 67 yX2_isLucky, .instanceMethod yX2_isLucky, .selects RX2 yX2_isLucky yX2_isLucky, .code yX2_isLucky cX2_isLucky 3 (some .boolean), .fieldLink RX2 15 "LuckyTicket$Roll" "luck" "[I", .methodLink RX9 166 yX2_seekUp, .instanceMethod yX2_seekUp, .selects RX2 yX2_seekUp yX2_seekUp, .code yX2_seekUp cX2_seekUp 4 (some .int)] ++ wsX90 ++ wsX20)
theorem iX9_nearest_X9 : ∀ w ∈ wsX90, w ∈ uX9_nearest := fun _ h => List.mem_cons_of_mem _ (List.mem_append_left _ (List.mem_append_right _ h))
theorem iX9_nearest_X2 : ∀ w ∈ wsX20, w ∈ uX9_nearest := fun _ h => List.mem_cons_of_mem _ (List.mem_append_right _ h)
set_option maxRecDepth 20000 in
theorem gX9_nearest__X9_hasBoth_V137 : GoodIn uX9_nearest (wsV RX9 137 RX9 yX9_hasBoth uX9_hasBoth) := goodIn_p _ [5, 11, 16] rfl (by decide +kernel)
set_option maxRecDepth 20000 in
theorem gX9_nearest__X2_seekDown_V169 : GoodIn uX9_nearest (wsV RX9 169 RX2 yX2_seekDown uX2_seekDown) := goodIn_p _ [21, 25] rfl (by decide +kernel)
set_option maxRecDepth 20000 in
theorem gX9_nearest__X2_seekUp_V166 : GoodIn uX9_nearest (wsV RX9 166 RX2 yX2_seekUp uX2_seekUp) := goodIn_p _ [30, 25] rfl (by decide +kernel)
set_option maxHeartbeats 4000000 in
set_option maxRecDepth 100000 in
theorem kX9_nearest (l : Launch) (dC : Nat → ClassId) (dI : Nat → Nat → Nat) (h0 : Nat) (tp : Nat) (sc : Nat) (rd : Nat) (cu : Nat) (im : Nat) (ig : Nat) (sl : Nat) (se : Nat) (sm : Nat) (fc : Nat) (ln : Int32) (bs : Int32) (tk : Int32) (lw : Int32) (li : Int32) (fa : Nat) (lu : Nat) (cL : ClassId) (nl : Nat) (fl : Nat → Int32) (a1 : Int32) (a2 : Int32) (b_ln : (0 : Int) ≤ ln.toInt ∧ ln.toInt ≤ 12) (b_bs : (0 : Int) ≤ bs.toInt ∧ bs.toInt ≤ 16) (b_tk : (0 : Int) ≤ tk.toInt ∧ tk.toInt ≤ 20000) (b_lw : (0 : Int) ≤ lw.toInt ∧ lw.toInt ≤ 9) (hl1 : tk.toInt ≤ (nl : Int)) : Met l yX9_nearest uX9_nearest ({ frames := 2, cells := 0, slots := 0, locals := 45 }) (va_Pc [.ref h0, .int a1, .int a2] (pw (dC, dI) vwCl [(h0, .inr (7, [.ref tp, .ref sc, .ref rd, .ref cu, .ref im, .ref ig, .ref sl, .ref se, .ref sm, .ref fc])), (cu, .inr (1, [.int ln, .int bs, .int tk, .int lw, .int li, .ref fa, .ref lu])), (lu, .inl (cL, nl, .inl fl))] [(cL, .int)])) (vp_Si (fun r => True)) 0 0 (fun _ => False) := by
  refine Met.ofW (cc := cX9_nearest) (maxL := 5) (ret := (some .int)) (by decide) rfl ?_
  intro p e s m args below meth c s₁ B hml hv
  obtain ⟨rfl, hP, hK, hN⟩ := hv
  have hx := B.exec
  have hb := B.bytes
  have hr := B.returns
  have hts := atoms_spec (ws := uX9_nearest) B.pre
  have hown : s.vm.findClass RX9 = some m.cls := findClass_of_methodNamed B.named
  have hlocks := B.notSynchronized
  have hl := lv_entry ([.ref h0, .int a1, .int a2]) (n := 5) (Nat.le_of_ble_eq_true rfl)
  rw [lg_entry_eq]
  generalize (lg_sl ([.ref h0, .int a1, .int a2]) ++ List.replicate (5 - (lg_sl ([.ref h0, .int a1, .int a2])).length) Slot.unset).toArray = ls at hl ⊢
  have hl : lv_has ls 5 [(0, .ref h0), (1, .int a1), (2, .int a2)] := hl
  refine lv_aload_n hx hb dX9_nearest_0 rfl (lv_at hl 0 rfl) ?_
  refine lv_iload_n hx hb dX9_nearest_1 rfl (lv_at hl 1 rfl) ?_
  refine lv_iload_n hx hb dX9_nearest_2 rfl (lv_at hl 2 rfl) ?_
  refine vp_callSi (W.runV (As := [.int a1, .int a2]) (rest := []) ⟨hx, hb, hml, hown, hts⟩ (kX9_hasBoth l dC dI h0 tp sc rd cu im ig sl se sm fc ln bs tk lw li fa lu a1 a2 b_ln b_bs b_tk b_lw) (cwV 2 hts gX9_nearest__X9_hasBoth_V137 rfl rfl rfl (by decide +kernel) ⟨lel 2 2 rfl, lel 43 45 rfl⟩) ⟨pw_fb, va_recv hK hP (ci := 7) (q0 := 0) rfl rfl, (pw_use hP hK hN [0, 1] rfl [] rfl)⟩ rfl rfl hl.1 rfl (lv_room (Nat.le_of_ble_eq_true rfl)) dX9_nearest_3 ⟨lel 0 0 rfl, lel 0 0 rfl⟩) (fun r_13 h_r_13 => ?_)
  obtain ⟨b_r_13, nz_r_13⟩ := h_r_13
  have b_r_13 : (0 : Int) ≤ r_13.toInt ∧ r_13.toInt ≤ 1 := b_r_13
  refine lv_if_ne (tgt := 12) hx hb dX9_nearest_6 (by decide) (fun c_14 => ?_) (fun c_14 => ?_)
  ·
    have n_c_14 : (r_13.toInt : Int) ≠ 0 := c_ne rfl (by decide) c_14
    have b_r_13 : (1 : Int) ≤ r_13.toInt ∧ r_13.toInt ≤ 1 := r_ne1 b_r_13 (by decide : (0 : Int) ≤ (0 : Int32).toInt ∧ (0 : Int32).toInt ≤ 0) n_c_14 (by decide)
    obtain ⟨b_a1, b_a2, g_15⟩ := nz_r_13 c_14
    refine lv_aload_n hx hb dX9_nearest_12 rfl (lv_at hl 0 rfl) ?_
    refine va_get (D := (dC, dI)) (ci := 7) (v := .ref cu) (C := RX9) (T := TX9) (N := 10) hx hb hts iX9_nearest_X9 hown hK hP 0 rfl rfl 3 (by decide) (hts (.fieldLink RX9 35 "LuckyTicket" "current" "LLuckyTicket$Roll;") (List.mem_of_getElem? (i := 6) rfl)) (fun _ h9 => h9) rfl dX9_nearest_13 ?_
    refine lv_iload_n hx hb dX9_nearest_16 rfl (lv_at hl 1 rfl) ?_
    refine lv_iload_n hx hb dX9_nearest_17 rfl (lv_at hl 2 rfl) ?_
    refine vp_callSi (W.runV (As := [.int a1, .int a2]) (rest := []) ⟨hx, hb, hml, hown, hts⟩ (kX2_seekDown l dC dI cu ln bs tk lw li fa lu cL nl fl a1 a2 b_ln b_bs b_tk b_lw (by omega)) (cwV 2 hts gX9_nearest__X2_seekDown_V169 rfl rfl rfl (by decide +kernel) ⟨lel 2 2 rfl, lel 45 45 rfl⟩) ⟨pw_fb, va_recv hK hP (ci := 1) (q0 := 1) rfl rfl, (pw_use hP hK hN [1, 2] rfl [0] rfl)⟩ rfl rfl hl.1 rfl (lv_room (Nat.le_of_ble_eq_true rfl)) dX9_nearest_18 ⟨lel 0 0 rfl, lel 0 0 rfl⟩) (fun r_16 h_r_16 => ?_)
    have b_r_16 := h_r_16
    have b_r_16 : (-1 : Int) ≤ r_16.toInt ∧ r_16.toInt ≤ 2147483647 := b_r_16
    refine lv_istore_n (lv' := [(3, .int r_16), (0, .ref h0), (1, .int a1), (2, .int a2)]) hx hb dX9_nearest_21 rfl hl (by decide) rfl (fun ls hl => ?_)
    refine lv_aload_n hx hb dX9_nearest_22 rfl (lv_at hl 1 rfl) ?_
    refine va_get (D := (dC, dI)) (ci := 7) (v := .ref cu) (C := RX9) (T := TX9) (N := 10) hx hb hts iX9_nearest_X9 hown hK hP 0 rfl rfl 3 (by decide) (hts (.fieldLink RX9 35 "LuckyTicket" "current" "LLuckyTicket$Roll;") (List.mem_of_getElem? (i := 6) rfl)) (fun _ h9 => h9) rfl dX9_nearest_23 ?_
    refine lv_iload_n hx hb dX9_nearest_26 rfl (lv_at hl 2 rfl) ?_
    refine lv_iload_n hx hb dX9_nearest_27 rfl (lv_at hl 3 rfl) ?_
    refine vp_callSi (W.runV (As := [.int a1, .int a2]) (rest := []) ⟨hx, hb, hml, hown, hts⟩ (kX2_seekUp l dC dI cu ln bs tk lw li fa lu cL nl fl a1 a2 b_ln b_bs b_tk b_lw (by omega)) (cwV 2 hts gX9_nearest__X2_seekUp_V166 rfl rfl rfl (by decide +kernel) ⟨lel 2 2 rfl, lel 45 45 rfl⟩) ⟨pw_fb, va_recv hK hP (ci := 1) (q0 := 1) rfl rfl, (pw_use hP hK hN [1, 2] rfl [0] rfl)⟩ rfl rfl hl.1 rfl (lv_room (Nat.le_of_ble_eq_true rfl)) dX9_nearest_28 ⟨lel 0 0 rfl, lel 0 0 rfl⟩) (fun r_17 h_r_17 => ?_)
    have b_r_17 := h_r_17
    have b_r_17 : (-2147483648 : Int) ≤ r_17.toInt ∧ r_17.toInt ≤ 19999 := b_r_17
    refine lv_istore (lv' := [(4, .int r_17), (3, .int r_16), (0, .ref h0), (1, .int a1), (2, .int a2)]) hx hb dX9_nearest_31 hl (by decide) rfl (fun ls hl => ?_)
    refine lv_iload_n hx hb dX9_nearest_33 rfl (lv_at hl 1 rfl) ?_
    refine lv_iconst (v := (-1)) hx hb dX9_nearest_34 (by decide) ?_
    refine lv_icmp_eq (tgt := 44) hx hb dX9_nearest_35 (by decide) (fun c_18 => ?_) (fun c_18 => ?_)
    ·
      have n_c_18 : (r_16.toInt : Int) = (-1) := c_eq rfl (by decide) c_18
      have b_r_16 : (-1 : Int) ≤ r_16.toInt ∧ r_16.toInt ≤ -1 := r_eq1 b_r_16 (by decide : (-1 : Int) ≤ ((-1) : Int32).toInt ∧ ((-1) : Int32).toInt ≤ -1) n_c_18 (by decide)
      refine lv_iload_n hx hb dX9_nearest_44 rfl (lv_at hl 1 rfl) ?_
      refine lv_iconst (v := (-1)) hx hb dX9_nearest_45 (by decide) ?_
      refine lv_icmp_ne (tgt := 54) hx hb dX9_nearest_46 (by decide) (fun c_19 => absurd (show (r_16.toInt : Int) ≠ (-1) from c_ne rfl (by decide) c_19) (by have q1 := b_r_16; have q2 := (by decide : (-1 : Int) ≤ ((-1) : Int32).toInt ∧ ((-1) : Int32).toInt ≤ -1); omega)) (fun c_19 => ?_)
      refine lv_iload hx hb dX9_nearest_49 (lv_at hl 0 rfl) ?_
      refine lv_goto (tgt := 55) hx hb dX9_nearest_51 (by decide) ?_
      exact W.iret (v := r_17) hx hb hr (fun t ht hW => ⟨r_17, rfl, trivial, ht⟩) t_nil dX9_nearest_55
    ·
      have n_c_18 : (r_16.toInt : Int) ≠ (-1) := c_ne rfl (by decide) c_18
      have b_r_16 : (0 : Int) ≤ r_16.toInt ∧ r_16.toInt ≤ 2147483647 := r_ne1 b_r_16 (by decide : (-1 : Int) ≤ ((-1) : Int32).toInt ∧ ((-1) : Int32).toInt ≤ -1) n_c_18 (by decide)
      refine lv_iload hx hb dX9_nearest_38 (lv_at hl 0 rfl) ?_
      refine lv_iconst (v := (-1)) hx hb dX9_nearest_40 (by decide) ?_
      refine lv_icmp_ne (tgt := 56) hx hb dX9_nearest_41 (by decide) (fun c_20 => ?_) (fun c_20 => ?_)
      ·
        have n_c_20 : (r_17.toInt : Int) ≠ (-1) := c_ne rfl (by decide) c_20
        refine lv_iload_n hx hb dX9_nearest_56 rfl (lv_at hl 4 rfl) ?_
        refine lv_iload_n hx hb dX9_nearest_57 rfl (lv_at hl 1 rfl) ?_
        refine lv_isub hx hb dX9_nearest_58 ?_
        refine lv_topi (fun z_21 e_z_21 => ?_)
        obtain ⟨q_z_21, b_z_21⟩ := ti_sub (lo := -2147483647) (hi := 19999) e_z_21 rfl rfl b_a2 b_r_16 (by decide)
        refine lv_iload hx hb dX9_nearest_59 (lv_at hl 0 rfl) ?_
        refine lv_iload_n hx hb dX9_nearest_61 rfl (lv_at hl 4 rfl) ?_
        refine lv_isub hx hb dX9_nearest_62 ?_
        refine lv_topi (fun z_22 e_z_22 => ?_)
        refine lv_icmp_gt (tgt := 70) hx hb dX9_nearest_63 (by decide) (fun c_23 => ?_) (fun c_23 => ?_)
        ·
          have n_c_23 : (z_22.toInt : Int) < z_21.toInt := c_gt rfl rfl c_23
          have b_z_22 : (-2147483648 : Int) ≤ z_22.toInt ∧ z_22.toInt ≤ 19998 := r_lt1 (ti_rng z_22) b_z_21 n_c_23 (by decide)
          refine lv_iload hx hb dX9_nearest_70 (lv_at hl 0 rfl) ?_
          exact W.iret (v := r_17) hx hb hr (fun t ht hW => ⟨r_17, rfl, trivial, ht⟩) t_nil dX9_nearest_72
        ·
          have n_c_23 : (z_21.toInt : Int) ≤ z_22.toInt := c_ngt rfl rfl c_23
          have b_z_22 : (-2147483647 : Int) ≤ z_22.toInt ∧ z_22.toInt ≤ 2147483647 := r_le2 b_z_21 (ti_rng z_22) n_c_23 (by decide)
          refine lv_iload_n hx hb dX9_nearest_66 rfl (lv_at hl 1 rfl) ?_
          refine lv_goto (tgt := 72) hx hb dX9_nearest_67 (by decide) ?_
          exact W.iret (v := r_16) hx hb hr (fun t ht hW => ⟨r_16, rfl, trivial, ht⟩) t_nil dX9_nearest_72
      ·
        have n_c_20 : (r_17.toInt : Int) = (-1) := c_eq rfl (by decide) c_20
        have b_r_17 : (-1 : Int) ≤ r_17.toInt ∧ r_17.toInt ≤ -1 := r_eq1 b_r_17 (by decide : (-1 : Int) ≤ ((-1) : Int32).toInt ∧ ((-1) : Int32).toInt ≤ -1) n_c_20 (by decide)
        refine lv_iload_n hx hb dX9_nearest_44 rfl (lv_at hl 1 rfl) ?_
        refine lv_iconst (v := (-1)) hx hb dX9_nearest_45 (by decide) ?_
        refine lv_icmp_ne (tgt := 54) hx hb dX9_nearest_46 (by decide) (fun c_24 => ?_) (fun c_24 => absurd (show (r_16.toInt : Int) = (-1) from c_eq rfl (by decide) c_24) (by have q1 := b_r_16; have q2 := (by decide : (-1 : Int) ≤ ((-1) : Int32).toInt ∧ ((-1) : Int32).toInt ≤ -1); omega))
        refine lv_iload_n hx hb dX9_nearest_54 rfl (lv_at hl 1 rfl) ?_
        exact W.iret (v := r_16) hx hb hr (fun t ht hW => ⟨r_16, rfl, trivial, ht⟩) t_nil dX9_nearest_55
  ·
    have n_c_14 : (r_13.toInt : Int) = 0 := c_eq rfl (by decide) c_14
    have b_r_13 : (0 : Int) ≤ r_13.toInt ∧ r_13.toInt ≤ 0 := r_eq1 b_r_13 (by decide : (0 : Int) ≤ (0 : Int32).toInt ∧ (0 : Int32).toInt ≤ 0) n_c_14 (by decide)
    refine lv_bipush (v := (-2)) hx hb dX9_nearest_9 (by decide) ?_
    exact W.iret (v := (-2)) hx hb hr (fun t ht hW => ⟨(-2), rfl, trivial, ht⟩) t_nil dX9_nearest_11
theorem dX9_about_0 : decode cX9_about 0 = .ok (.aload_n 0, 1) := by decide +kernel
theorem dX9_about_1 : decode cX9_about 1 = .ok (.getfield 35, 3) := by decide +kernel
theorem dX9_about_4 : decode cX9_about 4 = .ok (.iload_n 1, 1) := by decide +kernel
theorem dX9_about_5 : decode cX9_about 5 = .ok (.invokevirtual 100, 3) := by decide +kernel
theorem dX9_about_8 : decode cX9_about 8 = .ok (.ifCond .ne 6, 3) := by decide +kernel
theorem dX9_about_11 : decode cX9_about 11 = .ok (.bipush (-2), 2) := by decide +kernel
theorem dX9_about_13 : decode cX9_about 13 = .ok (.ireturn, 1) := by decide +kernel
theorem dX9_about_14 : decode cX9_about 14 = .ok (.aload_n 0, 1) := by decide +kernel
theorem dX9_about_15 : decode cX9_about 15 = .ok (.getfield 35, 3) := by decide +kernel
theorem dX9_about_18 : decode cX9_about 18 = .ok (.getfield 220, 3) := by decide +kernel
theorem dX9_about_21 : decode cX9_about 21 = .ok (.aload_n 0, 1) := by decide +kernel
theorem dX9_about_22 : decode cX9_about 22 = .ok (.getfield 35, 3) := by decide +kernel
theorem dX9_about_25 : decode cX9_about 25 = .ok (.getfield 110, 3) := by decide +kernel
theorem dX9_about_28 : decode cX9_about 28 = .ok (.iconst 2, 1) := by decide +kernel
theorem dX9_about_29 : decode cX9_about 29 = .ok (.idiv, 1) := by decide +kernel
theorem dX9_about_30 : decode cX9_about 30 = .ok (.invokestatic 226, 3) := by decide +kernel
theorem dX9_about_33 : decode cX9_about 33 = .ok (.istore_n 2, 1) := by decide +kernel
theorem dX9_about_34 : decode cX9_about 34 = .ok (.iload_n 2, 1) := by decide +kernel
theorem dX9_about_35 : decode cX9_about 35 = .ok (.iconst 1, 1) := by decide +kernel
theorem dX9_about_36 : decode cX9_about 36 = .ok (.if_icmp .ge 6, 3) := by decide +kernel
theorem dX9_about_39 : decode cX9_about 39 = .ok (.bipush (-2), 2) := by decide +kernel
theorem dX9_about_41 : decode cX9_about 41 = .ok (.ireturn, 1) := by decide +kernel
theorem dX9_about_42 : decode cX9_about 42 = .ok (.iload_n 1, 1) := by decide +kernel
theorem dX9_about_43 : decode cX9_about 43 = .ok (.iload_n 2, 1) := by decide +kernel
theorem dX9_about_44 : decode cX9_about 44 = .ok (.irem, 1) := by decide +kernel
theorem dX9_about_45 : decode cX9_about 45 = .ok (.istore_n 3, 1) := by decide +kernel
theorem dX9_about_46 : decode cX9_about 46 = .ok (.iload_n 1, 1) := by decide +kernel
theorem dX9_about_47 : decode cX9_about 47 = .ok (.iload_n 3, 1) := by decide +kernel
theorem dX9_about_48 : decode cX9_about 48 = .ok (.isub, 1) := by decide +kernel
theorem dX9_about_49 : decode cX9_about 49 = .ok (.iload_n 2, 1) := by decide +kernel
theorem dX9_about_50 : decode cX9_about 50 = .ok (.iconst 1, 1) := by decide +kernel
theorem dX9_about_51 : decode cX9_about 51 = .ok (.isub, 1) := by decide +kernel
theorem dX9_about_52 : decode cX9_about 52 = .ok (.iload_n 3, 1) := by decide +kernel
theorem dX9_about_53 : decode cX9_about 53 = .ok (.isub, 1) := by decide +kernel
theorem dX9_about_54 : decode cX9_about 54 = .ok (.iadd, 1) := by decide +kernel
theorem dX9_about_55 : decode cX9_about 55 = .ok (.ireturn, 1) := by decide +kernel
def uX9_about : List Cond := .code yX9_about cX9_about 4 (some .int) :: ([.fieldLink RX9 35 "LuckyTicket" "current" "LLuckyTicket$Roll;", .methodLink RX9 100 yX2_hasTicket, .instanceMethod yX2_hasTicket, .selects RX2 yX2_hasTicket yX2_hasTicket, .initialized RX2, .code yX2_hasTicket cX2_hasTicket 2 (some .boolean), .fieldLink RX2 42 "LuckyTicket$Roll" "tickets" "I", .methodLink RX9 226 yX9_power, .static yX9_power, .initialized RX9, .code yX9_power cX9_power 4 (some .int)] ++ wsX90 ++ wsX20)
theorem iX9_about_X9 : ∀ w ∈ wsX90, w ∈ uX9_about := fun _ h => List.mem_cons_of_mem _ (List.mem_append_left _ (List.mem_append_right _ h))
theorem iX9_about_X2 : ∀ w ∈ wsX20, w ∈ uX9_about := fun _ h => List.mem_cons_of_mem _ (List.mem_append_right _ h)
set_option maxRecDepth 20000 in
theorem gX9_about__X2_hasTicket_V100 : GoodIn uX9_about (wsV RX9 100 RX2 yX2_hasTicket uX2_hasTicket) := goodIn_p _ [6] rfl (by decide +kernel)
set_option maxRecDepth 20000 in
theorem gX9_about__X9_power_S226 : GoodIn uX9_about (va_wsS RX9 226 yX9_power uX9_power) := goodIn_p _ [11] rfl (by decide +kernel)
set_option maxHeartbeats 4000000 in
set_option maxRecDepth 100000 in
theorem kX9_about (l : Launch) (dC : Nat → ClassId) (dI : Nat → Nat → Nat) (h0 : Nat) (tp : Nat) (sc : Nat) (rd : Nat) (cu : Nat) (im : Nat) (ig : Nat) (sl : Nat) (se : Nat) (sm : Nat) (fc : Nat) (ln : Int32) (bs : Int32) (tk : Int32) (lw : Int32) (li : Int32) (fa : Nat) (lu : Nat) (a1 : Int32) (b_ln : (0 : Int) ≤ ln.toInt ∧ ln.toInt ≤ 12) (b_bs : (0 : Int) ≤ bs.toInt ∧ bs.toInt ≤ 16) (b_tk : (0 : Int) ≤ tk.toInt ∧ tk.toInt ≤ 20000) (b_lw : (0 : Int) ≤ lw.toInt ∧ lw.toInt ≤ 9) : Met l yX9_about uX9_about ({ frames := 1, cells := 0, slots := 0, locals := 23 }) (va_Pc [.ref h0, .int a1] (pw (dC, dI) vwCl [(h0, .inr (7, [.ref tp, .ref sc, .ref rd, .ref cu, .ref im, .ref ig, .ref sl, .ref se, .ref sm, .ref fc])), (cu, .inr (1, [.int ln, .int bs, .int tk, .int lw, .int li, .ref fa, .ref lu]))] [])) (vp_Si (fun r => True)) 0 0 (fun _ => False) := by
  refine Met.ofW (cc := cX9_about) (maxL := 4) (ret := (some .int)) (by decide) rfl ?_
  intro p e s m args below meth c s₁ B hml hv
  obtain ⟨rfl, hP, hK, hN⟩ := hv
  have hx := B.exec
  have hb := B.bytes
  have hr := B.returns
  have hts := atoms_spec (ws := uX9_about) B.pre
  have hown : s.vm.findClass RX9 = some m.cls := findClass_of_methodNamed B.named
  have hlocks := B.notSynchronized
  have hl := lv_entry ([.ref h0, .int a1]) (n := 4) (Nat.le_of_ble_eq_true rfl)
  rw [lg_entry_eq]
  generalize (lg_sl ([.ref h0, .int a1]) ++ List.replicate (4 - (lg_sl ([.ref h0, .int a1])).length) Slot.unset).toArray = ls at hl ⊢
  have hl : lv_has ls 4 [(0, .ref h0), (1, .int a1)] := hl
  refine lv_aload_n hx hb dX9_about_0 rfl (lv_at hl 0 rfl) ?_
  refine va_get (D := (dC, dI)) (ci := 7) (v := .ref cu) (C := RX9) (T := TX9) (N := 10) hx hb hts iX9_about_X9 hown hK hP 0 rfl rfl 3 (by decide) (hts (.fieldLink RX9 35 "LuckyTicket" "current" "LLuckyTicket$Roll;") (List.mem_of_getElem? (i := 1) rfl)) (fun _ h9 => h9) rfl dX9_about_1 ?_
  refine lv_iload_n hx hb dX9_about_4 rfl (lv_at hl 1 rfl) ?_
  refine vp_callSi (W.runV (As := [.int a1]) (rest := []) ⟨hx, hb, hml, hown, hts⟩ (kX2_hasTicket l dC dI cu ln bs tk lw li fa lu a1 b_ln b_bs b_tk b_lw) (cwV 1 hts gX9_about__X2_hasTicket_V100 rfl rfl rfl (by decide +kernel) ⟨lel 1 1 rfl, lel 21 23 rfl⟩) ⟨pw_fb, va_recv hK hP (ci := 1) (q0 := 1) rfl rfl, (pw_use hP hK hN [1] rfl [] rfl)⟩ rfl rfl hl.1 rfl (lv_room (Nat.le_of_ble_eq_true rfl)) dX9_about_5 ⟨lel 0 0 rfl, lel 0 0 rfl⟩) (fun r_12 h_r_12 => ?_)
  obtain ⟨b_r_12, nz_r_12⟩ := h_r_12
  have b_r_12 : (0 : Int) ≤ r_12.toInt ∧ r_12.toInt ≤ 1 := b_r_12
  refine lv_if_ne (tgt := 14) hx hb dX9_about_8 (by decide) (fun c_13 => ?_) (fun c_13 => ?_)
  ·
    have n_c_13 : (r_12.toInt : Int) ≠ 0 := c_ne rfl (by decide) c_13
    have b_r_12 : (1 : Int) ≤ r_12.toInt ∧ r_12.toInt ≤ 1 := r_ne1 b_r_12 (by decide : (0 : Int) ≤ (0 : Int32).toInt ∧ (0 : Int32).toInt ≤ 0) n_c_13 (by decide)
    obtain ⟨b_a1, g_14⟩ := nz_r_12 c_13
    refine lv_aload_n hx hb dX9_about_14 rfl (lv_at hl 0 rfl) ?_
    refine va_get (D := (dC, dI)) (ci := 7) (v := .ref cu) (C := RX9) (T := TX9) (N := 10) hx hb hts iX9_about_X9 hown hK hP 0 rfl rfl 3 (by decide) (hts (.fieldLink RX9 35 "LuckyTicket" "current" "LLuckyTicket$Roll;") (List.mem_of_getElem? (i := 1) rfl)) (fun _ h9 => h9) rfl dX9_about_15 ?_
    refine va_getN (own := RX9) (index := 220) (ref := RX2) (host := RX9) (D := (dC, dI)) (ci := 1) (v := .int bs) (C := RX2) (T := TX2) (N := 7) hx hb hts iX9_about_X2 hown hK hP 1 rfl rfl 1 (by decide) (va_Nw.use rfl (hN _ (List.mem_of_getElem? (i := 16) rfl))) (fun _ h9 => h9) rfl dX9_about_18 ?_
    refine lv_aload_n hx hb dX9_about_21 rfl (lv_at hl 0 rfl) ?_
    refine va_get (D := (dC, dI)) (ci := 7) (v := .ref cu) (C := RX9) (T := TX9) (N := 10) hx hb hts iX9_about_X9 hown hK hP 0 rfl rfl 3 (by decide) (hts (.fieldLink RX9 35 "LuckyTicket" "current" "LLuckyTicket$Roll;") (List.mem_of_getElem? (i := 1) rfl)) (fun _ h9 => h9) rfl dX9_about_22 ?_
    refine va_getN (own := RX9) (index := 110) (ref := RX2) (host := RX9) (D := (dC, dI)) (ci := 1) (v := .int ln) (C := RX2) (T := TX2) (N := 7) hx hb hts iX9_about_X2 hown hK hP 1 rfl rfl 0 (by decide) (va_Nw.use rfl (hN _ (List.mem_of_getElem? (i := 14) rfl))) (fun _ h9 => h9) rfl dX9_about_25 ?_
    refine lv_iconst (v := 2) hx hb dX9_about_28 (by decide) ?_
    refine lv_idiv hx hb dX9_about_29 (by decide) ?_
    refine lv_topi (fun z_15 e_z_15 => ?_)
    obtain ⟨q_z_15, b_z_15⟩ := ti_div (hi := 6) e_z_15 rfl (by decide : (2 : Int32).toInt = 2) b_ln (by decide : (2 : Int) ≤ (2 : Int32).toInt ∧ (2 : Int32).toInt ≤ 2) (by decide)
    refine vp_callSi (W.runS (As := [.int bs, .int z_15]) (rest := []) ⟨hx, hb, hml, hown, hts⟩ (kX9_power l dC dI bs z_15 ) (va_cwS 2 hts gX9_about__X9_power_S226 rfl rfl rfl (by decide +kernel) ⟨lel 1 1 rfl, lel 23 23 rfl⟩) ⟨pn_fb, pn_use⟩ rfl rfl hl.1 rfl (lv_room (Nat.le_of_ble_eq_true rfl)) dX9_about_30 ⟨lel 0 0 rfl, lel 0 0 rfl⟩) (fun r_16 h_r_16 => ?_)
    refine lv_istore_n (lv' := [(2, .int r_16), (0, .ref h0), (1, .int a1)]) hx hb dX9_about_33 rfl hl (by decide) rfl (fun ls hl => ?_)
    refine lv_iload_n hx hb dX9_about_34 rfl (lv_at hl 0 rfl) ?_
    refine lv_iconst (v := 1) hx hb dX9_about_35 (by decide) ?_
    refine lv_icmp_ge (tgt := 42) hx hb dX9_about_36 (by decide) (fun c_17 => ?_) (fun c_17 => ?_)
    ·
      have n_c_17 : (1 : Int) ≤ r_16.toInt := c_ge rfl (by decide) c_17
      have b_r_16 : (1 : Int) ≤ r_16.toInt ∧ r_16.toInt ≤ 2147483647 := r_le2 (by decide : (1 : Int) ≤ (1 : Int32).toInt ∧ (1 : Int32).toInt ≤ 1) (ti_rng r_16) n_c_17 (by decide)
      refine lv_iload_n hx hb dX9_about_42 rfl (lv_at hl 2 rfl) ?_
      refine lv_iload_n hx hb dX9_about_43 rfl (lv_at hl 0 rfl) ?_
      refine lv_irem hx hb dX9_about_44 (ti_ne b_r_16 (by decide)) ?_
      refine lv_topi (fun z_18 e_z_18 => ?_)
      obtain ⟨q_z_18, b_z_18⟩ := ti_rem (hi := 19999) e_z_18 rfl rfl b_a1 b_r_16 (by decide)
      refine lv_istore_n (lv' := [(3, .int z_18), (2, .int r_16), (0, .ref h0), (1, .int a1)]) hx hb dX9_about_45 rfl hl (by decide) rfl (fun ls hl => ?_)
      refine lv_iload_n hx hb dX9_about_46 rfl (lv_at hl 3 rfl) ?_
      refine lv_iload_n hx hb dX9_about_47 rfl (lv_at hl 0 rfl) ?_
      refine lv_isub hx hb dX9_about_48 ?_
      refine lv_topi (fun z_19 e_z_19 => ?_)
      obtain ⟨q_z_19, b_z_19⟩ := ti_sub (lo := -19999) (hi := 19999) e_z_19 rfl rfl b_a1 b_z_18 (by decide)
      refine lv_iload_n hx hb dX9_about_49 rfl (lv_at hl 1 rfl) ?_
      refine lv_iconst (v := 1) hx hb dX9_about_50 (by decide) ?_
      refine lv_isub hx hb dX9_about_51 ?_
      refine lv_topi (fun z_20 e_z_20 => ?_)
      obtain ⟨q_z_20, b_z_20⟩ := ti_sub (lo := 0) (hi := 2147483646) e_z_20 rfl (by decide : (1 : Int32).toInt = 1) b_r_16 (by decide : (1 : Int) ≤ (1 : Int32).toInt ∧ (1 : Int32).toInt ≤ 1) (by decide)
      refine lv_iload_n hx hb dX9_about_52 rfl (lv_at hl 0 rfl) ?_
      refine lv_isub hx hb dX9_about_53 ?_
      refine lv_topi (fun z_21 e_z_21 => ?_)
      obtain ⟨q_z_21, b_z_21⟩ := ti_sub (lo := -19999) (hi := 2147483646) e_z_21 rfl rfl b_z_20 b_z_18 (by decide)
      refine lv_iadd hx hb dX9_about_54 ?_
      refine lv_topi (fun z_22 e_z_22 => ?_)
      exact W.iret (v := z_22) hx hb hr (fun t ht hW => ⟨z_22, rfl, trivial, ht⟩) t_nil dX9_about_55
    ·
      have n_c_17 : (r_16.toInt : Int) < 1 := c_nge rfl (by decide) c_17
      have b_r_16 : (-2147483648 : Int) ≤ r_16.toInt ∧ r_16.toInt ≤ 0 := r_lt1 (ti_rng r_16) (by decide : (1 : Int) ≤ (1 : Int32).toInt ∧ (1 : Int32).toInt ≤ 1) n_c_17 (by decide)
      refine lv_bipush (v := (-2)) hx hb dX9_about_39 (by decide) ?_
      exact W.iret (v := (-2)) hx hb hr (fun t ht hW => ⟨(-2), rfl, trivial, ht⟩) t_nil dX9_about_41
  ·
    have n_c_13 : (r_12.toInt : Int) = 0 := c_eq rfl (by decide) c_13
    have b_r_12 : (0 : Int) ≤ r_12.toInt ∧ r_12.toInt ≤ 0 := r_eq1 b_r_12 (by decide : (0 : Int) ≤ (0 : Int32).toInt ∧ (0 : Int32).toInt ≤ 0) n_c_13 (by decide)
    refine lv_bipush (v := (-2)) hx hb dX9_about_11 (by decide) ?_
    exact W.iret (v := (-2)) hx hb hr (fun t ht hW => ⟨(-2), rfl, trivial, ht⟩) t_nil dX9_about_13
theorem dX9_draw_0 : decode cX9_draw 0 = .ok (.aload_n 0, 1) := by decide +kernel
theorem dX9_draw_1 : decode cX9_draw 1 = .ok (.getfield 35, 3) := by decide +kernel
theorem dX9_draw_4 : decode cX9_draw 4 = .ok (.iload_n 1, 1) := by decide +kernel
theorem dX9_draw_5 : decode cX9_draw 5 = .ok (.invokevirtual 149, 3) := by decide +kernel
theorem dX9_draw_8 : decode cX9_draw 8 = .ok (.ifCond .eq 14, 3) := by decide +kernel
theorem dX9_draw_11 : decode cX9_draw 11 = .ok (.iload_n 2, 1) := by decide +kernel
theorem dX9_draw_12 : decode cX9_draw 12 = .ok (.iconst 0, 1) := by decide +kernel
theorem dX9_draw_13 : decode cX9_draw 13 = .ok (.ldc_w 257, 3) := by decide +kernel
theorem dX9_draw_16 : decode cX9_draw 16 = .ok (.invokestatic 158, 3) := by decide +kernel
theorem dX9_draw_19 : decode cX9_draw 19 = .ok (.ifCond .ne 6, 3) := by decide +kernel
theorem dX9_draw_22 : decode cX9_draw 22 = .ok (.bipush (-2), 2) := by decide +kernel
theorem dX9_draw_24 : decode cX9_draw 24 = .ok (.ireturn, 1) := by decide +kernel
theorem dX9_draw_25 : decode cX9_draw 25 = .ok (.aload_n 0, 1) := by decide +kernel
theorem dX9_draw_26 : decode cX9_draw 26 = .ok (.getfield 35, 3) := by decide +kernel
theorem dX9_draw_29 : decode cX9_draw 29 = .ok (.iload_n 1, 1) := by decide +kernel
theorem dX9_draw_30 : decode cX9_draw 30 = .ok (.invokevirtual 152, 3) := by decide +kernel
theorem dX9_draw_33 : decode cX9_draw 33 = .ok (.istore_n 3, 1) := by decide +kernel
theorem dX9_draw_34 : decode cX9_draw 34 = .ok (.iload_n 3, 1) := by decide +kernel
theorem dX9_draw_35 : decode cX9_draw 35 = .ok (.ifCond .ne 7, 3) := by decide +kernel
theorem dX9_draw_38 : decode cX9_draw 38 = .ok (.iconst (-1), 1) := by decide +kernel
theorem dX9_draw_39 : decode cX9_draw 39 = .ok (.goto 20, 3) := by decide +kernel
theorem dX9_draw_42 : decode cX9_draw 42 = .ok (.aload_n 0, 1) := by decide +kernel
theorem dX9_draw_43 : decode cX9_draw 43 = .ok (.getfield 35, 3) := by decide +kernel
theorem dX9_draw_46 : decode cX9_draw 46 = .ok (.iload_n 1, 1) := by decide +kernel
theorem dX9_draw_47 : decode cX9_draw 47 = .ok (.iload_n 2, 1) := by decide +kernel
theorem dX9_draw_48 : decode cX9_draw 48 = .ok (.i2l, 1) := by decide +kernel
theorem dX9_draw_49 : decode cX9_draw 49 = .ok (.invokestatic 258, 3) := by decide +kernel
theorem dX9_draw_52 : decode cX9_draw 52 = .ok (.iload_n 3, 1) := by decide +kernel
theorem dX9_draw_53 : decode cX9_draw 53 = .ok (.invokestatic 262, 3) := by decide +kernel
theorem dX9_draw_56 : decode cX9_draw 56 = .ok (.invokevirtual 172, 3) := by decide +kernel
theorem dX9_draw_59 : decode cX9_draw 59 = .ok (.ireturn, 1) := by decide +kernel
def uX9_draw : List Cond := .code yX9_draw cX9_draw 4 (some .int) :: ([.fieldLink RX9 35 "LuckyTicket" "current" "LLuckyTicket$Roll;", .methodLink RX9 149 yX2_hasLaw, .instanceMethod yX2_hasLaw, .selects RX2 yX2_hasLaw yX2_hasLaw, .initialized RX2, .code yX2_hasLaw cX2_hasLaw 2 (some .boolean), .fieldLink RX2 33 "LuckyTicket$Roll" "laws" "I", .constant RX9 257 (2000000000), .methodLink RX9 158 yX9_isWithin, .static yX9_isWithin, .initialized RX9, .code yX9_isWithin cX9_isWithin 3 (some .boolean), .methodLink RX9 152 yX2_total, .instanceMethod yX2_total, .selects RX2 yX2_total yX2_total, .code yX2_total cX2_total 2 (some .int), .fieldLink RX2 42 "LuckyTicket$Roll" "tickets" "I", .methodLink RX2 71 yX2_tally, .instanceMethod yX2_tally, .selects RX2 yX2_tally yX2_tally, .code yX2_tally cX2_tally 7 (some .int), .methodLink RX2 78 yJ9_min_7cf53, .static yJ9_min_7cf53, .initialized RJ9, .code yJ9_min_7cf53 cJ9_min_7cf53 2 (some .int), .methodLink RX2 83 yJ9_max_7cf53, .static yJ9_max_7cf53, .code yJ9_max_7cf53 cJ9_max_7cf53 2 (some .int), .fieldLink RX2 15 "LuckyTicket$Roll" "luck" "[I", .methodLink RX9 258 yX9_stirred, .static yX9_stirred, .code yX9_stirred cX9_stirred 2 (some .long), .constantLong RX9 362 (1103515245), .constantLong RX9 364 (12345), .constantLong RX9 366 (2147483647), .methodLink RX9 262 yX9_drawOf, .static yX9_drawOf, .code yX9_drawOf cX9_drawOf 3 (some .int), .constantLong RX9 368 (65536), .methodLink RX9 172 yX2_pick, .instanceMethod yX2_pick, .selects RX2 yX2_pick yX2_pick, .code yX2_pick cX2_pick 5 (some .int), .methodLink RX2 67 yX2_isLucky, .instanceMethod yX2_isLucky, .selects RX2 yX2_isLucky yX2_isLucky, .code yX2_isLucky cX2_isLucky 3 (some .boolean)] ++ wsX90 ++ wsX20)
theorem iX9_draw_X9 : ∀ w ∈ wsX90, w ∈ uX9_draw := fun _ h => List.mem_cons_of_mem _ (List.mem_append_left _ (List.mem_append_right _ h))
theorem iX9_draw_X2 : ∀ w ∈ wsX20, w ∈ uX9_draw := fun _ h => List.mem_cons_of_mem _ (List.mem_append_right _ h)
set_option maxRecDepth 20000 in
theorem gX9_draw__X2_hasLaw_V149 : GoodIn uX9_draw (wsV RX9 149 RX2 yX2_hasLaw uX2_hasLaw) := goodIn_p _ [6] rfl (by decide +kernel)
set_option maxRecDepth 20000 in
theorem gX9_draw__X9_isWithin_S158 : GoodIn uX9_draw (va_wsS RX9 158 yX9_isWithin uX9_isWithin) := goodIn_p _ [12] rfl (by decide +kernel)
set_option maxRecDepth 20000 in
theorem gX9_draw__X2_total_V152 : GoodIn uX9_draw (wsV RX9 152 RX2 yX2_total uX2_total) := goodIn_p _ [16, 21, 25, 28] rfl (by decide +kernel)
set_option maxRecDepth 20000 in
theorem gX9_draw__X9_stirred_S258 : GoodIn uX9_draw (va_wsS RX9 258 yX9_stirred uX9_stirred) := goodIn_p _ [32] rfl (by decide +kernel)
set_option maxRecDepth 20000 in
theorem gX9_draw__X9_drawOf_S262 : GoodIn uX9_draw (va_wsS RX9 262 yX9_drawOf uX9_drawOf) := goodIn_p _ [38] rfl (by decide +kernel)
set_option maxRecDepth 20000 in
theorem gX9_draw__X2_pick_V172 : GoodIn uX9_draw (wsV RX9 172 RX2 yX2_pick uX2_pick) := goodIn_p _ [43, 47] rfl (by decide +kernel)
set_option maxHeartbeats 4000000 in
set_option maxRecDepth 100000 in
theorem kX9_draw (l : Launch) (dC : Nat → ClassId) (dI : Nat → Nat → Nat) (h0 : Nat) (tp : Nat) (sc : Nat) (rd : Nat) (cu : Nat) (im : Nat) (ig : Nat) (sl : Nat) (se : Nat) (sm : Nat) (fc : Nat) (ln : Int32) (bs : Int32) (tk : Int32) (lw : Int32) (li : Int32) (fa : Nat) (lu : Nat) (cL : ClassId) (nl : Nat) (fl : Nat → Int32) (a1 : Int32) (a2 : Int32) (b_ln : (0 : Int) ≤ ln.toInt ∧ ln.toInt ≤ 12) (b_bs : (0 : Int) ≤ bs.toInt ∧ bs.toInt ≤ 16) (b_tk : (0 : Int) ≤ tk.toInt ∧ tk.toInt ≤ 20000) (b_lw : (0 : Int) ≤ lw.toInt ∧ lw.toInt ≤ 9) (hl1 : tk.toInt ≤ (nl : Int)) : Met l yX9_draw uX9_draw ({ frames := 3, cells := 0, slots := 0, locals := 60 }) (va_Pc [.ref h0, .int a1, .int a2] (pw (dC, dI) vwCl [(h0, .inr (7, [.ref tp, .ref sc, .ref rd, .ref cu, .ref im, .ref ig, .ref sl, .ref se, .ref sm, .ref fc])), (cu, .inr (1, [.int ln, .int bs, .int tk, .int lw, .int li, .ref fa, .ref lu])), (lu, .inl (cL, nl, .inl fl))] [(cL, .int)])) (vp_Si (fun r => ((-2 : Int) ≤ r.toInt ∧ r.toInt ≤ 19999))) 0 0 (fun _ => False) := by
  refine Met.ofW (cc := cX9_draw) (maxL := 4) (ret := (some .int)) (by decide) rfl ?_
  intro p e s m args below meth c s₁ B hml hv
  obtain ⟨rfl, hP, hK, hN⟩ := hv
  have hx := B.exec
  have hb := B.bytes
  have hr := B.returns
  have hts := atoms_spec (ws := uX9_draw) B.pre
  have hown : s.vm.findClass RX9 = some m.cls := findClass_of_methodNamed B.named
  have hlocks := B.notSynchronized
  have hl := lv_entry ([.ref h0, .int a1, .int a2]) (n := 4) (Nat.le_of_ble_eq_true rfl)
  rw [lg_entry_eq]
  generalize (lg_sl ([.ref h0, .int a1, .int a2]) ++ List.replicate (4 - (lg_sl ([.ref h0, .int a1, .int a2])).length) Slot.unset).toArray = ls at hl ⊢
  have hl : lv_has ls 4 [(0, .ref h0), (1, .int a1), (2, .int a2)] := hl
  refine lv_aload_n hx hb dX9_draw_0 rfl (lv_at hl 0 rfl) ?_
  refine va_get (D := (dC, dI)) (ci := 7) (v := .ref cu) (C := RX9) (T := TX9) (N := 10) hx hb hts iX9_draw_X9 hown hK hP 0 rfl rfl 3 (by decide) (hts (.fieldLink RX9 35 "LuckyTicket" "current" "LLuckyTicket$Roll;") (List.mem_of_getElem? (i := 1) rfl)) (fun _ h9 => h9) rfl dX9_draw_1 ?_
  refine lv_iload_n hx hb dX9_draw_4 rfl (lv_at hl 1 rfl) ?_
  refine vp_callSi (W.runV (As := [.int a1]) (rest := []) ⟨hx, hb, hml, hown, hts⟩ (kX2_hasLaw l dC dI cu ln bs tk lw li fa lu a1 b_ln b_bs b_tk b_lw) (cwV 1 hts gX9_draw__X2_hasLaw_V149 rfl rfl rfl (by decide +kernel) ⟨lel 1 3 rfl, lel 21 60 rfl⟩) ⟨pw_fb, va_recv hK hP (ci := 1) (q0 := 1) rfl rfl, (pw_use hP hK hN [1] rfl [] rfl)⟩ rfl rfl hl.1 rfl (lv_room (Nat.le_of_ble_eq_true rfl)) dX9_draw_5 ⟨lel 0 0 rfl, lel 0 0 rfl⟩) (fun r_13 h_r_13 => ?_)
  obtain ⟨b_r_13, nz_r_13⟩ := h_r_13
  have b_r_13 : (0 : Int) ≤ r_13.toInt ∧ r_13.toInt ≤ 1 := b_r_13
  refine lv_if_eq (tgt := 22) hx hb dX9_draw_8 (by decide) (fun c_14 => ?_) (fun c_14 => ?_)
  ·
    have n_c_14 : (r_13.toInt : Int) = 0 := c_eq rfl (by decide) c_14
    have b_r_13 : (0 : Int) ≤ r_13.toInt ∧ r_13.toInt ≤ 0 := r_eq1 b_r_13 (by decide : (0 : Int) ≤ (0 : Int32).toInt ∧ (0 : Int32).toInt ≤ 0) n_c_14 (by decide)
    refine lv_bipush (v := (-2)) hx hb dX9_draw_22 (by decide) ?_
    exact W.iret (v := (-2)) hx hb hr (fun t ht hW => ⟨(-2), rfl, (rg_w (by decide : (-2 : Int) ≤ ((-2) : Int32).toInt ∧ ((-2) : Int32).toInt ≤ -2) (by decide) (by decide)), ht⟩) t_nil dX9_draw_24
  ·
    have n_c_14 : (r_13.toInt : Int) ≠ 0 := c_ne rfl (by decide) c_14
    have b_r_13 : (1 : Int) ≤ r_13.toInt ∧ r_13.toInt ≤ 1 := r_ne1 b_r_13 (by decide : (0 : Int) ≤ (0 : Int32).toInt ∧ (0 : Int32).toInt ≤ 0) n_c_14 (by decide)
    obtain ⟨b_a1, g_15⟩ := nz_r_13 c_14
    refine lv_iload_n hx hb dX9_draw_11 rfl (lv_at hl 2 rfl) ?_
    refine lv_iconst (v := 0) hx hb dX9_draw_12 (by decide) ?_
    refine lv_ldcw (v := 2000000000) hx hb hown (hts (.constant RX9 257 (2000000000)) (List.mem_of_getElem? (i := 8) rfl)) dX9_draw_13 ?_
    refine vp_callSi (W.runS (As := [.int a2, .int 0, .int 2000000000]) (rest := []) ⟨hx, hb, hml, hown, hts⟩ (kX9_isWithin l dC dI a2 0 2000000000 ) (va_cwS 3 hts gX9_draw__X9_isWithin_S158 rfl rfl rfl (by decide +kernel) ⟨lel 1 3 rfl, lel 22 60 rfl⟩) ⟨pn_fb, pn_use⟩ rfl rfl hl.1 rfl (lv_room (Nat.le_of_ble_eq_true rfl)) dX9_draw_16 ⟨lel 0 0 rfl, lel 0 0 rfl⟩) (fun r_16 h_r_16 => ?_)
    obtain ⟨b_r_16, nz_r_16⟩ := h_r_16
    have b_r_16 : (0 : Int) ≤ r_16.toInt ∧ r_16.toInt ≤ 1 := b_r_16
    refine lv_if_ne (tgt := 25) hx hb dX9_draw_19 (by decide) (fun c_17 => ?_) (fun c_17 => ?_)
    ·
      have n_c_17 : (r_16.toInt : Int) ≠ 0 := c_ne rfl (by decide) c_17
      have b_r_16 : (1 : Int) ≤ r_16.toInt ∧ r_16.toInt ≤ 1 := r_ne1 b_r_16 (by decide : (0 : Int) ≤ (0 : Int32).toInt ∧ (0 : Int32).toInt ≤ 0) n_c_17 (by decide)
      have g_18 := nz_r_16 c_17
      have lt0_g_18 := (by decide : (0 : Int32).toInt = 0)
      have lt1_g_18 := (by decide : (2000000000 : Int32).toInt = 2000000000)
      have b_a2 : (0 : Int) ≤ a2.toInt ∧ a2.toInt ≤ 2000000000 := by
        have q0 := (ti_rng a2)
        have q1 := (by decide : (0 : Int) ≤ (0 : Int32).toInt ∧ (0 : Int32).toInt ≤ 0)
        have q2 := (by decide : (2000000000 : Int) ≤ (2000000000 : Int32).toInt ∧ (2000000000 : Int32).toInt ≤ 2000000000)
        omega
      refine lv_aload_n hx hb dX9_draw_25 rfl (lv_at hl 0 rfl) ?_
      refine va_get (D := (dC, dI)) (ci := 7) (v := .ref cu) (C := RX9) (T := TX9) (N := 10) hx hb hts iX9_draw_X9 hown hK hP 0 rfl rfl 3 (by decide) (hts (.fieldLink RX9 35 "LuckyTicket" "current" "LLuckyTicket$Roll;") (List.mem_of_getElem? (i := 1) rfl)) (fun _ h9 => h9) rfl dX9_draw_26 ?_
      refine lv_iload_n hx hb dX9_draw_29 rfl (lv_at hl 1 rfl) ?_
      refine vp_callSi (W.runV (As := [.int a1]) (rest := []) ⟨hx, hb, hml, hown, hts⟩ (kX2_total l dC dI cu ln bs tk lw li fa lu cL nl fl a1 b_ln b_bs b_tk b_lw (by omega)) (cwV 1 hts gX9_draw__X2_total_V152 rfl rfl rfl (by decide +kernel) ⟨lel 3 3 rfl, lel 60 60 rfl⟩) ⟨pw_fb, va_recv hK hP (ci := 1) (q0 := 1) rfl rfl, (pw_use hP hK hN [1, 2] rfl [0] rfl)⟩ rfl rfl hl.1 rfl (lv_room (Nat.le_of_ble_eq_true rfl)) dX9_draw_30 ⟨lel 0 0 rfl, lel 0 0 rfl⟩) (fun r_19 h_r_19 => ?_)
      refine lv_istore_n (lv' := [(3, .int r_19), (0, .ref h0), (1, .int a1), (2, .int a2)]) hx hb dX9_draw_33 rfl hl (by decide) rfl (fun ls hl => ?_)
      refine lv_iload_n hx hb dX9_draw_34 rfl (lv_at hl 0 rfl) ?_
      refine lv_if_ne (tgt := 42) hx hb dX9_draw_35 (by decide) (fun c_20 => ?_) (fun c_20 => ?_)
      ·
        have n_c_20 : (r_19.toInt : Int) ≠ 0 := c_ne rfl (by decide) c_20
        refine lv_aload_n hx hb dX9_draw_42 rfl (lv_at hl 1 rfl) ?_
        refine va_get (D := (dC, dI)) (ci := 7) (v := .ref cu) (C := RX9) (T := TX9) (N := 10) hx hb hts iX9_draw_X9 hown hK hP 0 rfl rfl 3 (by decide) (hts (.fieldLink RX9 35 "LuckyTicket" "current" "LLuckyTicket$Roll;") (List.mem_of_getElem? (i := 1) rfl)) (fun _ h9 => h9) rfl dX9_draw_43 ?_
        refine lv_iload_n hx hb dX9_draw_46 rfl (lv_at hl 2 rfl) ?_
        refine lv_iload_n hx hb dX9_draw_47 rfl (lv_at hl 3 rfl) ?_
        obtain ⟨z_21, e_z_21⟩ : ∃ y : Int64, y = a2.toInt64 := ⟨_, rfl⟩
        refine lv_i2l (v := z_21) hx hb dX9_draw_48 e_z_21.symm ?_
        obtain ⟨q_z_21, b_z_21⟩ := ti_i2l e_z_21 b_a2
        refine vp_callSl (W.runS (As := [.long z_21]) (rest := [.int a1, .ref cu]) ⟨hx, hb, hml, hown, hts⟩ (kX9_stirred l dC dI z_21 ) (va_cwS 1 hts gX9_draw__X9_stirred_S258 rfl rfl rfl (by decide +kernel) ⟨lel 1 3 rfl, lel 21 60 rfl⟩) ⟨pn_fb, pn_use⟩ rfl rfl hl.1 rfl (lv_room (Nat.le_of_ble_eq_true rfl)) dX9_draw_49 ⟨lel 0 0 rfl, lel 0 0 rfl⟩) (fun r_22 h_r_22 => ?_)
        refine lv_iload_n hx hb dX9_draw_52 rfl (lv_at hl 0 rfl) ?_
        refine vp_callSi (W.runS (As := [.long r_22, .int r_19]) (rest := [.int a1, .ref cu]) ⟨hx, hb, hml, hown, hts⟩ (kX9_drawOf l dC dI r_22 r_19 ) (va_cwS 2 hts gX9_draw__X9_drawOf_S262 rfl rfl rfl (by decide +kernel) ⟨lel 1 3 rfl, lel 22 60 rfl⟩) ⟨pn_fb, pn_use⟩ rfl rfl hl.1 rfl (lv_room (Nat.le_of_ble_eq_true rfl)) dX9_draw_53 ⟨lel 0 0 rfl, lel 0 0 rfl⟩) (fun r_23 h_r_23 => ?_)
        refine vp_callSi (W.runV (As := [.int a1, .int r_23]) (rest := []) ⟨hx, hb, hml, hown, hts⟩ (kX2_pick l dC dI cu ln bs tk lw li fa lu cL nl fl a1 r_23 b_ln b_bs b_tk b_lw (by omega)) (cwV 2 hts gX9_draw__X2_pick_V172 rfl rfl rfl (by decide +kernel) ⟨lel 2 3 rfl, lel 46 60 rfl⟩) ⟨pw_fb, va_recv hK hP (ci := 1) (q0 := 1) rfl rfl, (pw_use hP hK hN [1, 2] rfl [0] rfl)⟩ rfl rfl hl.1 rfl (lv_room (Nat.le_of_ble_eq_true rfl)) dX9_draw_56 ⟨lel 0 0 rfl, lel 0 0 rfl⟩) (fun r_24 h_r_24 => ?_)
        have b_r_24 := h_r_24
        have b_r_24 : (-1 : Int) ≤ r_24.toInt ∧ r_24.toInt ≤ 19999 := b_r_24
        exact W.iret (v := r_24) hx hb hr (fun t ht hW => ⟨r_24, rfl, (rg_w b_r_24 (by decide) (by decide)), ht⟩) t_nil dX9_draw_59
      ·
        have n_c_20 : (r_19.toInt : Int) = 0 := c_eq rfl (by decide) c_20
        have b_r_19 : (0 : Int) ≤ r_19.toInt ∧ r_19.toInt ≤ 0 := r_eq1 (ti_rng r_19) (by decide : (0 : Int) ≤ (0 : Int32).toInt ∧ (0 : Int32).toInt ≤ 0) n_c_20 (by decide)
        refine lv_iconst (v := (-1)) hx hb dX9_draw_38 (by decide) ?_
        refine lv_goto (tgt := 59) hx hb dX9_draw_39 (by decide) ?_
        exact W.iret (v := (-1)) hx hb hr (fun t ht hW => ⟨(-1), rfl, (rg_w (by decide : (-1 : Int) ≤ ((-1) : Int32).toInt ∧ ((-1) : Int32).toInt ≤ -1) (by decide) (by decide)), ht⟩) t_nil dX9_draw_59
    ·
      have n_c_17 : (r_16.toInt : Int) = 0 := c_eq rfl (by decide) c_17
      have b_r_16 : (0 : Int) ≤ r_16.toInt ∧ r_16.toInt ≤ 0 := r_eq1 b_r_16 (by decide : (0 : Int) ≤ (0 : Int32).toInt ∧ (0 : Int32).toInt ≤ 0) n_c_17 (by decide)
      refine lv_bipush (v := (-2)) hx hb dX9_draw_22 (by decide) ?_
      exact W.iret (v := (-2)) hx hb hr (fun t ht hW => ⟨(-2), rfl, (rg_w (by decide : (-2 : Int) ≤ ((-2) : Int32).toInt ∧ ((-2) : Int32).toInt ≤ -2) (by decide) (by decide)), ht⟩) t_nil dX9_draw_24
theorem dX9_sold_0 : decode cX9_sold 0 = .ok (.aload_n 0, 1) := by decide +kernel
theorem dX9_sold_1 : decode cX9_sold 1 = .ok (.getfield 35, 3) := by decide +kernel
theorem dX9_sold_4 : decode cX9_sold 4 = .ok (.iload_n 1, 1) := by decide +kernel
theorem dX9_sold_5 : decode cX9_sold 5 = .ok (.invokevirtual 149, 3) := by decide +kernel
theorem dX9_sold_8 : decode cX9_sold 8 = .ok (.ifCond .eq 24, 3) := by decide +kernel
theorem dX9_sold_11 : decode cX9_sold 11 = .ok (.iload_n 2, 1) := by decide +kernel
theorem dX9_sold_12 : decode cX9_sold 12 = .ok (.iconst 0, 1) := by decide +kernel
theorem dX9_sold_13 : decode cX9_sold 13 = .ok (.ldc_w 257, 3) := by decide +kernel
theorem dX9_sold_16 : decode cX9_sold 16 = .ok (.invokestatic 158, 3) := by decide +kernel
theorem dX9_sold_19 : decode cX9_sold 19 = .ok (.ifCond .eq 13, 3) := by decide +kernel
theorem dX9_sold_22 : decode cX9_sold 22 = .ok (.iload_n 3, 1) := by decide +kernel
theorem dX9_sold_23 : decode cX9_sold 23 = .ok (.iconst 1, 1) := by decide +kernel
theorem dX9_sold_24 : decode cX9_sold 24 = .ok (.bipush 60, 2) := by decide +kernel
theorem dX9_sold_26 : decode cX9_sold 26 = .ok (.invokestatic 158, 3) := by decide +kernel
theorem dX9_sold_29 : decode cX9_sold 29 = .ok (.ifCond .ne 6, 3) := by decide +kernel
theorem dX9_sold_32 : decode cX9_sold 32 = .ok (.bipush (-2), 2) := by decide +kernel
theorem dX9_sold_34 : decode cX9_sold 34 = .ok (.ireturn, 1) := by decide +kernel
theorem dX9_sold_35 : decode cX9_sold 35 = .ok (.iload_n 2, 1) := by decide +kernel
theorem dX9_sold_36 : decode cX9_sold 36 = .ok (.i2l, 1) := by decide +kernel
theorem dX9_sold_37 : decode cX9_sold 37 = .ok (.lstore 4, 2) := by decide +kernel
theorem dX9_sold_39 : decode cX9_sold 39 = .ok (.iconst 0, 1) := by decide +kernel
theorem dX9_sold_40 : decode cX9_sold 40 = .ok (.istore 6, 2) := by decide +kernel
theorem dX9_sold_42 : decode cX9_sold 42 = .ok (.iconst 0, 1) := by decide +kernel
theorem dX9_sold_43 : decode cX9_sold 43 = .ok (.istore 7, 2) := by decide +kernel
theorem dX9_sold_45 : decode cX9_sold 45 = .ok (.iload 7, 2) := by decide +kernel
theorem dX9_sold_47 : decode cX9_sold 47 = .ok (.iload_n 3, 1) := by decide +kernel
theorem dX9_sold_48 : decode cX9_sold 48 = .ok (.if_icmp .ge 41, 3) := by decide +kernel
theorem dX9_sold_51 : decode cX9_sold 51 = .ok (.lload 4, 2) := by decide +kernel
theorem dX9_sold_53 : decode cX9_sold 53 = .ok (.invokestatic 258, 3) := by decide +kernel
theorem dX9_sold_56 : decode cX9_sold 56 = .ok (.lstore 4, 2) := by decide +kernel
theorem dX9_sold_58 : decode cX9_sold 58 = .ok (.iload 6, 2) := by decide +kernel
theorem dX9_sold_60 : decode cX9_sold 60 = .ok (.aload_n 0, 1) := by decide +kernel
theorem dX9_sold_61 : decode cX9_sold 61 = .ok (.getfield 35, 3) := by decide +kernel
theorem dX9_sold_64 : decode cX9_sold 64 = .ok (.iload_n 1, 1) := by decide +kernel
theorem dX9_sold_65 : decode cX9_sold 65 = .ok (.lload 4, 2) := by decide +kernel
theorem dX9_sold_67 : decode cX9_sold 67 = .ok (.aload_n 0, 1) := by decide +kernel
theorem dX9_sold_68 : decode cX9_sold 68 = .ok (.getfield 35, 3) := by decide +kernel
theorem dX9_sold_71 : decode cX9_sold 71 = .ok (.getfield 155, 3) := by decide +kernel
theorem dX9_sold_74 : decode cX9_sold 74 = .ok (.invokestatic 262, 3) := by decide +kernel
theorem dX9_sold_77 : decode cX9_sold 77 = .ok (.invokevirtual 141, 3) := by decide +kernel
theorem dX9_sold_80 : decode cX9_sold 80 = .ok (.iadd, 1) := by decide +kernel
theorem dX9_sold_81 : decode cX9_sold 81 = .ok (.istore 6, 2) := by decide +kernel
theorem dX9_sold_83 : decode cX9_sold 83 = .ok (.iinc 7 1, 3) := by decide +kernel
theorem dX9_sold_86 : decode cX9_sold 86 = .ok (.goto (-41), 3) := by decide +kernel
theorem dX9_sold_89 : decode cX9_sold 89 = .ok (.iload 6, 2) := by decide +kernel
theorem dX9_sold_91 : decode cX9_sold 91 = .ok (.ireturn, 1) := by decide +kernel
def uX9_sold : List Cond := .code yX9_sold cX9_sold 8 (some .int) :: ([.fieldLink RX9 35 "LuckyTicket" "current" "LLuckyTicket$Roll;", .methodLink RX9 149 yX2_hasLaw, .instanceMethod yX2_hasLaw, .selects RX2 yX2_hasLaw yX2_hasLaw, .initialized RX2, .code yX2_hasLaw cX2_hasLaw 2 (some .boolean), .fieldLink RX2 33 "LuckyTicket$Roll" "laws" "I", .constant RX9 257 (2000000000), .methodLink RX9 158 yX9_isWithin, .static yX9_isWithin, .initialized RX9, .code yX9_isWithin cX9_isWithin 3 (some .boolean), .methodLink RX9 258 yX9_stirred, .static yX9_stirred, .code yX9_stirred cX9_stirred 2 (some .long), .constantLong RX9 362 (1103515245), .constantLong RX9 364 (12345), .constantLong RX9 366 (2147483647), .methodLink RX9 262 yX9_drawOf, .static yX9_drawOf, .code yX9_drawOf cX9_drawOf 3 (some .int), .constantLong RX9 368 (65536), .methodLink RX9 141 yX2_luckBit, .instanceMethod yX2_luckBit, .selects RX2 yX2_luckBit yX2_luckBit, .code yX2_luckBit cX2_luckBit 3 (some .int), .methodLink RX2 63 yX2_hasTicket, .instanceMethod yX2_hasTicket, .selects RX2 yX2_hasTicket yX2_hasTicket, .code yX2_hasTicket cX2_hasTicket 2 (some .boolean), .fieldLink RX2 42 "LuckyTicket$Roll" "tickets" "I", .fieldLink RX2 15 "LuckyTicket$Roll" "luck" "[I"] ++ wsX90 ++ wsX20)
theorem iX9_sold_X9 : ∀ w ∈ wsX90, w ∈ uX9_sold := fun _ h => List.mem_cons_of_mem _ (List.mem_append_left _ (List.mem_append_right _ h))
theorem iX9_sold_X2 : ∀ w ∈ wsX20, w ∈ uX9_sold := fun _ h => List.mem_cons_of_mem _ (List.mem_append_right _ h)
set_option maxRecDepth 20000 in
theorem gX9_sold__X2_hasLaw_V149 : GoodIn uX9_sold (wsV RX9 149 RX2 yX2_hasLaw uX2_hasLaw) := goodIn_p _ [6] rfl (by decide +kernel)
set_option maxRecDepth 20000 in
theorem gX9_sold__X9_isWithin_S158 : GoodIn uX9_sold (va_wsS RX9 158 yX9_isWithin uX9_isWithin) := goodIn_p _ [12] rfl (by decide +kernel)
set_option maxRecDepth 20000 in
theorem gX9_sold__X9_stirred_S258 : GoodIn uX9_sold (va_wsS RX9 258 yX9_stirred uX9_stirred) := goodIn_p _ [15] rfl (by decide +kernel)
set_option maxRecDepth 20000 in
theorem gX9_sold__X9_drawOf_S262 : GoodIn uX9_sold (va_wsS RX9 262 yX9_drawOf uX9_drawOf) := goodIn_p _ [21] rfl (by decide +kernel)
set_option maxRecDepth 20000 in
theorem gX9_sold__X2_luckBit_V141 : GoodIn uX9_sold (wsV RX9 141 RX2 yX2_luckBit uX2_luckBit) := goodIn_p _ [26, 30] rfl (by decide +kernel)
set_option maxHeartbeats 4000000 in
set_option maxRecDepth 100000 in
theorem kX9_sold (l : Launch) (dC : Nat → ClassId) (dI : Nat → Nat → Nat) (h0 : Nat) (tp : Nat) (sc : Nat) (rd : Nat) (cu : Nat) (im : Nat) (ig : Nat) (sl : Nat) (se : Nat) (sm : Nat) (fc : Nat) (ln : Int32) (bs : Int32) (tk : Int32) (lw : Int32) (li : Int32) (fa : Nat) (lu : Nat) (cL : ClassId) (nl : Nat) (fl : Nat → Int32) (a1 : Int32) (a2 : Int32) (a3 : Int32) (b_ln : (0 : Int) ≤ ln.toInt ∧ ln.toInt ≤ 12) (b_bs : (0 : Int) ≤ bs.toInt ∧ bs.toInt ≤ 16) (b_tk : (0 : Int) ≤ tk.toInt ∧ tk.toInt ≤ 20000) (b_lw : (0 : Int) ≤ lw.toInt ∧ lw.toInt ≤ 9) (hl1 : tk.toInt ≤ (nl : Int)) : Met l yX9_sold uX9_sold ({ frames := 2, cells := 0, slots := 0, locals := 43 }) (va_Pc [.ref h0, .int a1, .int a2, .int a3] (pw (dC, dI) vwCl [(h0, .inr (7, [.ref tp, .ref sc, .ref rd, .ref cu, .ref im, .ref ig, .ref sl, .ref se, .ref sm, .ref fc])), (cu, .inr (1, [.int ln, .int bs, .int tk, .int lw, .int li, .ref fa, .ref lu])), (lu, .inl (cL, nl, .inl fl))] [(cL, .int)])) (vp_Si (fun r => True)) 0 0 (fun _ => False) := by
  refine Met.ofW (cc := cX9_sold) (maxL := 8) (ret := (some .int)) (by decide) rfl ?_
  intro p e s m args below meth c s₁ B hml hv
  obtain ⟨rfl, hP, hK, hN⟩ := hv
  have hx := B.exec
  have hb := B.bytes
  have hr := B.returns
  have hts := atoms_spec (ws := uX9_sold) B.pre
  have hown : s.vm.findClass RX9 = some m.cls := findClass_of_methodNamed B.named
  have hlocks := B.notSynchronized
  have hl := lv_entry ([.ref h0, .int a1, .int a2, .int a3]) (n := 8) (Nat.le_of_ble_eq_true rfl)
  rw [lg_entry_eq]
  generalize (lg_sl ([.ref h0, .int a1, .int a2, .int a3]) ++ List.replicate (8 - (lg_sl ([.ref h0, .int a1, .int a2, .int a3])).length) Slot.unset).toArray = ls at hl ⊢
  have hl : lv_has ls 8 [(0, .ref h0), (1, .int a1), (2, .int a2), (3, .int a3)] := hl
  refine lv_aload_n hx hb dX9_sold_0 rfl (lv_at hl 0 rfl) ?_
  refine va_get (D := (dC, dI)) (ci := 7) (v := .ref cu) (C := RX9) (T := TX9) (N := 10) hx hb hts iX9_sold_X9 hown hK hP 0 rfl rfl 3 (by decide) (hts (.fieldLink RX9 35 "LuckyTicket" "current" "LLuckyTicket$Roll;") (List.mem_of_getElem? (i := 1) rfl)) (fun _ h9 => h9) rfl dX9_sold_1 ?_
  refine lv_iload_n hx hb dX9_sold_4 rfl (lv_at hl 1 rfl) ?_
  refine vp_callSi (W.runV (As := [.int a1]) (rest := []) ⟨hx, hb, hml, hown, hts⟩ (kX2_hasLaw l dC dI cu ln bs tk lw li fa lu a1 b_ln b_bs b_tk b_lw) (cwV 1 hts gX9_sold__X2_hasLaw_V149 rfl rfl rfl (by decide +kernel) ⟨lel 1 2 rfl, lel 21 43 rfl⟩) ⟨pw_fb, va_recv hK hP (ci := 1) (q0 := 1) rfl rfl, (pw_use hP hK hN [1] rfl [] rfl)⟩ rfl rfl hl.1 rfl (lv_room (Nat.le_of_ble_eq_true rfl)) dX9_sold_5 ⟨lel 0 0 rfl, lel 0 0 rfl⟩) (fun r_56 h_r_56 => ?_)
  obtain ⟨b_r_56, nz_r_56⟩ := h_r_56
  have b_r_56 : (0 : Int) ≤ r_56.toInt ∧ r_56.toInt ≤ 1 := b_r_56
  refine lv_if_eq (tgt := 32) hx hb dX9_sold_8 (by decide) (fun c_57 => ?_) (fun c_57 => ?_)
  ·
    have n_c_57 : (r_56.toInt : Int) = 0 := c_eq rfl (by decide) c_57
    have b_r_56 : (0 : Int) ≤ r_56.toInt ∧ r_56.toInt ≤ 0 := r_eq1 b_r_56 (by decide : (0 : Int) ≤ (0 : Int32).toInt ∧ (0 : Int32).toInt ≤ 0) n_c_57 (by decide)
    refine lv_bipush (v := (-2)) hx hb dX9_sold_32 (by decide) ?_
    exact W.iret (v := (-2)) hx hb hr (fun t ht hW => ⟨(-2), rfl, trivial, ht⟩) t_nil dX9_sold_34
  ·
    have n_c_57 : (r_56.toInt : Int) ≠ 0 := c_ne rfl (by decide) c_57
    have b_r_56 : (1 : Int) ≤ r_56.toInt ∧ r_56.toInt ≤ 1 := r_ne1 b_r_56 (by decide : (0 : Int) ≤ (0 : Int32).toInt ∧ (0 : Int32).toInt ≤ 0) n_c_57 (by decide)
    obtain ⟨b_a1, g_58⟩ := nz_r_56 c_57
    refine lv_iload_n hx hb dX9_sold_11 rfl (lv_at hl 2 rfl) ?_
    refine lv_iconst (v := 0) hx hb dX9_sold_12 (by decide) ?_
    refine lv_ldcw (v := 2000000000) hx hb hown (hts (.constant RX9 257 (2000000000)) (List.mem_of_getElem? (i := 8) rfl)) dX9_sold_13 ?_
    refine vp_callSi (W.runS (As := [.int a2, .int 0, .int 2000000000]) (rest := []) ⟨hx, hb, hml, hown, hts⟩ (kX9_isWithin l dC dI a2 0 2000000000 ) (va_cwS 3 hts gX9_sold__X9_isWithin_S158 rfl rfl rfl (by decide +kernel) ⟨lel 1 2 rfl, lel 22 43 rfl⟩) ⟨pn_fb, pn_use⟩ rfl rfl hl.1 rfl (lv_room (Nat.le_of_ble_eq_true rfl)) dX9_sold_16 ⟨lel 0 0 rfl, lel 0 0 rfl⟩) (fun r_59 h_r_59 => ?_)
    obtain ⟨b_r_59, nz_r_59⟩ := h_r_59
    have b_r_59 : (0 : Int) ≤ r_59.toInt ∧ r_59.toInt ≤ 1 := b_r_59
    refine lv_if_eq (tgt := 32) hx hb dX9_sold_19 (by decide) (fun c_60 => ?_) (fun c_60 => ?_)
    ·
      have n_c_60 : (r_59.toInt : Int) = 0 := c_eq rfl (by decide) c_60
      have b_r_59 : (0 : Int) ≤ r_59.toInt ∧ r_59.toInt ≤ 0 := r_eq1 b_r_59 (by decide : (0 : Int) ≤ (0 : Int32).toInt ∧ (0 : Int32).toInt ≤ 0) n_c_60 (by decide)
      refine lv_bipush (v := (-2)) hx hb dX9_sold_32 (by decide) ?_
      exact W.iret (v := (-2)) hx hb hr (fun t ht hW => ⟨(-2), rfl, trivial, ht⟩) t_nil dX9_sold_34
    ·
      have n_c_60 : (r_59.toInt : Int) ≠ 0 := c_ne rfl (by decide) c_60
      have b_r_59 : (1 : Int) ≤ r_59.toInt ∧ r_59.toInt ≤ 1 := r_ne1 b_r_59 (by decide : (0 : Int) ≤ (0 : Int32).toInt ∧ (0 : Int32).toInt ≤ 0) n_c_60 (by decide)
      have g_61 := nz_r_59 c_60
      have lt0_g_61 := (by decide : (0 : Int32).toInt = 0)
      have lt1_g_61 := (by decide : (2000000000 : Int32).toInt = 2000000000)
      have b_a2 : (0 : Int) ≤ a2.toInt ∧ a2.toInt ≤ 2000000000 := by
        have q0 := (ti_rng a2)
        have q1 := (by decide : (0 : Int) ≤ (0 : Int32).toInt ∧ (0 : Int32).toInt ≤ 0)
        have q2 := (by decide : (2000000000 : Int) ≤ (2000000000 : Int32).toInt ∧ (2000000000 : Int32).toInt ≤ 2000000000)
        omega
      refine lv_iload_n hx hb dX9_sold_22 rfl (lv_at hl 3 rfl) ?_
      refine lv_iconst (v := 1) hx hb dX9_sold_23 (by decide) ?_
      refine lv_bipush (v := 60) hx hb dX9_sold_24 (by decide) ?_
      refine vp_callSi (W.runS (As := [.int a3, .int 1, .int 60]) (rest := []) ⟨hx, hb, hml, hown, hts⟩ (kX9_isWithin l dC dI a3 1 60 ) (va_cwS 3 hts gX9_sold__X9_isWithin_S158 rfl rfl rfl (by decide +kernel) ⟨lel 1 2 rfl, lel 22 43 rfl⟩) ⟨pn_fb, pn_use⟩ rfl rfl hl.1 rfl (lv_room (Nat.le_of_ble_eq_true rfl)) dX9_sold_26 ⟨lel 0 0 rfl, lel 0 0 rfl⟩) (fun r_62 h_r_62 => ?_)
      obtain ⟨b_r_62, nz_r_62⟩ := h_r_62
      have b_r_62 : (0 : Int) ≤ r_62.toInt ∧ r_62.toInt ≤ 1 := b_r_62
      refine lv_if_ne (tgt := 35) hx hb dX9_sold_29 (by decide) (fun c_63 => ?_) (fun c_63 => ?_)
      ·
        have n_c_63 : (r_62.toInt : Int) ≠ 0 := c_ne rfl (by decide) c_63
        have b_r_62 : (1 : Int) ≤ r_62.toInt ∧ r_62.toInt ≤ 1 := r_ne1 b_r_62 (by decide : (0 : Int) ≤ (0 : Int32).toInt ∧ (0 : Int32).toInt ≤ 0) n_c_63 (by decide)
        have g_64 := nz_r_62 c_63
        have lt0_g_64 := (by decide : (1 : Int32).toInt = 1)
        have lt1_g_64 := (by decide : (60 : Int32).toInt = 60)
        have b_a3 : (1 : Int) ≤ a3.toInt ∧ a3.toInt ≤ 60 := by
          have q0 := (ti_rng a3)
          have q1 := (by decide : (1 : Int) ≤ (1 : Int32).toInt ∧ (1 : Int32).toInt ≤ 1)
          have q2 := (by decide : (60 : Int) ≤ (60 : Int32).toInt ∧ (60 : Int32).toInt ≤ 60)
          omega
        refine lv_iload_n hx hb dX9_sold_35 rfl (lv_at hl 2 rfl) ?_
        obtain ⟨z_65, e_z_65⟩ : ∃ y : Int64, y = a2.toInt64 := ⟨_, rfl⟩
        refine lv_i2l (v := z_65) hx hb dX9_sold_36 e_z_65.symm ?_
        obtain ⟨q_z_65, b_z_65⟩ := ti_i2l e_z_65 b_a2
        refine lv_lstore (lv' := [(4, .long z_65), (0, .ref h0), (1, .int a1), (2, .int a2), (3, .int a3)]) hx hb dX9_sold_37 hl (by decide) rfl (fun ls hl => ?_)
        refine lv_iconst (v := 0) hx hb dX9_sold_39 (by decide) ?_
        refine lv_istore (lv' := [(6, .int 0), (4, .long z_65), (0, .ref h0), (1, .int a1), (2, .int a2), (3, .int a3)]) hx hb dX9_sold_40 hl (by decide) rfl (fun ls hl => ?_)
        refine lv_iconst (v := 0) hx hb dX9_sold_42 (by decide) ?_
        refine lv_istore (lv' := [(7, .int 0), (6, .int 0), (4, .long z_65), (0, .ref h0), (1, .int a1), (2, .int a2), (3, .int a3)]) hx hb dX9_sold_43 hl (by decide) rfl (fun ls hl => ?_)
        refine loopP (σ := Int32 × Int32 × Int64) (fun v => (60 - v.1.toInt).toNat) (fun v ls => ((0 : Int) ≤ v.1.toInt ∧ v.1.toInt ≤ 60) ∧ lv_has ls 8 [(7, .int v.1), (6, .int v.2.1), (4, .long v.2.2), (0, .ref h0), (1, .int a1), (2, .int a2), (3, .int a3)]) (fun v ls hI ih_45_104 => ?_) ((0 : Int32), (0 : Int32), z_65) ⟨(show (0 : Int) ≤ (0 : Int32).toInt ∧ (0 : Int32).toInt ≤ 60 from (rg_w (by decide : (0 : Int) ≤ (0 : Int32).toInt ∧ (0 : Int32).toInt ≤ 0) (by decide) (by decide))), lv_sub hl [0, 1, 2, 3, 4, 5, 6] rfl⟩
        obtain ⟨y_72, y_73, y_74⟩ := v
        obtain ⟨b_y_72, hl⟩ := hI
        have b_y_72 : (0 : Int) ≤ y_72.toInt ∧ y_72.toInt ≤ 60 := b_y_72
        have hl : lv_has ls 8 [(7, .int y_72), (6, .int y_73), (4, .long y_74), (0, .ref h0), (1, .int a1), (2, .int a2), (3, .int a3)] := hl
        refine lv_iload hx hb dX9_sold_45 (lv_at hl 0 rfl) ?_
        refine lv_iload_n hx hb dX9_sold_47 rfl (lv_at hl 6 rfl) ?_
        refine lv_icmp_ge (tgt := 89) hx hb dX9_sold_48 (by decide) (fun c_105 => ?_) (fun c_105 => ?_)
        ·
          have n_c_105 : (a3.toInt : Int) ≤ y_72.toInt := c_ge rfl rfl c_105
          have b_y_72 : (1 : Int) ≤ y_72.toInt ∧ y_72.toInt ≤ 60 := r_le2 b_a3 b_y_72 n_c_105 (by decide)
          refine lv_iload hx hb dX9_sold_89 (lv_at hl 1 rfl) ?_
          exact W.iret (v := y_73) hx hb hr (fun t ht hW => ⟨y_73, rfl, trivial, ht⟩) t_nil dX9_sold_91
        ·
          have n_c_105 : (y_72.toInt : Int) < a3.toInt := c_nge rfl rfl c_105
          have b_y_72 : (0 : Int) ≤ y_72.toInt ∧ y_72.toInt ≤ 59 := r_lt1 b_y_72 b_a3 n_c_105 (by decide)
          refine lv_lload hx hb dX9_sold_51 (lv_at hl 2 rfl) ?_
          refine vp_callSl (W.runS (As := [.long y_74]) (rest := []) ⟨hx, hb, hml, hown, hts⟩ (kX9_stirred l dC dI y_74 ) (va_cwS 1 hts gX9_sold__X9_stirred_S258 rfl rfl rfl (by decide +kernel) ⟨lel 1 2 rfl, lel 21 43 rfl⟩) ⟨pn_fb, pn_use⟩ rfl rfl hl.1 rfl (lv_room (Nat.le_of_ble_eq_true rfl)) dX9_sold_53 ⟨lel 0 0 rfl, lel 0 0 rfl⟩) (fun r_106 h_r_106 => ?_)
          refine lv_lstore (lv' := [(4, .long r_106), (7, .int y_72), (6, .int y_73), (0, .ref h0), (1, .int a1), (2, .int a2), (3, .int a3)]) hx hb dX9_sold_56 hl (by decide) rfl (fun ls hl => ?_)
          refine lv_iload hx hb dX9_sold_58 (lv_at hl 2 rfl) ?_
          refine lv_aload_n hx hb dX9_sold_60 rfl (lv_at hl 3 rfl) ?_
          refine va_get (D := (dC, dI)) (ci := 7) (v := .ref cu) (C := RX9) (T := TX9) (N := 10) hx hb hts iX9_sold_X9 hown hK hP 0 rfl rfl 3 (by decide) (hts (.fieldLink RX9 35 "LuckyTicket" "current" "LLuckyTicket$Roll;") (List.mem_of_getElem? (i := 1) rfl)) (fun _ h9 => h9) rfl dX9_sold_61 ?_
          refine lv_iload_n hx hb dX9_sold_64 rfl (lv_at hl 4 rfl) ?_
          refine lv_lload hx hb dX9_sold_65 (lv_at hl 0 rfl) ?_
          refine lv_aload_n hx hb dX9_sold_67 rfl (lv_at hl 3 rfl) ?_
          refine va_get (D := (dC, dI)) (ci := 7) (v := .ref cu) (C := RX9) (T := TX9) (N := 10) hx hb hts iX9_sold_X9 hown hK hP 0 rfl rfl 3 (by decide) (hts (.fieldLink RX9 35 "LuckyTicket" "current" "LLuckyTicket$Roll;") (List.mem_of_getElem? (i := 1) rfl)) (fun _ h9 => h9) rfl dX9_sold_68 ?_
          refine va_getN (own := RX9) (index := 155) (ref := RX2) (host := RX9) (D := (dC, dI)) (ci := 1) (v := .int tk) (C := RX2) (T := TX2) (N := 7) hx hb hts iX9_sold_X2 hown hK hP 1 rfl rfl 2 (by decide) (va_Nw.use rfl (hN _ (List.mem_of_getElem? (i := 18) rfl))) (fun _ h9 => h9) rfl dX9_sold_71 ?_
          refine vp_callSi (W.runS (As := [.long r_106, .int tk]) (rest := [.int a1, .ref cu, .int y_73]) ⟨hx, hb, hml, hown, hts⟩ (kX9_drawOf l dC dI r_106 tk ) (va_cwS 2 hts gX9_sold__X9_drawOf_S262 rfl rfl rfl (by decide +kernel) ⟨lel 1 2 rfl, lel 22 43 rfl⟩) ⟨pn_fb, pn_use⟩ rfl rfl hl.1 rfl (lv_room (Nat.le_of_ble_eq_true rfl)) dX9_sold_74 ⟨lel 0 0 rfl, lel 0 0 rfl⟩) (fun r_107 h_r_107 => ?_)
          refine vp_callSi (W.runV (As := [.int a1, .int r_107]) (rest := [.int y_73]) ⟨hx, hb, hml, hown, hts⟩ (kX2_luckBit l dC dI cu ln bs tk lw li fa lu cL nl fl a1 r_107 b_ln b_bs b_tk b_lw (by omega)) (cwV 2 hts gX9_sold__X2_luckBit_V141 rfl rfl rfl (by decide +kernel) ⟨lel 2 2 rfl, lel 43 43 rfl⟩) ⟨pw_fb, va_recv hK hP (ci := 1) (q0 := 1) rfl rfl, (pw_use hP hK hN [1, 2] rfl [0] rfl)⟩ rfl rfl hl.1 rfl (lv_room (Nat.le_of_ble_eq_true rfl)) dX9_sold_77 ⟨lel 0 0 rfl, lel 0 0 rfl⟩) (fun r_108 h_r_108 => ?_)
          have b_r_108 := h_r_108
          have b_r_108 : (0 : Int) ≤ r_108.toInt ∧ r_108.toInt ≤ 1 := b_r_108
          refine lv_iadd hx hb dX9_sold_80 ?_
          refine lv_topi (fun z_109 e_z_109 => ?_)
          refine lv_istore (lv' := [(6, .int z_109), (4, .long r_106), (7, .int y_72), (0, .ref h0), (1, .int a1), (2, .int a2), (3, .int a3)]) hx hb dX9_sold_81 hl (by decide) rfl (fun ls hl => ?_)
          obtain ⟨z_110, e_z_110⟩ : ∃ y : Int32, y = y_72 + 1 := ⟨_, rfl⟩
          refine lv_iinc (v := z_110) (lv' := [(7, .int z_110), (6, .int z_109), (4, .long r_106), (0, .ref h0), (1, .int a1), (2, .int a2), (3, .int a3)]) hx hb dX9_sold_83 hl (k := 2) rfl (by rw [e_z_110]; rfl) (by decide) rfl (fun ls hl => ?_)
          obtain ⟨q_z_110, b_z_110⟩ := ti_add (lo := 1) (hi := 60) e_z_110 rfl (by decide : (1 : Int32).toInt = 1) b_y_72 (by decide : (1 : Int) ≤ (1 : Int32).toInt ∧ (1 : Int32).toInt ≤ 1) (by decide)
          refine lv_goto (tgt := 45) hx hb dX9_sold_86 (by decide) ?_
          exact ih_45_104 (z_110, z_109, r_106) _ ⟨(show (0 : Int) ≤ z_110.toInt ∧ z_110.toInt ≤ 60 from (rg_w b_z_110 (by decide) (by decide))), lv_sub hl [0, 1, 2, 3, 4, 5, 6] rfl⟩ (show (60 - z_110.toInt).toNat < (60 - y_72.toInt).toNat by omega)
      ·
        have n_c_63 : (r_62.toInt : Int) = 0 := c_eq rfl (by decide) c_63
        have b_r_62 : (0 : Int) ≤ r_62.toInt ∧ r_62.toInt ≤ 0 := r_eq1 b_r_62 (by decide : (0 : Int) ≤ (0 : Int32).toInt ∧ (0 : Int32).toInt ≤ 0) n_c_63 (by decide)
        refine lv_bipush (v := (-2)) hx hb dX9_sold_32 (by decide) ?_
        exact W.iret (v := (-2)) hx hb hr (fun t ht hW => ⟨(-2), rfl, trivial, ht⟩) t_nil dX9_sold_34
theorem dX9_first_0 : decode cX9_first 0 = .ok (.aload_n 0, 1) := by decide +kernel
theorem dX9_first_1 : decode cX9_first 1 = .ok (.getfield 35, 3) := by decide +kernel
theorem dX9_first_4 : decode cX9_first 4 = .ok (.iload_n 1, 1) := by decide +kernel
theorem dX9_first_5 : decode cX9_first 5 = .ok (.invokevirtual 149, 3) := by decide +kernel
theorem dX9_first_8 : decode cX9_first 8 = .ok (.ifCond .eq 24, 3) := by decide +kernel
theorem dX9_first_11 : decode cX9_first 11 = .ok (.iload_n 2, 1) := by decide +kernel
theorem dX9_first_12 : decode cX9_first 12 = .ok (.iconst 0, 1) := by decide +kernel
theorem dX9_first_13 : decode cX9_first 13 = .ok (.ldc_w 257, 3) := by decide +kernel
theorem dX9_first_16 : decode cX9_first 16 = .ok (.invokestatic 158, 3) := by decide +kernel
theorem dX9_first_19 : decode cX9_first 19 = .ok (.ifCond .eq 13, 3) := by decide +kernel
theorem dX9_first_22 : decode cX9_first 22 = .ok (.iload_n 3, 1) := by decide +kernel
theorem dX9_first_23 : decode cX9_first 23 = .ok (.iconst 1, 1) := by decide +kernel
theorem dX9_first_24 : decode cX9_first 24 = .ok (.bipush 60, 2) := by decide +kernel
theorem dX9_first_26 : decode cX9_first 26 = .ok (.invokestatic 158, 3) := by decide +kernel
theorem dX9_first_29 : decode cX9_first 29 = .ok (.ifCond .ne 6, 3) := by decide +kernel
theorem dX9_first_32 : decode cX9_first 32 = .ok (.bipush (-2), 2) := by decide +kernel
theorem dX9_first_34 : decode cX9_first 34 = .ok (.ireturn, 1) := by decide +kernel
theorem dX9_first_35 : decode cX9_first 35 = .ok (.iload_n 2, 1) := by decide +kernel
theorem dX9_first_36 : decode cX9_first 36 = .ok (.i2l, 1) := by decide +kernel
theorem dX9_first_37 : decode cX9_first 37 = .ok (.lstore 4, 2) := by decide +kernel
theorem dX9_first_39 : decode cX9_first 39 = .ok (.iconst 1, 1) := by decide +kernel
theorem dX9_first_40 : decode cX9_first 40 = .ok (.istore 6, 2) := by decide +kernel
theorem dX9_first_42 : decode cX9_first 42 = .ok (.iload 6, 2) := by decide +kernel
theorem dX9_first_44 : decode cX9_first 44 = .ok (.iload_n 3, 1) := by decide +kernel
theorem dX9_first_45 : decode cX9_first 45 = .ok (.if_icmp .gt 42, 3) := by decide +kernel
theorem dX9_first_48 : decode cX9_first 48 = .ok (.lload 4, 2) := by decide +kernel
theorem dX9_first_50 : decode cX9_first 50 = .ok (.invokestatic 258, 3) := by decide +kernel
theorem dX9_first_53 : decode cX9_first 53 = .ok (.lstore 4, 2) := by decide +kernel
theorem dX9_first_55 : decode cX9_first 55 = .ok (.aload_n 0, 1) := by decide +kernel
theorem dX9_first_56 : decode cX9_first 56 = .ok (.getfield 35, 3) := by decide +kernel
theorem dX9_first_59 : decode cX9_first 59 = .ok (.iload_n 1, 1) := by decide +kernel
theorem dX9_first_60 : decode cX9_first 60 = .ok (.lload 4, 2) := by decide +kernel
theorem dX9_first_62 : decode cX9_first 62 = .ok (.aload_n 0, 1) := by decide +kernel
theorem dX9_first_63 : decode cX9_first 63 = .ok (.getfield 35, 3) := by decide +kernel
theorem dX9_first_66 : decode cX9_first 66 = .ok (.getfield 155, 3) := by decide +kernel
theorem dX9_first_69 : decode cX9_first 69 = .ok (.invokestatic 262, 3) := by decide +kernel
theorem dX9_first_72 : decode cX9_first 72 = .ok (.invokevirtual 175, 3) := by decide +kernel
theorem dX9_first_75 : decode cX9_first 75 = .ok (.ifCond .eq 6, 3) := by decide +kernel
theorem dX9_first_78 : decode cX9_first 78 = .ok (.iload 6, 2) := by decide +kernel
theorem dX9_first_80 : decode cX9_first 80 = .ok (.ireturn, 1) := by decide +kernel
theorem dX9_first_81 : decode cX9_first 81 = .ok (.iinc 6 1, 3) := by decide +kernel
theorem dX9_first_84 : decode cX9_first 84 = .ok (.goto (-42), 3) := by decide +kernel
theorem dX9_first_87 : decode cX9_first 87 = .ok (.iconst (-1), 1) := by decide +kernel
theorem dX9_first_88 : decode cX9_first 88 = .ok (.ireturn, 1) := by decide +kernel
def uX9_first : List Cond := .code yX9_first cX9_first 7 (some .int) :: ([.fieldLink RX9 35 "LuckyTicket" "current" "LLuckyTicket$Roll;", .methodLink RX9 149 yX2_hasLaw, .instanceMethod yX2_hasLaw, .selects RX2 yX2_hasLaw yX2_hasLaw, .initialized RX2, .code yX2_hasLaw cX2_hasLaw 2 (some .boolean), .fieldLink RX2 33 "LuckyTicket$Roll" "laws" "I", .constant RX9 257 (2000000000), .methodLink RX9 158 yX9_isWithin, .static yX9_isWithin, .initialized RX9, .code yX9_isWithin cX9_isWithin 3 (some .boolean), .methodLink RX9 258 yX9_stirred, .static yX9_stirred, .code yX9_stirred cX9_stirred 2 (some .long), .constantLong RX9 362 (1103515245), .constantLong RX9 364 (12345), .constantLong RX9 366 (2147483647), .methodLink RX9 262 yX9_drawOf, .static yX9_drawOf, .code yX9_drawOf cX9_drawOf 3 (some .int), .constantLong RX9 368 (65536), .methodLink RX9 175 yX2_isLucky, .instanceMethod yX2_isLucky, .selects RX2 yX2_isLucky yX2_isLucky, .code yX2_isLucky cX2_isLucky 3 (some .boolean), .fieldLink RX2 42 "LuckyTicket$Roll" "tickets" "I", .fieldLink RX2 15 "LuckyTicket$Roll" "luck" "[I"] ++ wsX90 ++ wsX20)
theorem iX9_first_X9 : ∀ w ∈ wsX90, w ∈ uX9_first := fun _ h => List.mem_cons_of_mem _ (List.mem_append_left _ (List.mem_append_right _ h))
theorem iX9_first_X2 : ∀ w ∈ wsX20, w ∈ uX9_first := fun _ h => List.mem_cons_of_mem _ (List.mem_append_right _ h)
set_option maxRecDepth 20000 in
theorem gX9_first__X2_hasLaw_V149 : GoodIn uX9_first (wsV RX9 149 RX2 yX2_hasLaw uX2_hasLaw) := goodIn_p _ [6] rfl (by decide +kernel)
set_option maxRecDepth 20000 in
theorem gX9_first__X9_isWithin_S158 : GoodIn uX9_first (va_wsS RX9 158 yX9_isWithin uX9_isWithin) := goodIn_p _ [12] rfl (by decide +kernel)
set_option maxRecDepth 20000 in
theorem gX9_first__X9_stirred_S258 : GoodIn uX9_first (va_wsS RX9 258 yX9_stirred uX9_stirred) := goodIn_p _ [15] rfl (by decide +kernel)
set_option maxRecDepth 20000 in
theorem gX9_first__X9_drawOf_S262 : GoodIn uX9_first (va_wsS RX9 262 yX9_drawOf uX9_drawOf) := goodIn_p _ [21] rfl (by decide +kernel)
set_option maxRecDepth 20000 in
theorem gX9_first__X2_isLucky_V175 : GoodIn uX9_first (wsV RX9 175 RX2 yX2_isLucky uX2_isLucky) := goodIn_p _ [26] rfl (by decide +kernel)
set_option maxHeartbeats 4000000 in
set_option maxRecDepth 100000 in
theorem kX9_first (l : Launch) (dC : Nat → ClassId) (dI : Nat → Nat → Nat) (h0 : Nat) (tp : Nat) (sc : Nat) (rd : Nat) (cu : Nat) (im : Nat) (ig : Nat) (sl : Nat) (se : Nat) (sm : Nat) (fc : Nat) (ln : Int32) (bs : Int32) (tk : Int32) (lw : Int32) (li : Int32) (fa : Nat) (lu : Nat) (cL : ClassId) (nl : Nat) (fl : Nat → Int32) (a1 : Int32) (a2 : Int32) (a3 : Int32) (b_ln : (0 : Int) ≤ ln.toInt ∧ ln.toInt ≤ 12) (b_bs : (0 : Int) ≤ bs.toInt ∧ bs.toInt ≤ 16) (b_tk : (0 : Int) ≤ tk.toInt ∧ tk.toInt ≤ 20000) (b_lw : (0 : Int) ≤ lw.toInt ∧ lw.toInt ≤ 9) (hl1 : tk.toInt ≤ (nl : Int)) : Met l yX9_first uX9_first ({ frames := 1, cells := 0, slots := 0, locals := 22 }) (va_Pc [.ref h0, .int a1, .int a2, .int a3] (pw (dC, dI) vwCl [(h0, .inr (7, [.ref tp, .ref sc, .ref rd, .ref cu, .ref im, .ref ig, .ref sl, .ref se, .ref sm, .ref fc])), (cu, .inr (1, [.int ln, .int bs, .int tk, .int lw, .int li, .ref fa, .ref lu])), (lu, .inl (cL, nl, .inl fl))] [(cL, .int)])) (vp_Si (fun r => ((-2 : Int) ≤ r.toInt ∧ r.toInt ≤ 60))) 0 0 (fun _ => False) := by
  refine Met.ofW (cc := cX9_first) (maxL := 7) (ret := (some .int)) (by decide) rfl ?_
  intro p e s m args below meth c s₁ B hml hv
  obtain ⟨rfl, hP, hK, hN⟩ := hv
  have hx := B.exec
  have hb := B.bytes
  have hr := B.returns
  have hts := atoms_spec (ws := uX9_first) B.pre
  have hown : s.vm.findClass RX9 = some m.cls := findClass_of_methodNamed B.named
  have hlocks := B.notSynchronized
  have hl := lv_entry ([.ref h0, .int a1, .int a2, .int a3]) (n := 7) (Nat.le_of_ble_eq_true rfl)
  rw [lg_entry_eq]
  generalize (lg_sl ([.ref h0, .int a1, .int a2, .int a3]) ++ List.replicate (7 - (lg_sl ([.ref h0, .int a1, .int a2, .int a3])).length) Slot.unset).toArray = ls at hl ⊢
  have hl : lv_has ls 7 [(0, .ref h0), (1, .int a1), (2, .int a2), (3, .int a3)] := hl
  refine lv_aload_n hx hb dX9_first_0 rfl (lv_at hl 0 rfl) ?_
  refine va_get (D := (dC, dI)) (ci := 7) (v := .ref cu) (C := RX9) (T := TX9) (N := 10) hx hb hts iX9_first_X9 hown hK hP 0 rfl rfl 3 (by decide) (hts (.fieldLink RX9 35 "LuckyTicket" "current" "LLuckyTicket$Roll;") (List.mem_of_getElem? (i := 1) rfl)) (fun _ h9 => h9) rfl dX9_first_1 ?_
  refine lv_iload_n hx hb dX9_first_4 rfl (lv_at hl 1 rfl) ?_
  refine vp_callSi (W.runV (As := [.int a1]) (rest := []) ⟨hx, hb, hml, hown, hts⟩ (kX2_hasLaw l dC dI cu ln bs tk lw li fa lu a1 b_ln b_bs b_tk b_lw) (cwV 1 hts gX9_first__X2_hasLaw_V149 rfl rfl rfl (by decide +kernel) ⟨lel 1 1 rfl, lel 21 22 rfl⟩) ⟨pw_fb, va_recv hK hP (ci := 1) (q0 := 1) rfl rfl, (pw_use hP hK hN [1] rfl [] rfl)⟩ rfl rfl hl.1 rfl (lv_room (Nat.le_of_ble_eq_true rfl)) dX9_first_5 ⟨lel 0 0 rfl, lel 0 0 rfl⟩) (fun r_49 h_r_49 => ?_)
  obtain ⟨b_r_49, nz_r_49⟩ := h_r_49
  have b_r_49 : (0 : Int) ≤ r_49.toInt ∧ r_49.toInt ≤ 1 := b_r_49
  refine lv_if_eq (tgt := 32) hx hb dX9_first_8 (by decide) (fun c_50 => ?_) (fun c_50 => ?_)
  ·
    have n_c_50 : (r_49.toInt : Int) = 0 := c_eq rfl (by decide) c_50
    have b_r_49 : (0 : Int) ≤ r_49.toInt ∧ r_49.toInt ≤ 0 := r_eq1 b_r_49 (by decide : (0 : Int) ≤ (0 : Int32).toInt ∧ (0 : Int32).toInt ≤ 0) n_c_50 (by decide)
    refine lv_bipush (v := (-2)) hx hb dX9_first_32 (by decide) ?_
    exact W.iret (v := (-2)) hx hb hr (fun t ht hW => ⟨(-2), rfl, (rg_w (by decide : (-2 : Int) ≤ ((-2) : Int32).toInt ∧ ((-2) : Int32).toInt ≤ -2) (by decide) (by decide)), ht⟩) t_nil dX9_first_34
  ·
    have n_c_50 : (r_49.toInt : Int) ≠ 0 := c_ne rfl (by decide) c_50
    have b_r_49 : (1 : Int) ≤ r_49.toInt ∧ r_49.toInt ≤ 1 := r_ne1 b_r_49 (by decide : (0 : Int) ≤ (0 : Int32).toInt ∧ (0 : Int32).toInt ≤ 0) n_c_50 (by decide)
    obtain ⟨b_a1, g_51⟩ := nz_r_49 c_50
    refine lv_iload_n hx hb dX9_first_11 rfl (lv_at hl 2 rfl) ?_
    refine lv_iconst (v := 0) hx hb dX9_first_12 (by decide) ?_
    refine lv_ldcw (v := 2000000000) hx hb hown (hts (.constant RX9 257 (2000000000)) (List.mem_of_getElem? (i := 8) rfl)) dX9_first_13 ?_
    refine vp_callSi (W.runS (As := [.int a2, .int 0, .int 2000000000]) (rest := []) ⟨hx, hb, hml, hown, hts⟩ (kX9_isWithin l dC dI a2 0 2000000000 ) (va_cwS 3 hts gX9_first__X9_isWithin_S158 rfl rfl rfl (by decide +kernel) ⟨lel 1 1 rfl, lel 22 22 rfl⟩) ⟨pn_fb, pn_use⟩ rfl rfl hl.1 rfl (lv_room (Nat.le_of_ble_eq_true rfl)) dX9_first_16 ⟨lel 0 0 rfl, lel 0 0 rfl⟩) (fun r_52 h_r_52 => ?_)
    obtain ⟨b_r_52, nz_r_52⟩ := h_r_52
    have b_r_52 : (0 : Int) ≤ r_52.toInt ∧ r_52.toInt ≤ 1 := b_r_52
    refine lv_if_eq (tgt := 32) hx hb dX9_first_19 (by decide) (fun c_53 => ?_) (fun c_53 => ?_)
    ·
      have n_c_53 : (r_52.toInt : Int) = 0 := c_eq rfl (by decide) c_53
      have b_r_52 : (0 : Int) ≤ r_52.toInt ∧ r_52.toInt ≤ 0 := r_eq1 b_r_52 (by decide : (0 : Int) ≤ (0 : Int32).toInt ∧ (0 : Int32).toInt ≤ 0) n_c_53 (by decide)
      refine lv_bipush (v := (-2)) hx hb dX9_first_32 (by decide) ?_
      exact W.iret (v := (-2)) hx hb hr (fun t ht hW => ⟨(-2), rfl, (rg_w (by decide : (-2 : Int) ≤ ((-2) : Int32).toInt ∧ ((-2) : Int32).toInt ≤ -2) (by decide) (by decide)), ht⟩) t_nil dX9_first_34
    ·
      have n_c_53 : (r_52.toInt : Int) ≠ 0 := c_ne rfl (by decide) c_53
      have b_r_52 : (1 : Int) ≤ r_52.toInt ∧ r_52.toInt ≤ 1 := r_ne1 b_r_52 (by decide : (0 : Int) ≤ (0 : Int32).toInt ∧ (0 : Int32).toInt ≤ 0) n_c_53 (by decide)
      have g_54 := nz_r_52 c_53
      have lt0_g_54 := (by decide : (0 : Int32).toInt = 0)
      have lt1_g_54 := (by decide : (2000000000 : Int32).toInt = 2000000000)
      have b_a2 : (0 : Int) ≤ a2.toInt ∧ a2.toInt ≤ 2000000000 := by
        have q0 := (ti_rng a2)
        have q1 := (by decide : (0 : Int) ≤ (0 : Int32).toInt ∧ (0 : Int32).toInt ≤ 0)
        have q2 := (by decide : (2000000000 : Int) ≤ (2000000000 : Int32).toInt ∧ (2000000000 : Int32).toInt ≤ 2000000000)
        omega
      refine lv_iload_n hx hb dX9_first_22 rfl (lv_at hl 3 rfl) ?_
      refine lv_iconst (v := 1) hx hb dX9_first_23 (by decide) ?_
      refine lv_bipush (v := 60) hx hb dX9_first_24 (by decide) ?_
      refine vp_callSi (W.runS (As := [.int a3, .int 1, .int 60]) (rest := []) ⟨hx, hb, hml, hown, hts⟩ (kX9_isWithin l dC dI a3 1 60 ) (va_cwS 3 hts gX9_first__X9_isWithin_S158 rfl rfl rfl (by decide +kernel) ⟨lel 1 1 rfl, lel 22 22 rfl⟩) ⟨pn_fb, pn_use⟩ rfl rfl hl.1 rfl (lv_room (Nat.le_of_ble_eq_true rfl)) dX9_first_26 ⟨lel 0 0 rfl, lel 0 0 rfl⟩) (fun r_55 h_r_55 => ?_)
      obtain ⟨b_r_55, nz_r_55⟩ := h_r_55
      have b_r_55 : (0 : Int) ≤ r_55.toInt ∧ r_55.toInt ≤ 1 := b_r_55
      refine lv_if_ne (tgt := 35) hx hb dX9_first_29 (by decide) (fun c_56 => ?_) (fun c_56 => ?_)
      ·
        have n_c_56 : (r_55.toInt : Int) ≠ 0 := c_ne rfl (by decide) c_56
        have b_r_55 : (1 : Int) ≤ r_55.toInt ∧ r_55.toInt ≤ 1 := r_ne1 b_r_55 (by decide : (0 : Int) ≤ (0 : Int32).toInt ∧ (0 : Int32).toInt ≤ 0) n_c_56 (by decide)
        have g_57 := nz_r_55 c_56
        have lt0_g_57 := (by decide : (1 : Int32).toInt = 1)
        have lt1_g_57 := (by decide : (60 : Int32).toInt = 60)
        have b_a3 : (1 : Int) ≤ a3.toInt ∧ a3.toInt ≤ 60 := by
          have q0 := (ti_rng a3)
          have q1 := (by decide : (1 : Int) ≤ (1 : Int32).toInt ∧ (1 : Int32).toInt ≤ 1)
          have q2 := (by decide : (60 : Int) ≤ (60 : Int32).toInt ∧ (60 : Int32).toInt ≤ 60)
          omega
        refine lv_iload_n hx hb dX9_first_35 rfl (lv_at hl 2 rfl) ?_
        obtain ⟨z_58, e_z_58⟩ : ∃ y : Int64, y = a2.toInt64 := ⟨_, rfl⟩
        refine lv_i2l (v := z_58) hx hb dX9_first_36 e_z_58.symm ?_
        obtain ⟨q_z_58, b_z_58⟩ := ti_i2l e_z_58 b_a2
        refine lv_lstore (lv' := [(4, .long z_58), (0, .ref h0), (1, .int a1), (2, .int a2), (3, .int a3)]) hx hb dX9_first_37 hl (by decide) rfl (fun ls hl => ?_)
        refine lv_iconst (v := 1) hx hb dX9_first_39 (by decide) ?_
        refine lv_istore (lv' := [(6, .int 1), (4, .long z_58), (0, .ref h0), (1, .int a1), (2, .int a2), (3, .int a3)]) hx hb dX9_first_40 hl (by decide) rfl (fun ls hl => ?_)
        refine loopP (σ := Int32 × Int64) (fun v => (61 - v.1.toInt).toNat) (fun v ls => ((1 : Int) ≤ v.1.toInt ∧ v.1.toInt ≤ 61) ∧ lv_has ls 7 [(6, .int v.1), (4, .long v.2), (0, .ref h0), (1, .int a1), (2, .int a2), (3, .int a3)]) (fun v ls hI ih_42_90 => ?_) ((1 : Int32), z_58) ⟨(show (1 : Int) ≤ (1 : Int32).toInt ∧ (1 : Int32).toInt ≤ 61 from (rg_w (by decide : (1 : Int) ≤ (1 : Int32).toInt ∧ (1 : Int32).toInt ≤ 1) (by decide) (by decide))), lv_sub hl [0, 1, 2, 3, 4, 5] rfl⟩
        obtain ⟨y_65, y_66⟩ := v
        obtain ⟨b_y_65, hl⟩ := hI
        have b_y_65 : (1 : Int) ≤ y_65.toInt ∧ y_65.toInt ≤ 61 := b_y_65
        have hl : lv_has ls 7 [(6, .int y_65), (4, .long y_66), (0, .ref h0), (1, .int a1), (2, .int a2), (3, .int a3)] := hl
        refine lv_iload hx hb dX9_first_42 (lv_at hl 0 rfl) ?_
        refine lv_iload_n hx hb dX9_first_44 rfl (lv_at hl 5 rfl) ?_
        refine lv_icmp_gt (tgt := 87) hx hb dX9_first_45 (by decide) (fun c_91 => ?_) (fun c_91 => ?_)
        ·
          have n_c_91 : (a3.toInt : Int) < y_65.toInt := c_gt rfl rfl c_91
          have b_y_65 : (2 : Int) ≤ y_65.toInt ∧ y_65.toInt ≤ 61 := r_lt2 b_a3 b_y_65 n_c_91 (by decide)
          refine lv_iconst (v := (-1)) hx hb dX9_first_87 (by decide) ?_
          exact W.iret (v := (-1)) hx hb hr (fun t ht hW => ⟨(-1), rfl, (rg_w (by decide : (-1 : Int) ≤ ((-1) : Int32).toInt ∧ ((-1) : Int32).toInt ≤ -1) (by decide) (by decide)), ht⟩) t_nil dX9_first_88
        ·
          have n_c_91 : (y_65.toInt : Int) ≤ a3.toInt := c_ngt rfl rfl c_91
          have b_y_65 : (1 : Int) ≤ y_65.toInt ∧ y_65.toInt ≤ 60 := r_le1 b_y_65 b_a3 n_c_91 (by decide)
          refine lv_lload hx hb dX9_first_48 (lv_at hl 1 rfl) ?_
          refine vp_callSl (W.runS (As := [.long y_66]) (rest := []) ⟨hx, hb, hml, hown, hts⟩ (kX9_stirred l dC dI y_66 ) (va_cwS 1 hts gX9_first__X9_stirred_S258 rfl rfl rfl (by decide +kernel) ⟨lel 1 1 rfl, lel 21 22 rfl⟩) ⟨pn_fb, pn_use⟩ rfl rfl hl.1 rfl (lv_room (Nat.le_of_ble_eq_true rfl)) dX9_first_50 ⟨lel 0 0 rfl, lel 0 0 rfl⟩) (fun r_92 h_r_92 => ?_)
          refine lv_lstore (lv' := [(4, .long r_92), (6, .int y_65), (0, .ref h0), (1, .int a1), (2, .int a2), (3, .int a3)]) hx hb dX9_first_53 hl (by decide) rfl (fun ls hl => ?_)
          refine lv_aload_n hx hb dX9_first_55 rfl (lv_at hl 2 rfl) ?_
          refine va_get (D := (dC, dI)) (ci := 7) (v := .ref cu) (C := RX9) (T := TX9) (N := 10) hx hb hts iX9_first_X9 hown hK hP 0 rfl rfl 3 (by decide) (hts (.fieldLink RX9 35 "LuckyTicket" "current" "LLuckyTicket$Roll;") (List.mem_of_getElem? (i := 1) rfl)) (fun _ h9 => h9) rfl dX9_first_56 ?_
          refine lv_iload_n hx hb dX9_first_59 rfl (lv_at hl 3 rfl) ?_
          refine lv_lload hx hb dX9_first_60 (lv_at hl 0 rfl) ?_
          refine lv_aload_n hx hb dX9_first_62 rfl (lv_at hl 2 rfl) ?_
          refine va_get (D := (dC, dI)) (ci := 7) (v := .ref cu) (C := RX9) (T := TX9) (N := 10) hx hb hts iX9_first_X9 hown hK hP 0 rfl rfl 3 (by decide) (hts (.fieldLink RX9 35 "LuckyTicket" "current" "LLuckyTicket$Roll;") (List.mem_of_getElem? (i := 1) rfl)) (fun _ h9 => h9) rfl dX9_first_63 ?_
          refine va_getN (own := RX9) (index := 155) (ref := RX2) (host := RX9) (D := (dC, dI)) (ci := 1) (v := .int tk) (C := RX2) (T := TX2) (N := 7) hx hb hts iX9_first_X2 hown hK hP 1 rfl rfl 2 (by decide) (va_Nw.use rfl (hN _ (List.mem_of_getElem? (i := 18) rfl))) (fun _ h9 => h9) rfl dX9_first_66 ?_
          refine vp_callSi (W.runS (As := [.long r_92, .int tk]) (rest := [.int a1, .ref cu]) ⟨hx, hb, hml, hown, hts⟩ (kX9_drawOf l dC dI r_92 tk ) (va_cwS 2 hts gX9_first__X9_drawOf_S262 rfl rfl rfl (by decide +kernel) ⟨lel 1 1 rfl, lel 22 22 rfl⟩) ⟨pn_fb, pn_use⟩ rfl rfl hl.1 rfl (lv_room (Nat.le_of_ble_eq_true rfl)) dX9_first_69 ⟨lel 0 0 rfl, lel 0 0 rfl⟩) (fun r_93 h_r_93 => ?_)
          refine vp_callSi (W.runV (As := [.int a1, .int r_93]) (rest := []) ⟨hx, hb, hml, hown, hts⟩ (kX2_isLucky l dC dI cu ln bs tk lw li fa lu cL nl fl a1 r_93 b_ln b_bs b_tk b_lw (by omega)) (cwV 2 hts gX9_first__X2_isLucky_V175 rfl rfl rfl (by decide +kernel) ⟨lel 1 1 rfl, lel 22 22 rfl⟩) ⟨pw_fb, va_recv hK hP (ci := 1) (q0 := 1) rfl rfl, (pw_use hP hK hN [1, 2] rfl [0] rfl)⟩ rfl rfl hl.1 rfl (lv_room (Nat.le_of_ble_eq_true rfl)) dX9_first_72 ⟨lel 0 0 rfl, lel 0 0 rfl⟩) (fun r_94 h_r_94 => ?_)
          have b_r_94 := h_r_94
          have b_r_94 : (0 : Int) ≤ r_94.toInt ∧ r_94.toInt ≤ 1 := b_r_94
          refine lv_if_eq (tgt := 81) hx hb dX9_first_75 (by decide) (fun c_95 => ?_) (fun c_95 => ?_)
          ·
            have n_c_95 : (r_94.toInt : Int) = 0 := c_eq rfl (by decide) c_95
            have b_r_94 : (0 : Int) ≤ r_94.toInt ∧ r_94.toInt ≤ 0 := r_eq1 b_r_94 (by decide : (0 : Int) ≤ (0 : Int32).toInt ∧ (0 : Int32).toInt ≤ 0) n_c_95 (by decide)
            obtain ⟨z_96, e_z_96⟩ : ∃ y : Int32, y = y_65 + 1 := ⟨_, rfl⟩
            refine lv_iinc (v := z_96) (lv' := [(6, .int z_96), (4, .long r_92), (0, .ref h0), (1, .int a1), (2, .int a2), (3, .int a3)]) hx hb dX9_first_81 hl (k := 1) rfl (by rw [e_z_96]; rfl) (by decide) rfl (fun ls hl => ?_)
            obtain ⟨q_z_96, b_z_96⟩ := ti_add (lo := 2) (hi := 61) e_z_96 rfl (by decide : (1 : Int32).toInt = 1) b_y_65 (by decide : (1 : Int) ≤ (1 : Int32).toInt ∧ (1 : Int32).toInt ≤ 1) (by decide)
            refine lv_goto (tgt := 42) hx hb dX9_first_84 (by decide) ?_
            exact ih_42_90 (z_96, r_92) _ ⟨(show (1 : Int) ≤ z_96.toInt ∧ z_96.toInt ≤ 61 from (rg_w b_z_96 (by decide) (by decide))), lv_sub hl [0, 1, 2, 3, 4, 5] rfl⟩ (show (61 - z_96.toInt).toNat < (61 - y_65.toInt).toNat by omega)
          ·
            have n_c_95 : (r_94.toInt : Int) ≠ 0 := c_ne rfl (by decide) c_95
            have b_r_94 : (1 : Int) ≤ r_94.toInt ∧ r_94.toInt ≤ 1 := r_ne1 b_r_94 (by decide : (0 : Int) ≤ (0 : Int32).toInt ∧ (0 : Int32).toInt ≤ 0) n_c_95 (by decide)
            refine lv_iload hx hb dX9_first_78 (lv_at hl 1 rfl) ?_
            exact W.iret (v := y_65) hx hb hr (fun t ht hW => ⟨y_65, rfl, (rg_w b_y_65 (by decide) (by decide)), ht⟩) t_nil dX9_first_80
      ·
        have n_c_56 : (r_55.toInt : Int) = 0 := c_eq rfl (by decide) c_56
        have b_r_55 : (0 : Int) ≤ r_55.toInt ∧ r_55.toInt ≤ 0 := r_eq1 b_r_55 (by decide : (0 : Int) ≤ (0 : Int32).toInt ∧ (0 : Int32).toInt ≤ 0) n_c_56 (by decide)
        refine lv_bipush (v := (-2)) hx hb dX9_first_32 (by decide) ?_
        exact W.iret (v := (-2)) hx hb hr (fun t ht hW => ⟨(-2), rfl, (rg_w (by decide : (-2 : Int) ≤ ((-2) : Int32).toInt ∧ ((-2) : Int32).toInt ≤ -2) (by decide) (by decide)), ht⟩) t_nil dX9_first_34
theorem dX9_seldom_0 : decode cX9_seldom 0 = .ok (.aload_n 0, 1) := by decide +kernel
theorem dX9_seldom_1 : decode cX9_seldom 1 = .ok (.getfield 35, 3) := by decide +kernel
theorem dX9_seldom_4 : decode cX9_seldom 4 = .ok (.iload_n 1, 1) := by decide +kernel
theorem dX9_seldom_5 : decode cX9_seldom 5 = .ok (.invokevirtual 149, 3) := by decide +kernel
theorem dX9_seldom_8 : decode cX9_seldom 8 = .ok (.ifCond .eq 21, 3) := by decide +kernel
theorem dX9_seldom_11 : decode cX9_seldom 11 = .ok (.iload_n 2, 1) := by decide +kernel
theorem dX9_seldom_12 : decode cX9_seldom 12 = .ok (.iconst 1, 1) := by decide +kernel
theorem dX9_seldom_13 : decode cX9_seldom 13 = .ok (.iconst 4, 1) := by decide +kernel
theorem dX9_seldom_14 : decode cX9_seldom 14 = .ok (.invokestatic 158, 3) := by decide +kernel
theorem dX9_seldom_17 : decode cX9_seldom 17 = .ok (.ifCond .eq 12, 3) := by decide +kernel
theorem dX9_seldom_20 : decode cX9_seldom 20 = .ok (.iload_n 3, 1) := by decide +kernel
theorem dX9_seldom_21 : decode cX9_seldom 21 = .ok (.iconst 0, 1) := by decide +kernel
theorem dX9_seldom_22 : decode cX9_seldom 22 = .ok (.iconst 4, 1) := by decide +kernel
theorem dX9_seldom_23 : decode cX9_seldom 23 = .ok (.invokestatic 158, 3) := by decide +kernel
theorem dX9_seldom_26 : decode cX9_seldom 26 = .ok (.ifCond .ne 7, 3) := by decide +kernel
theorem dX9_seldom_29 : decode cX9_seldom 29 = .ok (.ldc2_w 265, 3) := by decide +kernel
theorem dX9_seldom_32 : decode cX9_seldom 32 = .ok (.lreturn, 1) := by decide +kernel
theorem dX9_seldom_33 : decode cX9_seldom 33 = .ok (.aload_n 0, 1) := by decide +kernel
theorem dX9_seldom_34 : decode cX9_seldom 34 = .ok (.getfield 35, 3) := by decide +kernel
theorem dX9_seldom_37 : decode cX9_seldom 37 = .ok (.iload_n 1, 1) := by decide +kernel
theorem dX9_seldom_38 : decode cX9_seldom 38 = .ok (.invokevirtual 152, 3) := by decide +kernel
theorem dX9_seldom_41 : decode cX9_seldom 41 = .ok (.istore 4, 2) := by decide +kernel
theorem dX9_seldom_43 : decode cX9_seldom 43 = .ok (.lconst 0, 1) := by decide +kernel
theorem dX9_seldom_44 : decode cX9_seldom 44 = .ok (.lstore 5, 2) := by decide +kernel
theorem dX9_seldom_46 : decode cX9_seldom 46 = .ok (.iconst 0, 1) := by decide +kernel
theorem dX9_seldom_47 : decode cX9_seldom 47 = .ok (.istore 7, 2) := by decide +kernel
theorem dX9_seldom_49 : decode cX9_seldom 49 = .ok (.iload 7, 2) := by decide +kernel
theorem dX9_seldom_51 : decode cX9_seldom 51 = .ok (.iload_n 3, 1) := by decide +kernel
theorem dX9_seldom_52 : decode cX9_seldom 52 = .ok (.if_icmp .gt 45, 3) := by decide +kernel
theorem dX9_seldom_55 : decode cX9_seldom 55 = .ok (.iload 7, 2) := by decide +kernel
theorem dX9_seldom_57 : decode cX9_seldom 57 = .ok (.iload_n 2, 1) := by decide +kernel
theorem dX9_seldom_58 : decode cX9_seldom 58 = .ok (.if_icmp .gt 39, 3) := by decide +kernel
theorem dX9_seldom_61 : decode cX9_seldom 61 = .ok (.lload 5, 2) := by decide +kernel
theorem dX9_seldom_63 : decode cX9_seldom 63 = .ok (.iload 4, 2) := by decide +kernel
theorem dX9_seldom_65 : decode cX9_seldom 65 = .ok (.iload 7, 2) := by decide +kernel
theorem dX9_seldom_67 : decode cX9_seldom 67 = .ok (.invokestatic 267, 3) := by decide +kernel
theorem dX9_seldom_70 : decode cX9_seldom 70 = .ok (.aload_n 0, 1) := by decide +kernel
theorem dX9_seldom_71 : decode cX9_seldom 71 = .ok (.getfield 35, 3) := by decide +kernel
theorem dX9_seldom_74 : decode cX9_seldom 74 = .ok (.getfield 155, 3) := by decide +kernel
theorem dX9_seldom_77 : decode cX9_seldom 77 = .ok (.iload 4, 2) := by decide +kernel
theorem dX9_seldom_79 : decode cX9_seldom 79 = .ok (.isub, 1) := by decide +kernel
theorem dX9_seldom_80 : decode cX9_seldom 80 = .ok (.iload_n 2, 1) := by decide +kernel
theorem dX9_seldom_81 : decode cX9_seldom 81 = .ok (.iload 7, 2) := by decide +kernel
theorem dX9_seldom_83 : decode cX9_seldom 83 = .ok (.isub, 1) := by decide +kernel
theorem dX9_seldom_84 : decode cX9_seldom 84 = .ok (.invokestatic 267, 3) := by decide +kernel
theorem dX9_seldom_87 : decode cX9_seldom 87 = .ok (.lmul, 1) := by decide +kernel
theorem dX9_seldom_88 : decode cX9_seldom 88 = .ok (.ladd, 1) := by decide +kernel
theorem dX9_seldom_89 : decode cX9_seldom 89 = .ok (.lstore 5, 2) := by decide +kernel
theorem dX9_seldom_91 : decode cX9_seldom 91 = .ok (.iinc 7 1, 3) := by decide +kernel
theorem dX9_seldom_94 : decode cX9_seldom 94 = .ok (.goto (-45), 3) := by decide +kernel
theorem dX9_seldom_97 : decode cX9_seldom 97 = .ok (.lload 5, 2) := by decide +kernel
theorem dX9_seldom_99 : decode cX9_seldom 99 = .ok (.lreturn, 1) := by decide +kernel
def uX9_seldom : List Cond := .code yX9_seldom cX9_seldom 8 (some .long) :: ([.fieldLink RX9 35 "LuckyTicket" "current" "LLuckyTicket$Roll;", .methodLink RX9 149 yX2_hasLaw, .instanceMethod yX2_hasLaw, .selects RX2 yX2_hasLaw yX2_hasLaw, .initialized RX2, .code yX2_hasLaw cX2_hasLaw 2 (some .boolean), .fieldLink RX2 33 "LuckyTicket$Roll" "laws" "I", .constantLong RX9 265 (-2), .methodLink RX9 158 yX9_isWithin, .static yX9_isWithin, .initialized RX9, .code yX9_isWithin cX9_isWithin 3 (some .boolean), .methodLink RX9 152 yX2_total, .instanceMethod yX2_total, .selects RX2 yX2_total yX2_total, .code yX2_total cX2_total 2 (some .int), .fieldLink RX2 42 "LuckyTicket$Roll" "tickets" "I", .methodLink RX2 71 yX2_tally, .instanceMethod yX2_tally, .selects RX2 yX2_tally yX2_tally, .code yX2_tally cX2_tally 7 (some .int), .methodLink RX2 78 yJ9_min_7cf53, .static yJ9_min_7cf53, .initialized RJ9, .code yJ9_min_7cf53 cJ9_min_7cf53 2 (some .int), .methodLink RX2 83 yJ9_max_7cf53, .static yJ9_max_7cf53, .code yJ9_max_7cf53 cJ9_max_7cf53 2 (some .int), .fieldLink RX2 15 "LuckyTicket$Roll" "luck" "[I", .methodLink RX9 267 yX9_choices, .static yX9_choices, .code yX9_choices cX9_choices 5 (some .long), .methodLink RX9 357 yJ9_max_7cf53] ++ wsX90 ++ wsX20)
theorem iX9_seldom_X9 : ∀ w ∈ wsX90, w ∈ uX9_seldom := fun _ h => List.mem_cons_of_mem _ (List.mem_append_left _ (List.mem_append_right _ h))
theorem iX9_seldom_X2 : ∀ w ∈ wsX20, w ∈ uX9_seldom := fun _ h => List.mem_cons_of_mem _ (List.mem_append_right _ h)
set_option maxRecDepth 20000 in
theorem gX9_seldom__X2_hasLaw_V149 : GoodIn uX9_seldom (wsV RX9 149 RX2 yX2_hasLaw uX2_hasLaw) := goodIn_p _ [6] rfl (by decide +kernel)
set_option maxRecDepth 20000 in
theorem gX9_seldom__X9_isWithin_S158 : GoodIn uX9_seldom (va_wsS RX9 158 yX9_isWithin uX9_isWithin) := goodIn_p _ [12] rfl (by decide +kernel)
set_option maxRecDepth 20000 in
theorem gX9_seldom__X2_total_V152 : GoodIn uX9_seldom (wsV RX9 152 RX2 yX2_total uX2_total) := goodIn_p _ [16, 21, 25, 28] rfl (by decide +kernel)
set_option maxRecDepth 20000 in
theorem gX9_seldom__X9_choices_S267 : GoodIn uX9_seldom (va_wsS RX9 267 yX9_choices uX9_choices) := goodIn_p _ [32, 28] rfl (by decide +kernel)
set_option maxHeartbeats 4000000 in
set_option maxRecDepth 100000 in
theorem kX9_seldom (l : Launch) (dC : Nat → ClassId) (dI : Nat → Nat → Nat) (h0 : Nat) (tp : Nat) (sc : Nat) (rd : Nat) (cu : Nat) (im : Nat) (ig : Nat) (sl : Nat) (se : Nat) (sm : Nat) (fc : Nat) (ln : Int32) (bs : Int32) (tk : Int32) (lw : Int32) (li : Int32) (fa : Nat) (lu : Nat) (cL : ClassId) (nl : Nat) (fl : Nat → Int32) (a1 : Int32) (a2 : Int32) (a3 : Int32) (b_ln : (0 : Int) ≤ ln.toInt ∧ ln.toInt ≤ 12) (b_bs : (0 : Int) ≤ bs.toInt ∧ bs.toInt ≤ 16) (b_tk : (0 : Int) ≤ tk.toInt ∧ tk.toInt ≤ 20000) (b_lw : (0 : Int) ≤ lw.toInt ∧ lw.toInt ≤ 9) (hl1 : tk.toInt ≤ (nl : Int)) : Met l yX9_seldom uX9_seldom ({ frames := 3, cells := 0, slots := 0, locals := 60 }) (va_Pc [.ref h0, .int a1, .int a2, .int a3] (pw (dC, dI) vwCl [(h0, .inr (7, [.ref tp, .ref sc, .ref rd, .ref cu, .ref im, .ref ig, .ref sl, .ref se, .ref sm, .ref fc])), (cu, .inr (1, [.int ln, .int bs, .int tk, .int lw, .int li, .ref fa, .ref lu])), (lu, .inl (cL, nl, .inl fl))] [(cL, .int)])) (vp_Sl (fun r => True)) 0 0 (fun _ => False) := by
  refine Met.ofW (cc := cX9_seldom) (maxL := 8) (ret := (some .long)) (by decide) rfl ?_
  intro p e s m args below meth c s₁ B hml hv
  obtain ⟨rfl, hP, hK, hN⟩ := hv
  have hx := B.exec
  have hb := B.bytes
  have hr := B.returns
  have hts := atoms_spec (ws := uX9_seldom) B.pre
  have hown : s.vm.findClass RX9 = some m.cls := findClass_of_methodNamed B.named
  have hlocks := B.notSynchronized
  have hl := lv_entry ([.ref h0, .int a1, .int a2, .int a3]) (n := 8) (Nat.le_of_ble_eq_true rfl)
  rw [lg_entry_eq]
  generalize (lg_sl ([.ref h0, .int a1, .int a2, .int a3]) ++ List.replicate (8 - (lg_sl ([.ref h0, .int a1, .int a2, .int a3])).length) Slot.unset).toArray = ls at hl ⊢
  have hl : lv_has ls 8 [(0, .ref h0), (1, .int a1), (2, .int a2), (3, .int a3)] := hl
  refine lv_aload_n hx hb dX9_seldom_0 rfl (lv_at hl 0 rfl) ?_
  refine va_get (D := (dC, dI)) (ci := 7) (v := .ref cu) (C := RX9) (T := TX9) (N := 10) hx hb hts iX9_seldom_X9 hown hK hP 0 rfl rfl 3 (by decide) (hts (.fieldLink RX9 35 "LuckyTicket" "current" "LLuckyTicket$Roll;") (List.mem_of_getElem? (i := 1) rfl)) (fun _ h9 => h9) rfl dX9_seldom_1 ?_
  refine lv_iload_n hx hb dX9_seldom_4 rfl (lv_at hl 1 rfl) ?_
  refine vp_callSi (W.runV (As := [.int a1]) (rest := []) ⟨hx, hb, hml, hown, hts⟩ (kX2_hasLaw l dC dI cu ln bs tk lw li fa lu a1 b_ln b_bs b_tk b_lw) (cwV 1 hts gX9_seldom__X2_hasLaw_V149 rfl rfl rfl (by decide +kernel) ⟨lel 1 3 rfl, lel 21 60 rfl⟩) ⟨pw_fb, va_recv hK hP (ci := 1) (q0 := 1) rfl rfl, (pw_use hP hK hN [1] rfl [] rfl)⟩ rfl rfl hl.1 rfl (lv_room (Nat.le_of_ble_eq_true rfl)) dX9_seldom_5 ⟨lel 0 0 rfl, lel 0 0 rfl⟩) (fun r_67 h_r_67 => ?_)
  obtain ⟨b_r_67, nz_r_67⟩ := h_r_67
  have b_r_67 : (0 : Int) ≤ r_67.toInt ∧ r_67.toInt ≤ 1 := b_r_67
  refine lv_if_eq (tgt := 29) hx hb dX9_seldom_8 (by decide) (fun c_68 => ?_) (fun c_68 => ?_)
  ·
    have n_c_68 : (r_67.toInt : Int) = 0 := c_eq rfl (by decide) c_68
    have b_r_67 : (0 : Int) ≤ r_67.toInt ∧ r_67.toInt ≤ 0 := r_eq1 b_r_67 (by decide : (0 : Int) ≤ (0 : Int32).toInt ∧ (0 : Int32).toInt ≤ 0) n_c_68 (by decide)
    refine lv_ldc2 (v := (-2)) hx hb hown (hts (.constantLong RX9 265 (-2)) (List.mem_of_getElem? (i := 8) rfl)) dX9_seldom_29 ?_
    exact W.lret (v := (-2)) hx hb hr (fun t ht hW => ⟨(-2), rfl, trivial, ht⟩) t_nil dX9_seldom_32
  ·
    have n_c_68 : (r_67.toInt : Int) ≠ 0 := c_ne rfl (by decide) c_68
    have b_r_67 : (1 : Int) ≤ r_67.toInt ∧ r_67.toInt ≤ 1 := r_ne1 b_r_67 (by decide : (0 : Int) ≤ (0 : Int32).toInt ∧ (0 : Int32).toInt ≤ 0) n_c_68 (by decide)
    obtain ⟨b_a1, g_69⟩ := nz_r_67 c_68
    refine lv_iload_n hx hb dX9_seldom_11 rfl (lv_at hl 2 rfl) ?_
    refine lv_iconst (v := 1) hx hb dX9_seldom_12 (by decide) ?_
    refine lv_iconst (v := 4) hx hb dX9_seldom_13 (by decide) ?_
    refine vp_callSi (W.runS (As := [.int a2, .int 1, .int 4]) (rest := []) ⟨hx, hb, hml, hown, hts⟩ (kX9_isWithin l dC dI a2 1 4 ) (va_cwS 3 hts gX9_seldom__X9_isWithin_S158 rfl rfl rfl (by decide +kernel) ⟨lel 1 3 rfl, lel 22 60 rfl⟩) ⟨pn_fb, pn_use⟩ rfl rfl hl.1 rfl (lv_room (Nat.le_of_ble_eq_true rfl)) dX9_seldom_14 ⟨lel 0 0 rfl, lel 0 0 rfl⟩) (fun r_70 h_r_70 => ?_)
    obtain ⟨b_r_70, nz_r_70⟩ := h_r_70
    have b_r_70 : (0 : Int) ≤ r_70.toInt ∧ r_70.toInt ≤ 1 := b_r_70
    refine lv_if_eq (tgt := 29) hx hb dX9_seldom_17 (by decide) (fun c_71 => ?_) (fun c_71 => ?_)
    ·
      have n_c_71 : (r_70.toInt : Int) = 0 := c_eq rfl (by decide) c_71
      have b_r_70 : (0 : Int) ≤ r_70.toInt ∧ r_70.toInt ≤ 0 := r_eq1 b_r_70 (by decide : (0 : Int) ≤ (0 : Int32).toInt ∧ (0 : Int32).toInt ≤ 0) n_c_71 (by decide)
      refine lv_ldc2 (v := (-2)) hx hb hown (hts (.constantLong RX9 265 (-2)) (List.mem_of_getElem? (i := 8) rfl)) dX9_seldom_29 ?_
      exact W.lret (v := (-2)) hx hb hr (fun t ht hW => ⟨(-2), rfl, trivial, ht⟩) t_nil dX9_seldom_32
    ·
      have n_c_71 : (r_70.toInt : Int) ≠ 0 := c_ne rfl (by decide) c_71
      have b_r_70 : (1 : Int) ≤ r_70.toInt ∧ r_70.toInt ≤ 1 := r_ne1 b_r_70 (by decide : (0 : Int) ≤ (0 : Int32).toInt ∧ (0 : Int32).toInt ≤ 0) n_c_71 (by decide)
      have g_72 := nz_r_70 c_71
      have lt0_g_72 := (by decide : (1 : Int32).toInt = 1)
      have lt1_g_72 := (by decide : (4 : Int32).toInt = 4)
      have b_a2 : (1 : Int) ≤ a2.toInt ∧ a2.toInt ≤ 4 := by
        have q0 := (ti_rng a2)
        have q1 := (by decide : (1 : Int) ≤ (1 : Int32).toInt ∧ (1 : Int32).toInt ≤ 1)
        have q2 := (by decide : (4 : Int) ≤ (4 : Int32).toInt ∧ (4 : Int32).toInt ≤ 4)
        omega
      refine lv_iload_n hx hb dX9_seldom_20 rfl (lv_at hl 3 rfl) ?_
      refine lv_iconst (v := 0) hx hb dX9_seldom_21 (by decide) ?_
      refine lv_iconst (v := 4) hx hb dX9_seldom_22 (by decide) ?_
      refine vp_callSi (W.runS (As := [.int a3, .int 0, .int 4]) (rest := []) ⟨hx, hb, hml, hown, hts⟩ (kX9_isWithin l dC dI a3 0 4 ) (va_cwS 3 hts gX9_seldom__X9_isWithin_S158 rfl rfl rfl (by decide +kernel) ⟨lel 1 3 rfl, lel 22 60 rfl⟩) ⟨pn_fb, pn_use⟩ rfl rfl hl.1 rfl (lv_room (Nat.le_of_ble_eq_true rfl)) dX9_seldom_23 ⟨lel 0 0 rfl, lel 0 0 rfl⟩) (fun r_73 h_r_73 => ?_)
      obtain ⟨b_r_73, nz_r_73⟩ := h_r_73
      have b_r_73 : (0 : Int) ≤ r_73.toInt ∧ r_73.toInt ≤ 1 := b_r_73
      refine lv_if_ne (tgt := 33) hx hb dX9_seldom_26 (by decide) (fun c_74 => ?_) (fun c_74 => ?_)
      ·
        have n_c_74 : (r_73.toInt : Int) ≠ 0 := c_ne rfl (by decide) c_74
        have b_r_73 : (1 : Int) ≤ r_73.toInt ∧ r_73.toInt ≤ 1 := r_ne1 b_r_73 (by decide : (0 : Int) ≤ (0 : Int32).toInt ∧ (0 : Int32).toInt ≤ 0) n_c_74 (by decide)
        have g_75 := nz_r_73 c_74
        have lt0_g_75 := (by decide : (0 : Int32).toInt = 0)
        have lt1_g_75 := (by decide : (4 : Int32).toInt = 4)
        have b_a3 : (0 : Int) ≤ a3.toInt ∧ a3.toInt ≤ 4 := by
          have q0 := (ti_rng a3)
          have q1 := (by decide : (0 : Int) ≤ (0 : Int32).toInt ∧ (0 : Int32).toInt ≤ 0)
          have q2 := (by decide : (4 : Int) ≤ (4 : Int32).toInt ∧ (4 : Int32).toInt ≤ 4)
          omega
        refine lv_aload_n hx hb dX9_seldom_33 rfl (lv_at hl 0 rfl) ?_
        refine va_get (D := (dC, dI)) (ci := 7) (v := .ref cu) (C := RX9) (T := TX9) (N := 10) hx hb hts iX9_seldom_X9 hown hK hP 0 rfl rfl 3 (by decide) (hts (.fieldLink RX9 35 "LuckyTicket" "current" "LLuckyTicket$Roll;") (List.mem_of_getElem? (i := 1) rfl)) (fun _ h9 => h9) rfl dX9_seldom_34 ?_
        refine lv_iload_n hx hb dX9_seldom_37 rfl (lv_at hl 1 rfl) ?_
        refine vp_callSi (W.runV (As := [.int a1]) (rest := []) ⟨hx, hb, hml, hown, hts⟩ (kX2_total l dC dI cu ln bs tk lw li fa lu cL nl fl a1 b_ln b_bs b_tk b_lw (by omega)) (cwV 1 hts gX9_seldom__X2_total_V152 rfl rfl rfl (by decide +kernel) ⟨lel 3 3 rfl, lel 60 60 rfl⟩) ⟨pw_fb, va_recv hK hP (ci := 1) (q0 := 1) rfl rfl, (pw_use hP hK hN [1, 2] rfl [0] rfl)⟩ rfl rfl hl.1 rfl (lv_room (Nat.le_of_ble_eq_true rfl)) dX9_seldom_38 ⟨lel 0 0 rfl, lel 0 0 rfl⟩) (fun r_76 h_r_76 => ?_)
        refine lv_istore (lv' := [(4, .int r_76), (0, .ref h0), (1, .int a1), (2, .int a2), (3, .int a3)]) hx hb dX9_seldom_41 hl (by decide) rfl (fun ls hl => ?_)
        refine lv_lconst (v := 0) hx hb dX9_seldom_43 (by decide) ?_
        refine lv_lstore (lv' := [(5, .long 0), (4, .int r_76), (0, .ref h0), (1, .int a1), (2, .int a2), (3, .int a3)]) hx hb dX9_seldom_44 hl (by decide) rfl (fun ls hl => ?_)
        refine lv_iconst (v := 0) hx hb dX9_seldom_46 (by decide) ?_
        refine lv_istore (lv' := [(7, .int 0), (5, .long 0), (4, .int r_76), (0, .ref h0), (1, .int a1), (2, .int a2), (3, .int a3)]) hx hb dX9_seldom_47 hl (by decide) rfl (fun ls hl => ?_)
        refine loopP (σ := Int32 × Int64) (fun v => (5 - v.1.toInt).toNat) (fun v ls => ((0 : Int) ≤ v.1.toInt ∧ v.1.toInt ≤ 5) ∧ lv_has ls 8 [(7, .int v.1), (5, .long v.2), (4, .int r_76), (0, .ref h0), (1, .int a1), (2, .int a2), (3, .int a3)]) (fun v ls hI ih_49_123 => ?_) ((0 : Int32), (0 : Int64)) ⟨(show (0 : Int) ≤ (0 : Int32).toInt ∧ (0 : Int32).toInt ≤ 5 from (rg_w (by decide : (0 : Int) ≤ (0 : Int32).toInt ∧ (0 : Int32).toInt ≤ 0) (by decide) (by decide))), lv_sub hl [0, 1, 2, 3, 4, 5, 6] rfl⟩
        obtain ⟨y_86, y_87⟩ := v
        obtain ⟨b_y_86, hl⟩ := hI
        have b_y_86 : (0 : Int) ≤ y_86.toInt ∧ y_86.toInt ≤ 5 := b_y_86
        have hl : lv_has ls 8 [(7, .int y_86), (5, .long y_87), (4, .int r_76), (0, .ref h0), (1, .int a1), (2, .int a2), (3, .int a3)] := hl
        refine lv_iload hx hb dX9_seldom_49 (lv_at hl 0 rfl) ?_
        refine lv_iload_n hx hb dX9_seldom_51 rfl (lv_at hl 6 rfl) ?_
        refine lv_icmp_gt (tgt := 97) hx hb dX9_seldom_52 (by decide) (fun c_124 => ?_) (fun c_124 => ?_)
        ·
          have n_c_124 : (a3.toInt : Int) < y_86.toInt := c_gt rfl rfl c_124
          have b_y_86 : (1 : Int) ≤ y_86.toInt ∧ y_86.toInt ≤ 5 := r_lt2 b_a3 b_y_86 n_c_124 (by decide)
          refine lv_lload hx hb dX9_seldom_97 (lv_at hl 1 rfl) ?_
          exact W.lret (v := y_87) hx hb hr (fun t ht hW => ⟨y_87, rfl, trivial, ht⟩) t_nil dX9_seldom_99
        ·
          have n_c_124 : (y_86.toInt : Int) ≤ a3.toInt := c_ngt rfl rfl c_124
          have b_y_86 : (0 : Int) ≤ y_86.toInt ∧ y_86.toInt ≤ 4 := r_le1 b_y_86 b_a3 n_c_124 (by decide)
          refine lv_iload hx hb dX9_seldom_55 (lv_at hl 0 rfl) ?_
          refine lv_iload_n hx hb dX9_seldom_57 rfl (lv_at hl 5 rfl) ?_
          refine lv_icmp_gt (tgt := 97) hx hb dX9_seldom_58 (by decide) (fun c_125 => ?_) (fun c_125 => ?_)
          ·
            have n_c_125 : (a2.toInt : Int) < y_86.toInt := c_gt rfl rfl c_125
            have b_a2 : (1 : Int) ≤ a2.toInt ∧ a2.toInt ≤ 3 := r_lt1 b_a2 b_y_86 n_c_125 (by decide)
            have b_y_86 : (2 : Int) ≤ y_86.toInt ∧ y_86.toInt ≤ 4 := r_lt2 b_a2 b_y_86 n_c_125 (by decide)
            refine lv_lload hx hb dX9_seldom_97 (lv_at hl 1 rfl) ?_
            exact W.lret (v := y_87) hx hb hr (fun t ht hW => ⟨y_87, rfl, trivial, ht⟩) t_nil dX9_seldom_99
          ·
            have n_c_125 : (y_86.toInt : Int) ≤ a2.toInt := c_ngt rfl rfl c_125
            refine lv_lload hx hb dX9_seldom_61 (lv_at hl 1 rfl) ?_
            refine lv_iload hx hb dX9_seldom_63 (lv_at hl 2 rfl) ?_
            refine lv_iload hx hb dX9_seldom_65 (lv_at hl 0 rfl) ?_
            refine vp_callSl (W.runS (As := [.int r_76, .int y_86]) (rest := [.long y_87]) ⟨hx, hb, hml, hown, hts⟩ (kX9_choices l dC dI r_76 y_86 ) (va_cwS 2 hts gX9_seldom__X9_choices_S267 rfl rfl rfl (by decide +kernel) ⟨lel 2 3 rfl, lel 39 60 rfl⟩) ⟨pn_fb, pn_use⟩ rfl rfl hl.1 rfl (lv_room (Nat.le_of_ble_eq_true rfl)) dX9_seldom_67 ⟨lel 0 0 rfl, lel 0 0 rfl⟩) (fun r_126 h_r_126 => ?_)
            refine lv_aload_n hx hb dX9_seldom_70 rfl (lv_at hl 3 rfl) ?_
            refine va_get (D := (dC, dI)) (ci := 7) (v := .ref cu) (C := RX9) (T := TX9) (N := 10) hx hb hts iX9_seldom_X9 hown hK hP 0 rfl rfl 3 (by decide) (hts (.fieldLink RX9 35 "LuckyTicket" "current" "LLuckyTicket$Roll;") (List.mem_of_getElem? (i := 1) rfl)) (fun _ h9 => h9) rfl dX9_seldom_71 ?_
            refine va_getN (own := RX9) (index := 155) (ref := RX2) (host := RX9) (D := (dC, dI)) (ci := 1) (v := .int tk) (C := RX2) (T := TX2) (N := 7) hx hb hts iX9_seldom_X2 hown hK hP 1 rfl rfl 2 (by decide) (va_Nw.use rfl (hN _ (List.mem_of_getElem? (i := 18) rfl))) (fun _ h9 => h9) rfl dX9_seldom_74 ?_
            refine lv_iload hx hb dX9_seldom_77 (lv_at hl 2 rfl) ?_
            refine lv_isub hx hb dX9_seldom_79 ?_
            refine lv_topi (fun z_127 e_z_127 => ?_)
            refine lv_iload_n hx hb dX9_seldom_80 rfl (lv_at hl 5 rfl) ?_
            refine lv_iload hx hb dX9_seldom_81 (lv_at hl 0 rfl) ?_
            refine lv_isub hx hb dX9_seldom_83 ?_
            refine lv_topi (fun z_128 e_z_128 => ?_)
            obtain ⟨q_z_128, b_z_128⟩ := ti_sub (lo := -3) (hi := 4) e_z_128 rfl rfl b_a2 b_y_86 (by decide)
            refine vp_callSl (W.runS (As := [.int z_127, .int z_128]) (rest := [.long r_126, .long y_87]) ⟨hx, hb, hml, hown, hts⟩ (kX9_choices l dC dI z_127 z_128 ) (va_cwS 2 hts gX9_seldom__X9_choices_S267 rfl rfl rfl (by decide +kernel) ⟨lel 2 3 rfl, lel 39 60 rfl⟩) ⟨pn_fb, pn_use⟩ rfl rfl hl.1 rfl (lv_room (Nat.le_of_ble_eq_true rfl)) dX9_seldom_84 ⟨lel 0 0 rfl, lel 0 0 rfl⟩) (fun r_129 h_r_129 => ?_)
            refine lv_lmul hx hb dX9_seldom_87 ?_
            refine lv_topl (fun z_130 e_z_130 => ?_)
            refine lv_ladd hx hb dX9_seldom_88 ?_
            refine lv_topl (fun z_131 e_z_131 => ?_)
            refine lv_lstore (lv' := [(5, .long z_131), (7, .int y_86), (4, .int r_76), (0, .ref h0), (1, .int a1), (2, .int a2), (3, .int a3)]) hx hb dX9_seldom_89 hl (by decide) rfl (fun ls hl => ?_)
            obtain ⟨z_132, e_z_132⟩ : ∃ y : Int32, y = y_86 + 1 := ⟨_, rfl⟩
            refine lv_iinc (v := z_132) (lv' := [(7, .int z_132), (5, .long z_131), (4, .int r_76), (0, .ref h0), (1, .int a1), (2, .int a2), (3, .int a3)]) hx hb dX9_seldom_91 hl (k := 1) rfl (by rw [e_z_132]; rfl) (by decide) rfl (fun ls hl => ?_)
            obtain ⟨q_z_132, b_z_132⟩ := ti_add (lo := 1) (hi := 5) e_z_132 rfl (by decide : (1 : Int32).toInt = 1) b_y_86 (by decide : (1 : Int) ≤ (1 : Int32).toInt ∧ (1 : Int32).toInt ≤ 1) (by decide)
            refine lv_goto (tgt := 49) hx hb dX9_seldom_94 (by decide) ?_
            exact ih_49_123 (z_132, z_131) _ ⟨(show (0 : Int) ≤ z_132.toInt ∧ z_132.toInt ≤ 5 from (rg_w b_z_132 (by decide) (by decide))), lv_sub hl [0, 1, 2, 3, 4, 5, 6] rfl⟩ (show (5 - z_132.toInt).toNat < (5 - y_86.toInt).toNat by omega)
      ·
        have n_c_74 : (r_73.toInt : Int) = 0 := c_eq rfl (by decide) c_74
        have b_r_73 : (0 : Int) ≤ r_73.toInt ∧ r_73.toInt ≤ 0 := r_eq1 b_r_73 (by decide : (0 : Int) ≤ (0 : Int32).toInt ∧ (0 : Int32).toInt ≤ 0) n_c_74 (by decide)
        refine lv_ldc2 (v := (-2)) hx hb hown (hts (.constantLong RX9 265 (-2)) (List.mem_of_getElem? (i := 8) rfl)) dX9_seldom_29 ?_
        exact W.lret (v := (-2)) hx hb hr (fun t ht hW => ⟨(-2), rfl, trivial, ht⟩) t_nil dX9_seldom_32
theorem dX9_sets_0 : decode cX9_sets 0 = .ok (.aload_n 0, 1) := by decide +kernel
theorem dX9_sets_1 : decode cX9_sets 1 = .ok (.getfield 35, 3) := by decide +kernel
theorem dX9_sets_4 : decode cX9_sets 4 = .ok (.invokevirtual 194, 3) := by decide +kernel
theorem dX9_sets_7 : decode cX9_sets 7 = .ok (.ifCond .eq 12, 3) := by decide +kernel
theorem dX9_sets_10 : decode cX9_sets 10 = .ok (.iload_n 1, 1) := by decide +kernel
theorem dX9_sets_11 : decode cX9_sets 11 = .ok (.iconst 0, 1) := by decide +kernel
theorem dX9_sets_12 : decode cX9_sets 12 = .ok (.iconst 4, 1) := by decide +kernel
theorem dX9_sets_13 : decode cX9_sets 13 = .ok (.invokestatic 158, 3) := by decide +kernel
theorem dX9_sets_16 : decode cX9_sets 16 = .ok (.ifCond .ne 7, 3) := by decide +kernel
theorem dX9_sets_19 : decode cX9_sets 19 = .ok (.ldc2_w 265, 3) := by decide +kernel
theorem dX9_sets_22 : decode cX9_sets 22 = .ok (.lreturn, 1) := by decide +kernel
theorem dX9_sets_23 : decode cX9_sets 23 = .ok (.aload_n 0, 1) := by decide +kernel
theorem dX9_sets_24 : decode cX9_sets 24 = .ok (.getfield 35, 3) := by decide +kernel
theorem dX9_sets_27 : decode cX9_sets 27 = .ok (.getfield 155, 3) := by decide +kernel
theorem dX9_sets_30 : decode cX9_sets 30 = .ok (.iload_n 1, 1) := by decide +kernel
theorem dX9_sets_31 : decode cX9_sets 31 = .ok (.invokestatic 267, 3) := by decide +kernel
theorem dX9_sets_34 : decode cX9_sets 34 = .ok (.lreturn, 1) := by decide +kernel
def uX9_sets : List Cond := .code yX9_sets cX9_sets 2 (some .long) :: ([.fieldLink RX9 35 "LuckyTicket" "current" "LLuckyTicket$Roll;", .methodLink RX9 194 yX2_stands, .instanceMethod yX2_stands, .selects RX2 yX2_stands yX2_stands, .initialized RX2, .code yX2_stands cX2_stands 1 (some .boolean), .fieldLink RX2 42 "LuckyTicket$Roll" "tickets" "I", .constantLong RX9 265 (-2), .methodLink RX9 158 yX9_isWithin, .static yX9_isWithin, .initialized RX9, .code yX9_isWithin cX9_isWithin 3 (some .boolean), .methodLink RX9 267 yX9_choices, .static yX9_choices, .code yX9_choices cX9_choices 5 (some .long), .methodLink RX9 357 yJ9_max_7cf53, .static yJ9_max_7cf53, .initialized RJ9, .code yJ9_max_7cf53 cJ9_max_7cf53 2 (some .int)] ++ wsX90 ++ wsX20)
theorem iX9_sets_X9 : ∀ w ∈ wsX90, w ∈ uX9_sets := fun _ h => List.mem_cons_of_mem _ (List.mem_append_left _ (List.mem_append_right _ h))
theorem iX9_sets_X2 : ∀ w ∈ wsX20, w ∈ uX9_sets := fun _ h => List.mem_cons_of_mem _ (List.mem_append_right _ h)
set_option maxRecDepth 20000 in
theorem gX9_sets__X2_stands_V194 : GoodIn uX9_sets (wsV RX9 194 RX2 yX2_stands uX2_stands) := goodIn_p _ [6] rfl (by decide +kernel)
set_option maxRecDepth 20000 in
theorem gX9_sets__X9_isWithin_S158 : GoodIn uX9_sets (va_wsS RX9 158 yX9_isWithin uX9_isWithin) := goodIn_p _ [12] rfl (by decide +kernel)
set_option maxRecDepth 20000 in
theorem gX9_sets__X9_choices_S267 : GoodIn uX9_sets (va_wsS RX9 267 yX9_choices uX9_choices) := goodIn_p _ [15, 19] rfl (by decide +kernel)
set_option maxHeartbeats 4000000 in
set_option maxRecDepth 100000 in
theorem kX9_sets (l : Launch) (dC : Nat → ClassId) (dI : Nat → Nat → Nat) (h0 : Nat) (tp : Nat) (sc : Nat) (rd : Nat) (cu : Nat) (im : Nat) (ig : Nat) (sl : Nat) (se : Nat) (sm : Nat) (fc : Nat) (ln : Int32) (bs : Int32) (tk : Int32) (lw : Int32) (li : Int32) (fa : Nat) (lu : Nat) (a1 : Int32) (b_ln : (0 : Int) ≤ ln.toInt ∧ ln.toInt ≤ 12) (b_bs : (0 : Int) ≤ bs.toInt ∧ bs.toInt ≤ 16) (b_tk : (0 : Int) ≤ tk.toInt ∧ tk.toInt ≤ 20000) (b_lw : (0 : Int) ≤ lw.toInt ∧ lw.toInt ≤ 9) : Met l yX9_sets uX9_sets ({ frames := 2, cells := 0, slots := 0, locals := 39 }) (va_Pc [.ref h0, .int a1] (pw (dC, dI) vwCl [(h0, .inr (7, [.ref tp, .ref sc, .ref rd, .ref cu, .ref im, .ref ig, .ref sl, .ref se, .ref sm, .ref fc])), (cu, .inr (1, [.int ln, .int bs, .int tk, .int lw, .int li, .ref fa, .ref lu]))] [])) (vp_Sl (fun r => True)) 0 0 (fun _ => False) := by
  refine Met.ofW (cc := cX9_sets) (maxL := 2) (ret := (some .long)) (by decide) rfl ?_
  intro p e s m args below meth c s₁ B hml hv
  obtain ⟨rfl, hP, hK, hN⟩ := hv
  have hx := B.exec
  have hb := B.bytes
  have hr := B.returns
  have hts := atoms_spec (ws := uX9_sets) B.pre
  have hown : s.vm.findClass RX9 = some m.cls := findClass_of_methodNamed B.named
  have hlocks := B.notSynchronized
  have hl := lv_entry ([.ref h0, .int a1]) (n := 2) (Nat.le_of_ble_eq_true rfl)
  rw [lg_entry_eq]
  generalize (lg_sl ([.ref h0, .int a1]) ++ List.replicate (2 - (lg_sl ([.ref h0, .int a1])).length) Slot.unset).toArray = ls at hl ⊢
  have hl : lv_has ls 2 [(0, .ref h0), (1, .int a1)] := hl
  refine lv_aload_n hx hb dX9_sets_0 rfl (lv_at hl 0 rfl) ?_
  refine va_get (D := (dC, dI)) (ci := 7) (v := .ref cu) (C := RX9) (T := TX9) (N := 10) hx hb hts iX9_sets_X9 hown hK hP 0 rfl rfl 3 (by decide) (hts (.fieldLink RX9 35 "LuckyTicket" "current" "LLuckyTicket$Roll;") (List.mem_of_getElem? (i := 1) rfl)) (fun _ h9 => h9) rfl dX9_sets_1 ?_
  refine vp_callSi (W.runV (As := []) (rest := []) ⟨hx, hb, hml, hown, hts⟩ (kX2_stands l dC dI cu ln bs tk lw li fa lu b_ln b_bs b_tk b_lw) (cwV 0 hts gX9_sets__X2_stands_V194 rfl rfl rfl (by decide +kernel) ⟨lel 1 2 rfl, lel 20 39 rfl⟩) ⟨pw_fb, va_recv hK hP (ci := 1) (q0 := 1) rfl rfl, (pw_use hP hK hN [1] rfl [] rfl)⟩ rfl rfl hl.1 rfl (lv_room (Nat.le_of_ble_eq_true rfl)) dX9_sets_4 ⟨lel 0 0 rfl, lel 0 0 rfl⟩) (fun r_8 h_r_8 => ?_)
  obtain ⟨b_r_8, nz_r_8⟩ := h_r_8
  have b_r_8 : (0 : Int) ≤ r_8.toInt ∧ r_8.toInt ≤ 1 := b_r_8
  refine lv_if_eq (tgt := 19) hx hb dX9_sets_7 (by decide) (fun c_9 => ?_) (fun c_9 => ?_)
  ·
    have n_c_9 : (r_8.toInt : Int) = 0 := c_eq rfl (by decide) c_9
    have b_r_8 : (0 : Int) ≤ r_8.toInt ∧ r_8.toInt ≤ 0 := r_eq1 b_r_8 (by decide : (0 : Int) ≤ (0 : Int32).toInt ∧ (0 : Int32).toInt ≤ 0) n_c_9 (by decide)
    refine lv_ldc2 (v := (-2)) hx hb hown (hts (.constantLong RX9 265 (-2)) (List.mem_of_getElem? (i := 8) rfl)) dX9_sets_19 ?_
    exact W.lret (v := (-2)) hx hb hr (fun t ht hW => ⟨(-2), rfl, trivial, ht⟩) t_nil dX9_sets_22
  ·
    have n_c_9 : (r_8.toInt : Int) ≠ 0 := c_ne rfl (by decide) c_9
    have b_r_8 : (1 : Int) ≤ r_8.toInt ∧ r_8.toInt ≤ 1 := r_ne1 b_r_8 (by decide : (0 : Int) ≤ (0 : Int32).toInt ∧ (0 : Int32).toInt ≤ 0) n_c_9 (by decide)
    have g_10 := nz_r_8 c_9
    refine lv_iload_n hx hb dX9_sets_10 rfl (lv_at hl 1 rfl) ?_
    refine lv_iconst (v := 0) hx hb dX9_sets_11 (by decide) ?_
    refine lv_iconst (v := 4) hx hb dX9_sets_12 (by decide) ?_
    refine vp_callSi (W.runS (As := [.int a1, .int 0, .int 4]) (rest := []) ⟨hx, hb, hml, hown, hts⟩ (kX9_isWithin l dC dI a1 0 4 ) (va_cwS 3 hts gX9_sets__X9_isWithin_S158 rfl rfl rfl (by decide +kernel) ⟨lel 1 2 rfl, lel 22 39 rfl⟩) ⟨pn_fb, pn_use⟩ rfl rfl hl.1 rfl (lv_room (Nat.le_of_ble_eq_true rfl)) dX9_sets_13 ⟨lel 0 0 rfl, lel 0 0 rfl⟩) (fun r_11 h_r_11 => ?_)
    obtain ⟨b_r_11, nz_r_11⟩ := h_r_11
    have b_r_11 : (0 : Int) ≤ r_11.toInt ∧ r_11.toInt ≤ 1 := b_r_11
    refine lv_if_ne (tgt := 23) hx hb dX9_sets_16 (by decide) (fun c_12 => ?_) (fun c_12 => ?_)
    ·
      have n_c_12 : (r_11.toInt : Int) ≠ 0 := c_ne rfl (by decide) c_12
      have b_r_11 : (1 : Int) ≤ r_11.toInt ∧ r_11.toInt ≤ 1 := r_ne1 b_r_11 (by decide : (0 : Int) ≤ (0 : Int32).toInt ∧ (0 : Int32).toInt ≤ 0) n_c_12 (by decide)
      have g_13 := nz_r_11 c_12
      have lt0_g_13 := (by decide : (0 : Int32).toInt = 0)
      have lt1_g_13 := (by decide : (4 : Int32).toInt = 4)
      have b_a1 : (0 : Int) ≤ a1.toInt ∧ a1.toInt ≤ 4 := by
        have q0 := (ti_rng a1)
        have q1 := (by decide : (0 : Int) ≤ (0 : Int32).toInt ∧ (0 : Int32).toInt ≤ 0)
        have q2 := (by decide : (4 : Int) ≤ (4 : Int32).toInt ∧ (4 : Int32).toInt ≤ 4)
        omega
      refine lv_aload_n hx hb dX9_sets_23 rfl (lv_at hl 0 rfl) ?_
      refine va_get (D := (dC, dI)) (ci := 7) (v := .ref cu) (C := RX9) (T := TX9) (N := 10) hx hb hts iX9_sets_X9 hown hK hP 0 rfl rfl 3 (by decide) (hts (.fieldLink RX9 35 "LuckyTicket" "current" "LLuckyTicket$Roll;") (List.mem_of_getElem? (i := 1) rfl)) (fun _ h9 => h9) rfl dX9_sets_24 ?_
      refine va_getN (own := RX9) (index := 155) (ref := RX2) (host := RX9) (D := (dC, dI)) (ci := 1) (v := .int tk) (C := RX2) (T := TX2) (N := 7) hx hb hts iX9_sets_X2 hown hK hP 1 rfl rfl 2 (by decide) (va_Nw.use rfl (hN _ (List.mem_of_getElem? (i := 18) rfl))) (fun _ h9 => h9) rfl dX9_sets_27 ?_
      refine lv_iload_n hx hb dX9_sets_30 rfl (lv_at hl 1 rfl) ?_
      refine vp_callSl (W.runS (As := [.int tk, .int a1]) (rest := []) ⟨hx, hb, hml, hown, hts⟩ (kX9_choices l dC dI tk a1 ) (va_cwS 2 hts gX9_sets__X9_choices_S267 rfl rfl rfl (by decide +kernel) ⟨lel 2 2 rfl, lel 39 39 rfl⟩) ⟨pn_fb, pn_use⟩ rfl rfl hl.1 rfl (lv_room (Nat.le_of_ble_eq_true rfl)) dX9_sets_31 ⟨lel 0 0 rfl, lel 0 0 rfl⟩) (fun r_14 h_r_14 => ?_)
      exact W.lret (v := r_14) hx hb hr (fun t ht hW => ⟨r_14, rfl, trivial, ht⟩) t_nil dX9_sets_34
    ·
      have n_c_12 : (r_11.toInt : Int) = 0 := c_eq rfl (by decide) c_12
      have b_r_11 : (0 : Int) ≤ r_11.toInt ∧ r_11.toInt ≤ 0 := r_eq1 b_r_11 (by decide : (0 : Int) ≤ (0 : Int32).toInt ∧ (0 : Int32).toInt ≤ 0) n_c_12 (by decide)
      refine lv_ldc2 (v := (-2)) hx hb hown (hts (.constantLong RX9 265 (-2)) (List.mem_of_getElem? (i := 8) rfl)) dX9_sets_19 ?_
      exact W.lret (v := (-2)) hx hb hr (fun t ht hW => ⟨(-2), rfl, trivial, ht⟩) t_nil dX9_sets_22
theorem dX9_between_0 : decode cX9_between 0 = .ok (.aload_n 0, 1) := by decide +kernel
theorem dX9_between_1 : decode cX9_between 1 = .ok (.iload_n 1, 1) := by decide +kernel
theorem dX9_between_2 : decode cX9_between 2 = .ok (.iload_n 2, 1) := by decide +kernel
theorem dX9_between_3 : decode cX9_between 3 = .ok (.invokevirtual 137, 3) := by decide +kernel
theorem dX9_between_6 : decode cX9_between 6 = .ok (.ifCond .eq 19, 3) := by decide +kernel
theorem dX9_between_9 : decode cX9_between 9 = .ok (.aload_n 0, 1) := by decide +kernel
theorem dX9_between_10 : decode cX9_between 10 = .ok (.getfield 35, 3) := by decide +kernel
theorem dX9_between_13 : decode cX9_between 13 = .ok (.iload_n 3, 1) := by decide +kernel
theorem dX9_between_14 : decode cX9_between 14 = .ok (.invokevirtual 100, 3) := by decide +kernel
theorem dX9_between_17 : decode cX9_between 17 = .ok (.ifCond .eq 8, 3) := by decide +kernel
theorem dX9_between_20 : decode cX9_between 20 = .ok (.iload_n 2, 1) := by decide +kernel
theorem dX9_between_21 : decode cX9_between 21 = .ok (.iload_n 3, 1) := by decide +kernel
theorem dX9_between_22 : decode cX9_between 22 = .ok (.if_icmp .le 6, 3) := by decide +kernel
theorem dX9_between_25 : decode cX9_between 25 = .ok (.bipush (-2), 2) := by decide +kernel
theorem dX9_between_27 : decode cX9_between 27 = .ok (.ireturn, 1) := by decide +kernel
theorem dX9_between_28 : decode cX9_between 28 = .ok (.aload_n 0, 1) := by decide +kernel
theorem dX9_between_29 : decode cX9_between 29 = .ok (.getfield 35, 3) := by decide +kernel
theorem dX9_between_32 : decode cX9_between 32 = .ok (.iload_n 1, 1) := by decide +kernel
theorem dX9_between_33 : decode cX9_between 33 = .ok (.iload_n 2, 1) := by decide +kernel
theorem dX9_between_34 : decode cX9_between 34 = .ok (.iload_n 3, 1) := by decide +kernel
theorem dX9_between_35 : decode cX9_between 35 = .ok (.iconst 1, 1) := by decide +kernel
theorem dX9_between_36 : decode cX9_between 36 = .ok (.iadd, 1) := by decide +kernel
theorem dX9_between_37 : decode cX9_between 37 = .ok (.invokevirtual 162, 3) := by decide +kernel
theorem dX9_between_40 : decode cX9_between 40 = .ok (.ireturn, 1) := by decide +kernel
def uX9_between : List Cond := .code yX9_between cX9_between 4 (some .int) :: ([.methodLink RX9 137 yX9_hasBoth, .instanceMethod yX9_hasBoth, .selects RX9 yX9_hasBoth yX9_hasBoth, .initialized RX9, .code yX9_hasBoth cX9_hasBoth 3 (some .boolean), .fieldLink RX9 35 "LuckyTicket" "current" "LLuckyTicket$Roll;", .methodLink RX9 149 yX2_hasLaw, .instanceMethod yX2_hasLaw, .selects RX2 yX2_hasLaw yX2_hasLaw, .initialized RX2, .code yX2_hasLaw cX2_hasLaw 2 (some .boolean), .fieldLink RX2 33 "LuckyTicket$Roll" "laws" "I", .methodLink RX9 100 yX2_hasTicket, .instanceMethod yX2_hasTicket, .selects RX2 yX2_hasTicket yX2_hasTicket, .code yX2_hasTicket cX2_hasTicket 2 (some .boolean), .fieldLink RX2 42 "LuckyTicket$Roll" "tickets" "I", .methodLink RX9 162 yX2_tally, .instanceMethod yX2_tally, .selects RX2 yX2_tally yX2_tally, .code yX2_tally cX2_tally 7 (some .int), .methodLink RX2 78 yJ9_min_7cf53, .static yJ9_min_7cf53, .initialized RJ9, .code yJ9_min_7cf53 cJ9_min_7cf53 2 (some .int), .methodLink RX2 83 yJ9_max_7cf53, .static yJ9_max_7cf53, .code yJ9_max_7cf53 cJ9_max_7cf53 2 (some .int), .fieldLink RX2 15 "LuckyTicket$Roll" "luck" "[I"] ++ wsX90 ++ wsX20)
theorem iX9_between_X9 : ∀ w ∈ wsX90, w ∈ uX9_between := fun _ h => List.mem_cons_of_mem _ (List.mem_append_left _ (List.mem_append_right _ h))
theorem iX9_between_X2 : ∀ w ∈ wsX20, w ∈ uX9_between := fun _ h => List.mem_cons_of_mem _ (List.mem_append_right _ h)
set_option maxRecDepth 20000 in
theorem gX9_between__X9_hasBoth_V137 : GoodIn uX9_between (wsV RX9 137 RX9 yX9_hasBoth uX9_hasBoth) := goodIn_p _ [5, 11, 16] rfl (by decide +kernel)
set_option maxRecDepth 20000 in
theorem gX9_between__X2_hasTicket_V100 : GoodIn uX9_between (wsV RX9 100 RX2 yX2_hasTicket uX2_hasTicket) := goodIn_p _ [16] rfl (by decide +kernel)
set_option maxRecDepth 20000 in
theorem gX9_between__X2_tally_V162 : GoodIn uX9_between (wsV RX9 162 RX2 yX2_tally uX2_tally) := goodIn_p _ [21, 25, 28] rfl (by decide +kernel)
set_option maxHeartbeats 4000000 in
set_option maxRecDepth 100000 in
theorem kX9_between (l : Launch) (dC : Nat → ClassId) (dI : Nat → Nat → Nat) (h0 : Nat) (tp : Nat) (sc : Nat) (rd : Nat) (cu : Nat) (im : Nat) (ig : Nat) (sl : Nat) (se : Nat) (sm : Nat) (fc : Nat) (ln : Int32) (bs : Int32) (tk : Int32) (lw : Int32) (li : Int32) (fa : Nat) (lu : Nat) (cL : ClassId) (nl : Nat) (fl : Nat → Int32) (a1 : Int32) (a2 : Int32) (a3 : Int32) (b_ln : (0 : Int) ≤ ln.toInt ∧ ln.toInt ≤ 12) (b_bs : (0 : Int) ≤ bs.toInt ∧ bs.toInt ≤ 16) (b_tk : (0 : Int) ≤ tk.toInt ∧ tk.toInt ≤ 20000) (b_lw : (0 : Int) ≤ lw.toInt ∧ lw.toInt ≤ 9) (hl1 : tk.toInt ≤ (nl : Int)) : Met l yX9_between uX9_between ({ frames := 2, cells := 0, slots := 0, locals := 43 }) (va_Pc [.ref h0, .int a1, .int a2, .int a3] (pw (dC, dI) vwCl [(h0, .inr (7, [.ref tp, .ref sc, .ref rd, .ref cu, .ref im, .ref ig, .ref sl, .ref se, .ref sm, .ref fc])), (cu, .inr (1, [.int ln, .int bs, .int tk, .int lw, .int li, .ref fa, .ref lu])), (lu, .inl (cL, nl, .inl fl))] [(cL, .int)])) (vp_Si (fun r => True)) 0 0 (fun _ => False) := by
  refine Met.ofW (cc := cX9_between) (maxL := 4) (ret := (some .int)) (by decide) rfl ?_
  intro p e s m args below meth c s₁ B hml hv
  obtain ⟨rfl, hP, hK, hN⟩ := hv
  have hx := B.exec
  have hb := B.bytes
  have hr := B.returns
  have hts := atoms_spec (ws := uX9_between) B.pre
  have hown : s.vm.findClass RX9 = some m.cls := findClass_of_methodNamed B.named
  have hlocks := B.notSynchronized
  have hl := lv_entry ([.ref h0, .int a1, .int a2, .int a3]) (n := 4) (Nat.le_of_ble_eq_true rfl)
  rw [lg_entry_eq]
  generalize (lg_sl ([.ref h0, .int a1, .int a2, .int a3]) ++ List.replicate (4 - (lg_sl ([.ref h0, .int a1, .int a2, .int a3])).length) Slot.unset).toArray = ls at hl ⊢
  have hl : lv_has ls 4 [(0, .ref h0), (1, .int a1), (2, .int a2), (3, .int a3)] := hl
  refine lv_aload_n hx hb dX9_between_0 rfl (lv_at hl 0 rfl) ?_
  refine lv_iload_n hx hb dX9_between_1 rfl (lv_at hl 1 rfl) ?_
  refine lv_iload_n hx hb dX9_between_2 rfl (lv_at hl 2 rfl) ?_
  refine vp_callSi (W.runV (As := [.int a1, .int a2]) (rest := []) ⟨hx, hb, hml, hown, hts⟩ (kX9_hasBoth l dC dI h0 tp sc rd cu im ig sl se sm fc ln bs tk lw li fa lu a1 a2 b_ln b_bs b_tk b_lw) (cwV 2 hts gX9_between__X9_hasBoth_V137 rfl rfl rfl (by decide +kernel) ⟨lel 2 2 rfl, lel 43 43 rfl⟩) ⟨pw_fb, va_recv hK hP (ci := 7) (q0 := 0) rfl rfl, (pw_use hP hK hN [0, 1] rfl [] rfl)⟩ rfl rfl hl.1 rfl (lv_room (Nat.le_of_ble_eq_true rfl)) dX9_between_3 ⟨lel 0 0 rfl, lel 0 0 rfl⟩) (fun r_10 h_r_10 => ?_)
  obtain ⟨b_r_10, nz_r_10⟩ := h_r_10
  have b_r_10 : (0 : Int) ≤ r_10.toInt ∧ r_10.toInt ≤ 1 := b_r_10
  refine lv_if_eq (tgt := 25) hx hb dX9_between_6 (by decide) (fun c_11 => ?_) (fun c_11 => ?_)
  ·
    have n_c_11 : (r_10.toInt : Int) = 0 := c_eq rfl (by decide) c_11
    have b_r_10 : (0 : Int) ≤ r_10.toInt ∧ r_10.toInt ≤ 0 := r_eq1 b_r_10 (by decide : (0 : Int) ≤ (0 : Int32).toInt ∧ (0 : Int32).toInt ≤ 0) n_c_11 (by decide)
    refine lv_bipush (v := (-2)) hx hb dX9_between_25 (by decide) ?_
    exact W.iret (v := (-2)) hx hb hr (fun t ht hW => ⟨(-2), rfl, trivial, ht⟩) t_nil dX9_between_27
  ·
    have n_c_11 : (r_10.toInt : Int) ≠ 0 := c_ne rfl (by decide) c_11
    have b_r_10 : (1 : Int) ≤ r_10.toInt ∧ r_10.toInt ≤ 1 := r_ne1 b_r_10 (by decide : (0 : Int) ≤ (0 : Int32).toInt ∧ (0 : Int32).toInt ≤ 0) n_c_11 (by decide)
    obtain ⟨b_a1, b_a2, g_12⟩ := nz_r_10 c_11
    refine lv_aload_n hx hb dX9_between_9 rfl (lv_at hl 0 rfl) ?_
    refine va_get (D := (dC, dI)) (ci := 7) (v := .ref cu) (C := RX9) (T := TX9) (N := 10) hx hb hts iX9_between_X9 hown hK hP 0 rfl rfl 3 (by decide) (hts (.fieldLink RX9 35 "LuckyTicket" "current" "LLuckyTicket$Roll;") (List.mem_of_getElem? (i := 6) rfl)) (fun _ h9 => h9) rfl dX9_between_10 ?_
    refine lv_iload_n hx hb dX9_between_13 rfl (lv_at hl 3 rfl) ?_
    refine vp_callSi (W.runV (As := [.int a3]) (rest := []) ⟨hx, hb, hml, hown, hts⟩ (kX2_hasTicket l dC dI cu ln bs tk lw li fa lu a3 b_ln b_bs b_tk b_lw) (cwV 1 hts gX9_between__X2_hasTicket_V100 rfl rfl rfl (by decide +kernel) ⟨lel 1 2 rfl, lel 21 43 rfl⟩) ⟨pw_fb, va_recv hK hP (ci := 1) (q0 := 1) rfl rfl, (pw_use hP hK hN [1] rfl [] rfl)⟩ rfl rfl hl.1 rfl (lv_room (Nat.le_of_ble_eq_true rfl)) dX9_between_14 ⟨lel 0 0 rfl, lel 0 0 rfl⟩) (fun r_13 h_r_13 => ?_)
    obtain ⟨b_r_13, nz_r_13⟩ := h_r_13
    have b_r_13 : (0 : Int) ≤ r_13.toInt ∧ r_13.toInt ≤ 1 := b_r_13
    refine lv_if_eq (tgt := 25) hx hb dX9_between_17 (by decide) (fun c_14 => ?_) (fun c_14 => ?_)
    ·
      have n_c_14 : (r_13.toInt : Int) = 0 := c_eq rfl (by decide) c_14
      have b_r_13 : (0 : Int) ≤ r_13.toInt ∧ r_13.toInt ≤ 0 := r_eq1 b_r_13 (by decide : (0 : Int) ≤ (0 : Int32).toInt ∧ (0 : Int32).toInt ≤ 0) n_c_14 (by decide)
      refine lv_bipush (v := (-2)) hx hb dX9_between_25 (by decide) ?_
      exact W.iret (v := (-2)) hx hb hr (fun t ht hW => ⟨(-2), rfl, trivial, ht⟩) t_nil dX9_between_27
    ·
      have n_c_14 : (r_13.toInt : Int) ≠ 0 := c_ne rfl (by decide) c_14
      have b_r_13 : (1 : Int) ≤ r_13.toInt ∧ r_13.toInt ≤ 1 := r_ne1 b_r_13 (by decide : (0 : Int) ≤ (0 : Int32).toInt ∧ (0 : Int32).toInt ≤ 0) n_c_14 (by decide)
      obtain ⟨b_a3, g_15⟩ := nz_r_13 c_14
      refine lv_iload_n hx hb dX9_between_20 rfl (lv_at hl 2 rfl) ?_
      refine lv_iload_n hx hb dX9_between_21 rfl (lv_at hl 3 rfl) ?_
      refine lv_icmp_le (tgt := 28) hx hb dX9_between_22 (by decide) (fun c_16 => ?_) (fun c_16 => ?_)
      ·
        have n_c_16 : (a2.toInt : Int) ≤ a3.toInt := c_le rfl rfl c_16
        refine lv_aload_n hx hb dX9_between_28 rfl (lv_at hl 0 rfl) ?_
        refine va_get (D := (dC, dI)) (ci := 7) (v := .ref cu) (C := RX9) (T := TX9) (N := 10) hx hb hts iX9_between_X9 hown hK hP 0 rfl rfl 3 (by decide) (hts (.fieldLink RX9 35 "LuckyTicket" "current" "LLuckyTicket$Roll;") (List.mem_of_getElem? (i := 6) rfl)) (fun _ h9 => h9) rfl dX9_between_29 ?_
        refine lv_iload_n hx hb dX9_between_32 rfl (lv_at hl 1 rfl) ?_
        refine lv_iload_n hx hb dX9_between_33 rfl (lv_at hl 2 rfl) ?_
        refine lv_iload_n hx hb dX9_between_34 rfl (lv_at hl 3 rfl) ?_
        refine lv_iconst (v := 1) hx hb dX9_between_35 (by decide) ?_
        refine lv_iadd hx hb dX9_between_36 ?_
        refine lv_topi (fun z_17 e_z_17 => ?_)
        obtain ⟨q_z_17, b_z_17⟩ := ti_add (lo := 1) (hi := 20000) e_z_17 rfl (by decide : (1 : Int32).toInt = 1) b_a3 (by decide : (1 : Int) ≤ (1 : Int32).toInt ∧ (1 : Int32).toInt ≤ 1) (by decide)
        refine vp_callSi (W.runV (As := [.int a1, .int a2, .int z_17]) (rest := []) ⟨hx, hb, hml, hown, hts⟩ (kX2_tally l dC dI cu ln bs tk lw li fa lu cL nl fl a1 a2 z_17 b_ln b_bs b_tk b_lw (by omega)) (cwV 3 hts gX9_between__X2_tally_V162 rfl rfl rfl (by decide +kernel) ⟨lel 2 2 rfl, lel 39 43 rfl⟩) ⟨pw_fb, va_recv hK hP (ci := 1) (q0 := 1) rfl rfl, (pw_use hP hK hN [1, 2] rfl [0] rfl)⟩ rfl rfl hl.1 rfl (lv_room (Nat.le_of_ble_eq_true rfl)) dX9_between_37 ⟨lel 0 0 rfl, lel 0 0 rfl⟩) (fun r_18 h_r_18 => ?_)
        exact W.iret (v := r_18) hx hb hr (fun t ht hW => ⟨r_18, rfl, trivial, ht⟩) t_nil dX9_between_40
      ·
        have n_c_16 : (a3.toInt : Int) < a2.toInt := c_nle rfl rfl c_16
        have b_a3 : (0 : Int) ≤ a3.toInt ∧ a3.toInt ≤ 19998 := r_lt1 b_a3 b_a2 n_c_16 (by decide)
        have b_a2 : (1 : Int) ≤ a2.toInt ∧ a2.toInt ≤ 19999 := r_lt2 b_a3 b_a2 n_c_16 (by decide)
        refine lv_bipush (v := (-2)) hx hb dX9_between_25 (by decide) ?_
        exact W.iret (v := (-2)) hx hb hr (fun t ht hW => ⟨(-2), rfl, trivial, ht⟩) t_nil dX9_between_27
theorem dX9_run_0 : decode cX9_run 0 = .ok (.aload_n 0, 1) := by decide +kernel
theorem dX9_run_1 : decode cX9_run 1 = .ok (.getfield 35, 3) := by decide +kernel
theorem dX9_run_4 : decode cX9_run 4 = .ok (.iload_n 1, 1) := by decide +kernel
theorem dX9_run_5 : decode cX9_run 5 = .ok (.invokevirtual 149, 3) := by decide +kernel
theorem dX9_run_8 : decode cX9_run 8 = .ok (.ifCond .eq 12, 3) := by decide +kernel
theorem dX9_run_11 : decode cX9_run 11 = .ok (.iload_n 2, 1) := by decide +kernel
theorem dX9_run_12 : decode cX9_run 12 = .ok (.iconst 0, 1) := by decide +kernel
theorem dX9_run_13 : decode cX9_run 13 = .ok (.iconst 1, 1) := by decide +kernel
theorem dX9_run_14 : decode cX9_run 14 = .ok (.invokestatic 158, 3) := by decide +kernel
theorem dX9_run_17 : decode cX9_run 17 = .ok (.ifCond .ne 6, 3) := by decide +kernel
theorem dX9_run_20 : decode cX9_run 20 = .ok (.bipush (-2), 2) := by decide +kernel
theorem dX9_run_22 : decode cX9_run 22 = .ok (.ireturn, 1) := by decide +kernel
theorem dX9_run_23 : decode cX9_run 23 = .ok (.iconst 0, 1) := by decide +kernel
theorem dX9_run_24 : decode cX9_run 24 = .ok (.istore_n 3, 1) := by decide +kernel
theorem dX9_run_25 : decode cX9_run 25 = .ok (.iconst (-1), 1) := by decide +kernel
theorem dX9_run_26 : decode cX9_run 26 = .ok (.istore 4, 2) := by decide +kernel
theorem dX9_run_28 : decode cX9_run 28 = .ok (.iconst 0, 1) := by decide +kernel
theorem dX9_run_29 : decode cX9_run 29 = .ok (.istore 5, 2) := by decide +kernel
theorem dX9_run_31 : decode cX9_run 31 = .ok (.iconst 0, 1) := by decide +kernel
theorem dX9_run_32 : decode cX9_run 32 = .ok (.istore 6, 2) := by decide +kernel
theorem dX9_run_34 : decode cX9_run 34 = .ok (.iload 6, 2) := by decide +kernel
theorem dX9_run_36 : decode cX9_run 36 = .ok (.aload_n 0, 1) := by decide +kernel
theorem dX9_run_37 : decode cX9_run 37 = .ok (.getfield 35, 3) := by decide +kernel
theorem dX9_run_40 : decode cX9_run 40 = .ok (.getfield 155, 3) := by decide +kernel
theorem dX9_run_43 : decode cX9_run 43 = .ok (.if_icmp .ge 50, 3) := by decide +kernel
theorem dX9_run_46 : decode cX9_run 46 = .ok (.aload_n 0, 1) := by decide +kernel
theorem dX9_run_47 : decode cX9_run 47 = .ok (.getfield 35, 3) := by decide +kernel
theorem dX9_run_50 : decode cX9_run 50 = .ok (.iload_n 1, 1) := by decide +kernel
theorem dX9_run_51 : decode cX9_run 51 = .ok (.iload 6, 2) := by decide +kernel
theorem dX9_run_53 : decode cX9_run 53 = .ok (.invokevirtual 175, 3) := by decide +kernel
theorem dX9_run_56 : decode cX9_run 56 = .ok (.ifCond .eq 10, 3) := by decide +kernel
theorem dX9_run_59 : decode cX9_run 59 = .ok (.iload 5, 2) := by decide +kernel
theorem dX9_run_61 : decode cX9_run 61 = .ok (.iconst 1, 1) := by decide +kernel
theorem dX9_run_62 : decode cX9_run 62 = .ok (.iadd, 1) := by decide +kernel
theorem dX9_run_63 : decode cX9_run 63 = .ok (.goto 4, 3) := by decide +kernel
theorem dX9_run_66 : decode cX9_run 66 = .ok (.iconst 0, 1) := by decide +kernel
theorem dX9_run_67 : decode cX9_run 67 = .ok (.istore 5, 2) := by decide +kernel
theorem dX9_run_69 : decode cX9_run 69 = .ok (.iload 5, 2) := by decide +kernel
theorem dX9_run_71 : decode cX9_run 71 = .ok (.iload_n 3, 1) := by decide +kernel
theorem dX9_run_72 : decode cX9_run 72 = .ok (.if_icmp .le 15, 3) := by decide +kernel
theorem dX9_run_75 : decode cX9_run 75 = .ok (.iload 5, 2) := by decide +kernel
theorem dX9_run_77 : decode cX9_run 77 = .ok (.istore_n 3, 1) := by decide +kernel
theorem dX9_run_78 : decode cX9_run 78 = .ok (.iload 6, 2) := by decide +kernel
theorem dX9_run_80 : decode cX9_run 80 = .ok (.iload 5, 2) := by decide +kernel
theorem dX9_run_82 : decode cX9_run 82 = .ok (.isub, 1) := by decide +kernel
theorem dX9_run_83 : decode cX9_run 83 = .ok (.iconst 1, 1) := by decide +kernel
theorem dX9_run_84 : decode cX9_run 84 = .ok (.iadd, 1) := by decide +kernel
theorem dX9_run_85 : decode cX9_run 85 = .ok (.istore 4, 2) := by decide +kernel
theorem dX9_run_87 : decode cX9_run 87 = .ok (.iinc 6 1, 3) := by decide +kernel
theorem dX9_run_90 : decode cX9_run 90 = .ok (.goto (-56), 3) := by decide +kernel
theorem dX9_run_93 : decode cX9_run 93 = .ok (.iload_n 2, 1) := by decide +kernel
theorem dX9_run_94 : decode cX9_run 94 = .ok (.ifCond .ne 7, 3) := by decide +kernel
theorem dX9_run_97 : decode cX9_run 97 = .ok (.iload_n 3, 1) := by decide +kernel
theorem dX9_run_98 : decode cX9_run 98 = .ok (.goto 5, 3) := by decide +kernel
theorem dX9_run_101 : decode cX9_run 101 = .ok (.iload 4, 2) := by decide +kernel
theorem dX9_run_103 : decode cX9_run 103 = .ok (.ireturn, 1) := by decide +kernel
def uX9_run : List Cond := .code yX9_run cX9_run 7 (some .int) :: ([.fieldLink RX9 35 "LuckyTicket" "current" "LLuckyTicket$Roll;", .methodLink RX9 149 yX2_hasLaw, .instanceMethod yX2_hasLaw, .selects RX2 yX2_hasLaw yX2_hasLaw, .initialized RX2, .code yX2_hasLaw cX2_hasLaw 2 (some .boolean), .fieldLink RX2 33 "LuckyTicket$Roll" "laws" "I", .methodLink RX9 158 yX9_isWithin, .static yX9_isWithin, .initialized RX9, .code yX9_isWithin cX9_isWithin 3 (some .boolean), .methodLink RX9 175 yX2_isLucky, .instanceMethod yX2_isLucky, .selects RX2 yX2_isLucky yX2_isLucky, .code yX2_isLucky cX2_isLucky 3 (some .boolean), .fieldLink RX2 42 "LuckyTicket$Roll" "tickets" "I", .fieldLink RX2 15 "LuckyTicket$Roll" "luck" "[I"] ++ wsX90 ++ wsX20)
theorem iX9_run_X9 : ∀ w ∈ wsX90, w ∈ uX9_run := fun _ h => List.mem_cons_of_mem _ (List.mem_append_left _ (List.mem_append_right _ h))
theorem iX9_run_X2 : ∀ w ∈ wsX20, w ∈ uX9_run := fun _ h => List.mem_cons_of_mem _ (List.mem_append_right _ h)
set_option maxRecDepth 20000 in
theorem gX9_run__X2_hasLaw_V149 : GoodIn uX9_run (wsV RX9 149 RX2 yX2_hasLaw uX2_hasLaw) := goodIn_p _ [6] rfl (by decide +kernel)
set_option maxRecDepth 20000 in
theorem gX9_run__X9_isWithin_S158 : GoodIn uX9_run (va_wsS RX9 158 yX9_isWithin uX9_isWithin) := goodIn_p _ [11] rfl (by decide +kernel)
set_option maxRecDepth 20000 in
theorem gX9_run__X2_isLucky_V175 : GoodIn uX9_run (wsV RX9 175 RX2 yX2_isLucky uX2_isLucky) := goodIn_p _ [15] rfl (by decide +kernel)
set_option maxHeartbeats 4000000 in
set_option maxRecDepth 100000 in
theorem kX9_run (l : Launch) (dC : Nat → ClassId) (dI : Nat → Nat → Nat) (h0 : Nat) (tp : Nat) (sc : Nat) (rd : Nat) (cu : Nat) (im : Nat) (ig : Nat) (sl : Nat) (se : Nat) (sm : Nat) (fc : Nat) (ln : Int32) (bs : Int32) (tk : Int32) (lw : Int32) (li : Int32) (fa : Nat) (lu : Nat) (cL : ClassId) (nl : Nat) (fl : Nat → Int32) (a1 : Int32) (a2 : Int32) (b_ln : (0 : Int) ≤ ln.toInt ∧ ln.toInt ≤ 12) (b_bs : (0 : Int) ≤ bs.toInt ∧ bs.toInt ≤ 16) (b_tk : (0 : Int) ≤ tk.toInt ∧ tk.toInt ≤ 20000) (b_lw : (0 : Int) ≤ lw.toInt ∧ lw.toInt ≤ 9) (hl1 : tk.toInt ≤ (nl : Int)) : Met l yX9_run uX9_run ({ frames := 1, cells := 0, slots := 0, locals := 22 }) (va_Pc [.ref h0, .int a1, .int a2] (pw (dC, dI) vwCl [(h0, .inr (7, [.ref tp, .ref sc, .ref rd, .ref cu, .ref im, .ref ig, .ref sl, .ref se, .ref sm, .ref fc])), (cu, .inr (1, [.int ln, .int bs, .int tk, .int lw, .int li, .ref fa, .ref lu])), (lu, .inl (cL, nl, .inl fl))] [(cL, .int)])) (vp_Si (fun r => True)) 0 0 (fun _ => False) := by
  refine Met.ofW (cc := cX9_run) (maxL := 7) (ret := (some .int)) (by decide) rfl ?_
  intro p e s m args below meth c s₁ B hml hv
  obtain ⟨rfl, hP, hK, hN⟩ := hv
  have hx := B.exec
  have hb := B.bytes
  have hr := B.returns
  have hts := atoms_spec (ws := uX9_run) B.pre
  have hown : s.vm.findClass RX9 = some m.cls := findClass_of_methodNamed B.named
  have hlocks := B.notSynchronized
  have hl := lv_entry ([.ref h0, .int a1, .int a2]) (n := 7) (Nat.le_of_ble_eq_true rfl)
  rw [lg_entry_eq]
  generalize (lg_sl ([.ref h0, .int a1, .int a2]) ++ List.replicate (7 - (lg_sl ([.ref h0, .int a1, .int a2])).length) Slot.unset).toArray = ls at hl ⊢
  have hl : lv_has ls 7 [(0, .ref h0), (1, .int a1), (2, .int a2)] := hl
  refine lv_aload_n hx hb dX9_run_0 rfl (lv_at hl 0 rfl) ?_
  refine va_get (D := (dC, dI)) (ci := 7) (v := .ref cu) (C := RX9) (T := TX9) (N := 10) hx hb hts iX9_run_X9 hown hK hP 0 rfl rfl 3 (by decide) (hts (.fieldLink RX9 35 "LuckyTicket" "current" "LLuckyTicket$Roll;") (List.mem_of_getElem? (i := 1) rfl)) (fun _ h9 => h9) rfl dX9_run_1 ?_
  refine lv_iload_n hx hb dX9_run_4 rfl (lv_at hl 1 rfl) ?_
  refine vp_callSi (W.runV (As := [.int a1]) (rest := []) ⟨hx, hb, hml, hown, hts⟩ (kX2_hasLaw l dC dI cu ln bs tk lw li fa lu a1 b_ln b_bs b_tk b_lw) (cwV 1 hts gX9_run__X2_hasLaw_V149 rfl rfl rfl (by decide +kernel) ⟨lel 1 1 rfl, lel 21 22 rfl⟩) ⟨pw_fb, va_recv hK hP (ci := 1) (q0 := 1) rfl rfl, (pw_use hP hK hN [1] rfl [] rfl)⟩ rfl rfl hl.1 rfl (lv_room (Nat.le_of_ble_eq_true rfl)) dX9_run_5 ⟨lel 0 0 rfl, lel 0 0 rfl⟩) (fun r_207 h_r_207 => ?_)
  obtain ⟨b_r_207, nz_r_207⟩ := h_r_207
  have b_r_207 : (0 : Int) ≤ r_207.toInt ∧ r_207.toInt ≤ 1 := b_r_207
  refine lv_if_eq (tgt := 20) hx hb dX9_run_8 (by decide) (fun c_208 => ?_) (fun c_208 => ?_)
  ·
    have n_c_208 : (r_207.toInt : Int) = 0 := c_eq rfl (by decide) c_208
    have b_r_207 : (0 : Int) ≤ r_207.toInt ∧ r_207.toInt ≤ 0 := r_eq1 b_r_207 (by decide : (0 : Int) ≤ (0 : Int32).toInt ∧ (0 : Int32).toInt ≤ 0) n_c_208 (by decide)
    refine lv_bipush (v := (-2)) hx hb dX9_run_20 (by decide) ?_
    exact W.iret (v := (-2)) hx hb hr (fun t ht hW => ⟨(-2), rfl, trivial, ht⟩) t_nil dX9_run_22
  ·
    have n_c_208 : (r_207.toInt : Int) ≠ 0 := c_ne rfl (by decide) c_208
    have b_r_207 : (1 : Int) ≤ r_207.toInt ∧ r_207.toInt ≤ 1 := r_ne1 b_r_207 (by decide : (0 : Int) ≤ (0 : Int32).toInt ∧ (0 : Int32).toInt ≤ 0) n_c_208 (by decide)
    obtain ⟨b_a1, g_209⟩ := nz_r_207 c_208
    refine lv_iload_n hx hb dX9_run_11 rfl (lv_at hl 2 rfl) ?_
    refine lv_iconst (v := 0) hx hb dX9_run_12 (by decide) ?_
    refine lv_iconst (v := 1) hx hb dX9_run_13 (by decide) ?_
    refine vp_callSi (W.runS (As := [.int a2, .int 0, .int 1]) (rest := []) ⟨hx, hb, hml, hown, hts⟩ (kX9_isWithin l dC dI a2 0 1 ) (va_cwS 3 hts gX9_run__X9_isWithin_S158 rfl rfl rfl (by decide +kernel) ⟨lel 1 1 rfl, lel 22 22 rfl⟩) ⟨pn_fb, pn_use⟩ rfl rfl hl.1 rfl (lv_room (Nat.le_of_ble_eq_true rfl)) dX9_run_14 ⟨lel 0 0 rfl, lel 0 0 rfl⟩) (fun r_210 h_r_210 => ?_)
    obtain ⟨b_r_210, nz_r_210⟩ := h_r_210
    have b_r_210 : (0 : Int) ≤ r_210.toInt ∧ r_210.toInt ≤ 1 := b_r_210
    refine lv_if_ne (tgt := 23) hx hb dX9_run_17 (by decide) (fun c_211 => ?_) (fun c_211 => ?_)
    ·
      have n_c_211 : (r_210.toInt : Int) ≠ 0 := c_ne rfl (by decide) c_211
      have b_r_210 : (1 : Int) ≤ r_210.toInt ∧ r_210.toInt ≤ 1 := r_ne1 b_r_210 (by decide : (0 : Int) ≤ (0 : Int32).toInt ∧ (0 : Int32).toInt ≤ 0) n_c_211 (by decide)
      have g_212 := nz_r_210 c_211
      have lt0_g_212 := (by decide : (0 : Int32).toInt = 0)
      have lt1_g_212 := (by decide : (1 : Int32).toInt = 1)
      have b_a2 : (0 : Int) ≤ a2.toInt ∧ a2.toInt ≤ 1 := by
        have q0 := (ti_rng a2)
        have q1 := (by decide : (0 : Int) ≤ (0 : Int32).toInt ∧ (0 : Int32).toInt ≤ 0)
        have q2 := (by decide : (1 : Int) ≤ (1 : Int32).toInt ∧ (1 : Int32).toInt ≤ 1)
        omega
      refine lv_iconst (v := 0) hx hb dX9_run_23 (by decide) ?_
      refine lv_istore_n (lv' := [(3, .int 0), (0, .ref h0), (1, .int a1), (2, .int a2)]) hx hb dX9_run_24 rfl hl (by decide) rfl (fun ls hl => ?_)
      refine lv_iconst (v := (-1)) hx hb dX9_run_25 (by decide) ?_
      refine lv_istore (lv' := [(4, .int (-1)), (3, .int 0), (0, .ref h0), (1, .int a1), (2, .int a2)]) hx hb dX9_run_26 hl (by decide) rfl (fun ls hl => ?_)
      refine lv_iconst (v := 0) hx hb dX9_run_28 (by decide) ?_
      refine lv_istore (lv' := [(5, .int 0), (4, .int (-1)), (3, .int 0), (0, .ref h0), (1, .int a1), (2, .int a2)]) hx hb dX9_run_29 hl (by decide) rfl (fun ls hl => ?_)
      refine lv_iconst (v := 0) hx hb dX9_run_31 (by decide) ?_
      refine lv_istore (lv' := [(6, .int 0), (5, .int 0), (4, .int (-1)), (3, .int 0), (0, .ref h0), (1, .int a1), (2, .int a2)]) hx hb dX9_run_32 hl (by decide) rfl (fun ls hl => ?_)
      refine loopP (σ := Int32 × Int32 × Int32 × Int32) (fun v => (20000 - v.1.toInt).toNat) (fun v ls => ((0 : Int) ≤ v.1.toInt ∧ v.1.toInt ≤ 20000) ∧ ((0 : Int) ≤ v.2.2.2.toInt ∧ v.2.2.2.toInt ≤ 2147483647) ∧ lv_has ls 7 [(6, .int v.1), (5, .int v.2.1), (4, .int v.2.2.1), (3, .int v.2.2.2), (0, .ref h0), (1, .int a1), (2, .int a2)]) (fun v ls hI ih_34_384 => ?_) ((0 : Int32), (0 : Int32), (-1 : Int32), (0 : Int32)) ⟨(show (0 : Int) ≤ (0 : Int32).toInt ∧ (0 : Int32).toInt ≤ 20000 from (rg_w (by decide : (0 : Int) ≤ (0 : Int32).toInt ∧ (0 : Int32).toInt ≤ 0) (by decide) (by decide))), (show (0 : Int) ≤ (0 : Int32).toInt ∧ (0 : Int32).toInt ≤ 2147483647 from (rg_w (by decide : (0 : Int) ≤ (0 : Int32).toInt ∧ (0 : Int32).toInt ≤ 0) (by decide) (by decide))), lv_sub hl [0, 1, 2, 3, 4, 5, 6] rfl⟩
      obtain ⟨y_241, y_242, y_243, y_244⟩ := v
      obtain ⟨b_y_241, b_y_244, hl⟩ := hI
      have b_y_241 : (0 : Int) ≤ y_241.toInt ∧ y_241.toInt ≤ 20000 := b_y_241
      have b_y_244 : (0 : Int) ≤ y_244.toInt ∧ y_244.toInt ≤ 2147483647 := b_y_244
      have hl : lv_has ls 7 [(6, .int y_241), (5, .int y_242), (4, .int y_243), (3, .int y_244), (0, .ref h0), (1, .int a1), (2, .int a2)] := hl
      refine lv_iload hx hb dX9_run_34 (lv_at hl 0 rfl) ?_
      refine lv_aload_n hx hb dX9_run_36 rfl (lv_at hl 4 rfl) ?_
      refine va_get (D := (dC, dI)) (ci := 7) (v := .ref cu) (C := RX9) (T := TX9) (N := 10) hx hb hts iX9_run_X9 hown hK hP 0 rfl rfl 3 (by decide) (hts (.fieldLink RX9 35 "LuckyTicket" "current" "LLuckyTicket$Roll;") (List.mem_of_getElem? (i := 1) rfl)) (fun _ h9 => h9) rfl dX9_run_37 ?_
      refine va_getN (own := RX9) (index := 155) (ref := RX2) (host := RX9) (D := (dC, dI)) (ci := 1) (v := .int tk) (C := RX2) (T := TX2) (N := 7) hx hb hts iX9_run_X2 hown hK hP 1 rfl rfl 2 (by decide) (va_Nw.use rfl (hN _ (List.mem_of_getElem? (i := 18) rfl))) (fun _ h9 => h9) rfl dX9_run_40 ?_
      refine lv_icmp_ge (tgt := 93) hx hb dX9_run_43 (by decide) (fun c_385 => ?_) (fun c_385 => ?_)
      ·
        have n_c_385 : (tk.toInt : Int) ≤ y_241.toInt := c_ge rfl rfl c_385
        refine lv_iload_n hx hb dX9_run_93 rfl (lv_at hl 6 rfl) ?_
        refine lv_if_ne (tgt := 101) hx hb dX9_run_94 (by decide) (fun c_399 => ?_) (fun c_399 => ?_)
        ·
          have n_c_399 : (a2.toInt : Int) ≠ 0 := c_ne rfl (by decide) c_399
          have b_a2 : (1 : Int) ≤ a2.toInt ∧ a2.toInt ≤ 1 := r_ne1 b_a2 (by decide : (0 : Int) ≤ (0 : Int32).toInt ∧ (0 : Int32).toInt ≤ 0) n_c_399 (by decide)
          refine lv_iload hx hb dX9_run_101 (lv_at hl 2 rfl) ?_
          exact W.iret (v := y_243) hx hb hr (fun t ht hW => ⟨y_243, rfl, trivial, ht⟩) t_nil dX9_run_103
        ·
          have n_c_399 : (a2.toInt : Int) = 0 := c_eq rfl (by decide) c_399
          have b_a2 : (0 : Int) ≤ a2.toInt ∧ a2.toInt ≤ 0 := r_eq1 b_a2 (by decide : (0 : Int) ≤ (0 : Int32).toInt ∧ (0 : Int32).toInt ≤ 0) n_c_399 (by decide)
          refine lv_iload_n hx hb dX9_run_97 rfl (lv_at hl 3 rfl) ?_
          refine lv_goto (tgt := 103) hx hb dX9_run_98 (by decide) ?_
          exact W.iret (v := y_244) hx hb hr (fun t ht hW => ⟨y_244, rfl, trivial, ht⟩) t_nil dX9_run_103
      ·
        have n_c_385 : (y_241.toInt : Int) < tk.toInt := c_nge rfl rfl c_385
        have b_y_241 : (0 : Int) ≤ y_241.toInt ∧ y_241.toInt ≤ 19999 := r_lt1 b_y_241 b_tk n_c_385 (by decide)
        have b_tk : (1 : Int) ≤ tk.toInt ∧ tk.toInt ≤ 20000 := r_lt2 b_y_241 b_tk n_c_385 (by decide)
        refine lv_aload_n hx hb dX9_run_46 rfl (lv_at hl 4 rfl) ?_
        refine va_get (D := (dC, dI)) (ci := 7) (v := .ref cu) (C := RX9) (T := TX9) (N := 10) hx hb hts iX9_run_X9 hown hK hP 0 rfl rfl 3 (by decide) (hts (.fieldLink RX9 35 "LuckyTicket" "current" "LLuckyTicket$Roll;") (List.mem_of_getElem? (i := 1) rfl)) (fun _ h9 => h9) rfl dX9_run_47 ?_
        refine lv_iload_n hx hb dX9_run_50 rfl (lv_at hl 5 rfl) ?_
        refine lv_iload hx hb dX9_run_51 (lv_at hl 0 rfl) ?_
        refine vp_callSi (W.runV (As := [.int a1, .int y_241]) (rest := []) ⟨hx, hb, hml, hown, hts⟩ (kX2_isLucky l dC dI cu ln bs tk lw li fa lu cL nl fl a1 y_241 b_ln b_bs (rg_w b_tk (by decide) (by decide)) b_lw (by omega)) (cwV 2 hts gX9_run__X2_isLucky_V175 rfl rfl rfl (by decide +kernel) ⟨lel 1 1 rfl, lel 22 22 rfl⟩) ⟨pw_fb, va_recv hK hP (ci := 1) (q0 := 1) rfl rfl, (pw_use hP hK hN [1, 2] rfl [0] rfl)⟩ rfl rfl hl.1 rfl (lv_room (Nat.le_of_ble_eq_true rfl)) dX9_run_53 ⟨lel 0 0 rfl, lel 0 0 rfl⟩) (fun r_400 h_r_400 => ?_)
        have b_r_400 := h_r_400
        have b_r_400 : (0 : Int) ≤ r_400.toInt ∧ r_400.toInt ≤ 1 := b_r_400
        refine cutP (σ := Int32) (pc2 := 67) (st2 := fun v => [.int v]) (cells2 := 0) (slots2 := 0) (fun v ls => lv_has ls 7 [(6, .int y_241), (5, .int y_242), (4, .int y_243), (3, .int y_244), (0, .ref h0), (1, .int a1), (2, .int a2)]) (fun v ls hI => ?_) (fun hj_67_403 => ?_)
        ·
          obtain ⟨y_403, rfl⟩ : ∃ z, z = v := ⟨_, rfl⟩
          have hl := hI
          have hl : lv_has ls 7 [(6, .int y_241), (5, .int y_242), (4, .int y_243), (3, .int y_244), (0, .ref h0), (1, .int a1), (2, .int a2)] := hl
          refine lv_istore (lv' := [(5, .int y_403), (6, .int y_241), (4, .int y_243), (3, .int y_244), (0, .ref h0), (1, .int a1), (2, .int a2)]) hx hb dX9_run_67 hl (by decide) rfl (fun ls hl => ?_)
          refine lv_iload hx hb dX9_run_69 (lv_at hl 0 rfl) ?_
          refine lv_iload_n hx hb dX9_run_71 rfl (lv_at hl 3 rfl) ?_
          refine cutP (σ := Int32 × Int32) (pc2 := 87) (st2 := fun v => []) (cells2 := 0) (slots2 := 0) (fun v ls => ((0 : Int) ≤ v.2.toInt ∧ v.2.toInt ≤ 2147483647) ∧ lv_has ls 7 [(5, .int y_403), (6, .int y_241), (4, .int v.1), (3, .int v.2), (0, .ref h0), (1, .int a1), (2, .int a2)]) (fun v ls hI => ?_) (fun hj_87_408 => ?_)
          ·
            obtain ⟨y_407, y_408⟩ := v
            obtain ⟨b_y_408, hl⟩ := hI
            have b_y_408 : (0 : Int) ≤ y_408.toInt ∧ y_408.toInt ≤ 2147483647 := b_y_408
            have hl : lv_has ls 7 [(5, .int y_403), (6, .int y_241), (4, .int y_407), (3, .int y_408), (0, .ref h0), (1, .int a1), (2, .int a2)] := hl
            obtain ⟨z_409, e_z_409⟩ : ∃ y : Int32, y = y_241 + 1 := ⟨_, rfl⟩
            refine lv_iinc (v := z_409) (lv' := [(6, .int z_409), (5, .int y_403), (4, .int y_407), (3, .int y_408), (0, .ref h0), (1, .int a1), (2, .int a2)]) hx hb dX9_run_87 hl (k := 1) rfl (by rw [e_z_409]; rfl) (by decide) rfl (fun ls hl => ?_)
            obtain ⟨q_z_409, b_z_409⟩ := ti_add (lo := 1) (hi := 20000) e_z_409 rfl (by decide : (1 : Int32).toInt = 1) b_y_241 (by decide : (1 : Int) ≤ (1 : Int32).toInt ∧ (1 : Int32).toInt ≤ 1) (by decide)
            refine lv_goto (tgt := 34) hx hb dX9_run_90 (by decide) ?_
            exact ih_34_384 (z_409, y_403, y_407, y_408) _ ⟨(show (0 : Int) ≤ z_409.toInt ∧ z_409.toInt ≤ 20000 from (rg_w b_z_409 (by decide) (by decide))), (show (0 : Int) ≤ y_408.toInt ∧ y_408.toInt ≤ 2147483647 from b_y_408), lv_sub hl [0, 1, 2, 3, 4, 5, 6] rfl⟩ (show (20000 - z_409.toInt).toNat < (20000 - y_241.toInt).toNat by omega)
          ·
            refine lv_icmp_le (tgt := 87) hx hb dX9_run_72 (by decide) (fun c_404 => ?_) (fun c_404 => ?_)
            ·
              have n_c_404 : (y_403.toInt : Int) ≤ y_244.toInt := c_le rfl rfl c_404
              exact hj_87_408 (y_243, y_244) _ ⟨(show (0 : Int) ≤ y_244.toInt ∧ y_244.toInt ≤ 2147483647 from b_y_244), lv_sub hl [0, 1, 2, 3, 4, 5, 6] rfl⟩
            ·
              have n_c_404 : (y_244.toInt : Int) < y_403.toInt := c_nle rfl rfl c_404
              have b_y_244 : (0 : Int) ≤ y_244.toInt ∧ y_244.toInt ≤ 2147483646 := r_lt1 b_y_244 (ti_rng y_403) n_c_404 (by decide)
              have b_y_403 : (1 : Int) ≤ y_403.toInt ∧ y_403.toInt ≤ 2147483647 := r_lt2 b_y_244 (ti_rng y_403) n_c_404 (by decide)
              refine lv_iload hx hb dX9_run_75 (lv_at hl 0 rfl) ?_
              refine lv_istore_n (lv' := [(3, .int y_403), (5, .int y_403), (6, .int y_241), (4, .int y_243), (0, .ref h0), (1, .int a1), (2, .int a2)]) hx hb dX9_run_77 rfl hl (by decide) rfl (fun ls hl => ?_)
              refine lv_iload hx hb dX9_run_78 (lv_at hl 2 rfl) ?_
              refine lv_iload hx hb dX9_run_80 (lv_at hl 1 rfl) ?_
              refine lv_isub hx hb dX9_run_82 ?_
              refine lv_topi (fun z_410 e_z_410 => ?_)
              obtain ⟨q_z_410, b_z_410⟩ := ti_sub (lo := -2147483647) (hi := 19998) e_z_410 rfl rfl b_y_241 b_y_403 (by decide)
              refine lv_iconst (v := 1) hx hb dX9_run_83 (by decide) ?_
              refine lv_iadd hx hb dX9_run_84 ?_
              refine lv_topi (fun z_411 e_z_411 => ?_)
              obtain ⟨q_z_411, b_z_411⟩ := ti_add (lo := -2147483646) (hi := 19999) e_z_411 rfl (by decide : (1 : Int32).toInt = 1) b_z_410 (by decide : (1 : Int) ≤ (1 : Int32).toInt ∧ (1 : Int32).toInt ≤ 1) (by decide)
              refine lv_istore (lv' := [(4, .int z_411), (3, .int y_403), (5, .int y_403), (6, .int y_241), (0, .ref h0), (1, .int a1), (2, .int a2)]) hx hb dX9_run_85 hl (by decide) rfl (fun ls hl => ?_)
              exact hj_87_408 (z_411, y_403) _ ⟨(show (0 : Int) ≤ y_403.toInt ∧ y_403.toInt ≤ 2147483647 from (rg_w b_y_403 (by decide) (by decide))), lv_sub hl [2, 3, 0, 1, 4, 5, 6] rfl⟩
        ·
          refine lv_if_eq (tgt := 66) hx hb dX9_run_56 (by decide) (fun c_401 => ?_) (fun c_401 => ?_)
          ·
            have n_c_401 : (r_400.toInt : Int) = 0 := c_eq rfl (by decide) c_401
            have b_r_400 : (0 : Int) ≤ r_400.toInt ∧ r_400.toInt ≤ 0 := r_eq1 b_r_400 (by decide : (0 : Int) ≤ (0 : Int32).toInt ∧ (0 : Int32).toInt ≤ 0) n_c_401 (by decide)
            refine lv_iconst (v := 0) hx hb dX9_run_66 (by decide) ?_
            exact hj_67_403 (0 : Int32) _ (lv_sub hl [0, 1, 2, 3, 4, 5, 6] rfl)
          ·
            have n_c_401 : (r_400.toInt : Int) ≠ 0 := c_ne rfl (by decide) c_401
            have b_r_400 : (1 : Int) ≤ r_400.toInt ∧ r_400.toInt ≤ 1 := r_ne1 b_r_400 (by decide : (0 : Int) ≤ (0 : Int32).toInt ∧ (0 : Int32).toInt ≤ 0) n_c_401 (by decide)
            refine lv_iload hx hb dX9_run_59 (lv_at hl 1 rfl) ?_
            refine lv_iconst (v := 1) hx hb dX9_run_61 (by decide) ?_
            refine lv_iadd hx hb dX9_run_62 ?_
            refine lv_topi (fun z_412 e_z_412 => ?_)
            refine lv_goto (tgt := 67) hx hb dX9_run_63 (by decide) ?_
            exact hj_67_403 z_412 _ (lv_sub hl [0, 1, 2, 3, 4, 5, 6] rfl)
    ·
      have n_c_211 : (r_210.toInt : Int) = 0 := c_eq rfl (by decide) c_211
      have b_r_210 : (0 : Int) ≤ r_210.toInt ∧ r_210.toInt ≤ 0 := r_eq1 b_r_210 (by decide : (0 : Int) ≤ (0 : Int32).toInt ∧ (0 : Int32).toInt ≤ 0) n_c_211 (by decide)
      refine lv_bipush (v := (-2)) hx hb dX9_run_20 (by decide) ?_
      exact W.iret (v := (-2)) hx hb hr (fun t ht hW => ⟨(-2), rfl, trivial, ht⟩) t_nil dX9_run_22
theorem dX9_window_0 : decode cX9_window 0 = .ok (.aload_n 0, 1) := by decide +kernel
theorem dX9_window_1 : decode cX9_window 1 = .ok (.getfield 35, 3) := by decide +kernel
theorem dX9_window_4 : decode cX9_window 4 = .ok (.iload_n 1, 1) := by decide +kernel
theorem dX9_window_5 : decode cX9_window 5 = .ok (.invokevirtual 149, 3) := by decide +kernel
theorem dX9_window_8 : decode cX9_window 8 = .ok (.ifCond .eq 27, 3) := by decide +kernel
theorem dX9_window_11 : decode cX9_window 11 = .ok (.iload_n 2, 1) := by decide +kernel
theorem dX9_window_12 : decode cX9_window 12 = .ok (.iconst 1, 1) := by decide +kernel
theorem dX9_window_13 : decode cX9_window 13 = .ok (.aload_n 0, 1) := by decide +kernel
theorem dX9_window_14 : decode cX9_window 14 = .ok (.getfield 35, 3) := by decide +kernel
theorem dX9_window_17 : decode cX9_window 17 = .ok (.getfield 155, 3) := by decide +kernel
theorem dX9_window_20 : decode cX9_window 20 = .ok (.invokestatic 158, 3) := by decide +kernel
theorem dX9_window_23 : decode cX9_window 23 = .ok (.ifCond .eq 12, 3) := by decide +kernel
theorem dX9_window_26 : decode cX9_window 26 = .ok (.iload_n 3, 1) := by decide +kernel
theorem dX9_window_27 : decode cX9_window 27 = .ok (.iconst 0, 1) := by decide +kernel
theorem dX9_window_28 : decode cX9_window 28 = .ok (.iconst 3, 1) := by decide +kernel
theorem dX9_window_29 : decode cX9_window 29 = .ok (.invokestatic 158, 3) := by decide +kernel
theorem dX9_window_32 : decode cX9_window 32 = .ok (.ifCond .ne 6, 3) := by decide +kernel
theorem dX9_window_35 : decode cX9_window 35 = .ok (.bipush (-2), 2) := by decide +kernel
theorem dX9_window_37 : decode cX9_window 37 = .ok (.ireturn, 1) := by decide +kernel
theorem dX9_window_38 : decode cX9_window 38 = .ok (.iload_n 3, 1) := by decide +kernel
theorem dX9_window_39 : decode cX9_window 39 = .ok (.iconst 2, 1) := by decide +kernel
theorem dX9_window_40 : decode cX9_window 40 = .ok (.if_icmp .ge 7, 3) := by decide +kernel
theorem dX9_window_43 : decode cX9_window 43 = .ok (.iconst 1, 1) := by decide +kernel
theorem dX9_window_44 : decode cX9_window 44 = .ok (.goto 4, 3) := by decide +kernel
theorem dX9_window_47 : decode cX9_window 47 = .ok (.iconst (-1), 1) := by decide +kernel
theorem dX9_window_48 : decode cX9_window 48 = .ok (.istore 4, 2) := by decide +kernel
theorem dX9_window_50 : decode cX9_window 50 = .ok (.aload_n 0, 1) := by decide +kernel
theorem dX9_window_51 : decode cX9_window 51 = .ok (.getfield 35, 3) := by decide +kernel
theorem dX9_window_54 : decode cX9_window 54 = .ok (.iload_n 1, 1) := by decide +kernel
theorem dX9_window_55 : decode cX9_window 55 = .ok (.iconst 0, 1) := by decide +kernel
theorem dX9_window_56 : decode cX9_window 56 = .ok (.iload_n 2, 1) := by decide +kernel
theorem dX9_window_57 : decode cX9_window 57 = .ok (.invokevirtual 162, 3) := by decide +kernel
theorem dX9_window_60 : decode cX9_window 60 = .ok (.istore 5, 2) := by decide +kernel
theorem dX9_window_62 : decode cX9_window 62 = .ok (.iload 5, 2) := by decide +kernel
theorem dX9_window_64 : decode cX9_window 64 = .ok (.istore 6, 2) := by decide +kernel
theorem dX9_window_66 : decode cX9_window 66 = .ok (.iconst 0, 1) := by decide +kernel
theorem dX9_window_67 : decode cX9_window 67 = .ok (.istore 7, 2) := by decide +kernel
theorem dX9_window_69 : decode cX9_window 69 = .ok (.iconst 1, 1) := by decide +kernel
theorem dX9_window_70 : decode cX9_window 70 = .ok (.istore 8, 2) := by decide +kernel
theorem dX9_window_72 : decode cX9_window 72 = .ok (.iload 8, 2) := by decide +kernel
theorem dX9_window_74 : decode cX9_window 74 = .ok (.iload_n 2, 1) := by decide +kernel
theorem dX9_window_75 : decode cX9_window 75 = .ok (.iadd, 1) := by decide +kernel
theorem dX9_window_76 : decode cX9_window 76 = .ok (.aload_n 0, 1) := by decide +kernel
theorem dX9_window_77 : decode cX9_window 77 = .ok (.getfield 35, 3) := by decide +kernel
theorem dX9_window_80 : decode cX9_window 80 = .ok (.getfield 155, 3) := by decide +kernel
theorem dX9_window_83 : decode cX9_window 83 = .ok (.if_icmp .gt 62, 3) := by decide +kernel
theorem dX9_window_86 : decode cX9_window 86 = .ok (.iload 5, 2) := by decide +kernel
theorem dX9_window_88 : decode cX9_window 88 = .ok (.aload_n 0, 1) := by decide +kernel
theorem dX9_window_89 : decode cX9_window 89 = .ok (.getfield 35, 3) := by decide +kernel
theorem dX9_window_92 : decode cX9_window 92 = .ok (.iload_n 1, 1) := by decide +kernel
theorem dX9_window_93 : decode cX9_window 93 = .ok (.iload 8, 2) := by decide +kernel
theorem dX9_window_95 : decode cX9_window 95 = .ok (.iload_n 2, 1) := by decide +kernel
theorem dX9_window_96 : decode cX9_window 96 = .ok (.iadd, 1) := by decide +kernel
theorem dX9_window_97 : decode cX9_window 97 = .ok (.iconst 1, 1) := by decide +kernel
theorem dX9_window_98 : decode cX9_window 98 = .ok (.isub, 1) := by decide +kernel
theorem dX9_window_99 : decode cX9_window 99 = .ok (.invokevirtual 141, 3) := by decide +kernel
theorem dX9_window_102 : decode cX9_window 102 = .ok (.aload_n 0, 1) := by decide +kernel
theorem dX9_window_103 : decode cX9_window 103 = .ok (.getfield 35, 3) := by decide +kernel
theorem dX9_window_106 : decode cX9_window 106 = .ok (.iload_n 1, 1) := by decide +kernel
theorem dX9_window_107 : decode cX9_window 107 = .ok (.iload 8, 2) := by decide +kernel
theorem dX9_window_109 : decode cX9_window 109 = .ok (.iconst 1, 1) := by decide +kernel
theorem dX9_window_110 : decode cX9_window 110 = .ok (.isub, 1) := by decide +kernel
theorem dX9_window_111 : decode cX9_window 111 = .ok (.invokevirtual 141, 3) := by decide +kernel
theorem dX9_window_114 : decode cX9_window 114 = .ok (.isub, 1) := by decide +kernel
theorem dX9_window_115 : decode cX9_window 115 = .ok (.iadd, 1) := by decide +kernel
theorem dX9_window_116 : decode cX9_window 116 = .ok (.istore 5, 2) := by decide +kernel
theorem dX9_window_118 : decode cX9_window 118 = .ok (.iload 4, 2) := by decide +kernel
theorem dX9_window_120 : decode cX9_window 120 = .ok (.iload 5, 2) := by decide +kernel
theorem dX9_window_122 : decode cX9_window 122 = .ok (.imul, 1) := by decide +kernel
theorem dX9_window_123 : decode cX9_window 123 = .ok (.iload 4, 2) := by decide +kernel
theorem dX9_window_125 : decode cX9_window 125 = .ok (.iload 6, 2) := by decide +kernel
theorem dX9_window_127 : decode cX9_window 127 = .ok (.imul, 1) := by decide +kernel
theorem dX9_window_128 : decode cX9_window 128 = .ok (.if_icmp .le 11, 3) := by decide +kernel
theorem dX9_window_131 : decode cX9_window 131 = .ok (.iload 5, 2) := by decide +kernel
theorem dX9_window_133 : decode cX9_window 133 = .ok (.istore 6, 2) := by decide +kernel
theorem dX9_window_135 : decode cX9_window 135 = .ok (.iload 8, 2) := by decide +kernel
theorem dX9_window_137 : decode cX9_window 137 = .ok (.istore 7, 2) := by decide +kernel
theorem dX9_window_139 : decode cX9_window 139 = .ok (.iinc 8 1, 3) := by decide +kernel
theorem dX9_window_142 : decode cX9_window 142 = .ok (.goto (-70), 3) := by decide +kernel
theorem dX9_window_145 : decode cX9_window 145 = .ok (.iload_n 3, 1) := by decide +kernel
theorem dX9_window_146 : decode cX9_window 146 = .ok (.iconst 1, 1) := by decide +kernel
theorem dX9_window_147 : decode cX9_window 147 = .ok (.iand, 1) := by decide +kernel
theorem dX9_window_148 : decode cX9_window 148 = .ok (.ifCond .ne 8, 3) := by decide +kernel
theorem dX9_window_151 : decode cX9_window 151 = .ok (.iload 6, 2) := by decide +kernel
theorem dX9_window_153 : decode cX9_window 153 = .ok (.goto 5, 3) := by decide +kernel
theorem dX9_window_156 : decode cX9_window 156 = .ok (.iload 7, 2) := by decide +kernel
theorem dX9_window_158 : decode cX9_window 158 = .ok (.ireturn, 1) := by decide +kernel
def uX9_window : List Cond := .code yX9_window cX9_window 9 (some .int) :: ([.fieldLink RX9 35 "LuckyTicket" "current" "LLuckyTicket$Roll;", .methodLink RX9 149 yX2_hasLaw, .instanceMethod yX2_hasLaw, .selects RX2 yX2_hasLaw yX2_hasLaw, .initialized RX2, .code yX2_hasLaw cX2_hasLaw 2 (some .boolean), .fieldLink RX2 33 "LuckyTicket$Roll" "laws" "I", .methodLink RX9 158 yX9_isWithin, .static yX9_isWithin, .initialized RX9, .code yX9_isWithin cX9_isWithin 3 (some .boolean), .methodLink RX9 162 yX2_tally, .instanceMethod yX2_tally, .selects RX2 yX2_tally yX2_tally, .code yX2_tally cX2_tally 7 (some .int), .fieldLink RX2 42 "LuckyTicket$Roll" "tickets" "I", .methodLink RX2 78 yJ9_min_7cf53, .static yJ9_min_7cf53, .initialized RJ9, .code yJ9_min_7cf53 cJ9_min_7cf53 2 (some .int), .methodLink RX2 83 yJ9_max_7cf53, .static yJ9_max_7cf53, .code yJ9_max_7cf53 cJ9_max_7cf53 2 (some .int), .fieldLink RX2 15 "LuckyTicket$Roll" "luck" "[I", .methodLink RX9 141 yX2_luckBit, .instanceMethod yX2_luckBit, .selects RX2 yX2_luckBit yX2_luckBit, .code yX2_luckBit cX2_luckBit 3 (some .int), .methodLink RX2 63 yX2_hasTicket, .instanceMethod yX2_hasTicket, .selects RX2 yX2_hasTicket yX2_hasTicket, .code yX2_hasTicket cX2_hasTicket 2 (some .boolean)] ++ wsX90 ++ wsX20)
theorem iX9_window_X9 : ∀ w ∈ wsX90, w ∈ uX9_window := fun _ h => List.mem_cons_of_mem _ (List.mem_append_left _ (List.mem_append_right _ h))
theorem iX9_window_X2 : ∀ w ∈ wsX20, w ∈ uX9_window := fun _ h => List.mem_cons_of_mem _ (List.mem_append_right _ h)
set_option maxRecDepth 20000 in
theorem gX9_window__X2_hasLaw_V149 : GoodIn uX9_window (wsV RX9 149 RX2 yX2_hasLaw uX2_hasLaw) := goodIn_p _ [6] rfl (by decide +kernel)
set_option maxRecDepth 20000 in
theorem gX9_window__X9_isWithin_S158 : GoodIn uX9_window (va_wsS RX9 158 yX9_isWithin uX9_isWithin) := goodIn_p _ [11] rfl (by decide +kernel)
set_option maxRecDepth 20000 in
theorem gX9_window__X2_tally_V162 : GoodIn uX9_window (wsV RX9 162 RX2 yX2_tally uX2_tally) := goodIn_p _ [15, 20, 23] rfl (by decide +kernel)
set_option maxRecDepth 20000 in
theorem gX9_window__X2_luckBit_V141 : GoodIn uX9_window (wsV RX9 141 RX2 yX2_luckBit uX2_luckBit) := goodIn_p _ [28, 32] rfl (by decide +kernel)
set_option maxHeartbeats 4000000 in
set_option maxRecDepth 100000 in
theorem kX9_window (l : Launch) (dC : Nat → ClassId) (dI : Nat → Nat → Nat) (h0 : Nat) (tp : Nat) (sc : Nat) (rd : Nat) (cu : Nat) (im : Nat) (ig : Nat) (sl : Nat) (se : Nat) (sm : Nat) (fc : Nat) (ln : Int32) (bs : Int32) (tk : Int32) (lw : Int32) (li : Int32) (fa : Nat) (lu : Nat) (cL : ClassId) (nl : Nat) (fl : Nat → Int32) (a1 : Int32) (a2 : Int32) (a3 : Int32) (b_ln : (0 : Int) ≤ ln.toInt ∧ ln.toInt ≤ 12) (b_bs : (0 : Int) ≤ bs.toInt ∧ bs.toInt ≤ 16) (b_tk : (0 : Int) ≤ tk.toInt ∧ tk.toInt ≤ 20000) (b_lw : (0 : Int) ≤ lw.toInt ∧ lw.toInt ≤ 9) (hl1 : tk.toInt ≤ (nl : Int)) : Met l yX9_window uX9_window ({ frames := 2, cells := 0, slots := 0, locals := 43 }) (va_Pc [.ref h0, .int a1, .int a2, .int a3] (pw (dC, dI) vwCl [(h0, .inr (7, [.ref tp, .ref sc, .ref rd, .ref cu, .ref im, .ref ig, .ref sl, .ref se, .ref sm, .ref fc])), (cu, .inr (1, [.int ln, .int bs, .int tk, .int lw, .int li, .ref fa, .ref lu])), (lu, .inl (cL, nl, .inl fl))] [(cL, .int)])) (vp_Si (fun r => True)) 0 0 (fun _ => False) := by
  refine Met.ofW (cc := cX9_window) (maxL := 9) (ret := (some .int)) (by decide) rfl ?_
  intro p e s m args below meth c s₁ B hml hv
  obtain ⟨rfl, hP, hK, hN⟩ := hv
  have hx := B.exec
  have hb := B.bytes
  have hr := B.returns
  have hts := atoms_spec (ws := uX9_window) B.pre
  have hown : s.vm.findClass RX9 = some m.cls := findClass_of_methodNamed B.named
  have hlocks := B.notSynchronized
  have hl := lv_entry ([.ref h0, .int a1, .int a2, .int a3]) (n := 9) (Nat.le_of_ble_eq_true rfl)
  rw [lg_entry_eq]
  generalize (lg_sl ([.ref h0, .int a1, .int a2, .int a3]) ++ List.replicate (9 - (lg_sl ([.ref h0, .int a1, .int a2, .int a3])).length) Slot.unset).toArray = ls at hl ⊢
  have hl : lv_has ls 9 [(0, .ref h0), (1, .int a1), (2, .int a2), (3, .int a3)] := hl
  refine lv_aload_n hx hb dX9_window_0 rfl (lv_at hl 0 rfl) ?_
  refine va_get (D := (dC, dI)) (ci := 7) (v := .ref cu) (C := RX9) (T := TX9) (N := 10) hx hb hts iX9_window_X9 hown hK hP 0 rfl rfl 3 (by decide) (hts (.fieldLink RX9 35 "LuckyTicket" "current" "LLuckyTicket$Roll;") (List.mem_of_getElem? (i := 1) rfl)) (fun _ h9 => h9) rfl dX9_window_1 ?_
  refine lv_iload_n hx hb dX9_window_4 rfl (lv_at hl 1 rfl) ?_
  refine vp_callSi (W.runV (As := [.int a1]) (rest := []) ⟨hx, hb, hml, hown, hts⟩ (kX2_hasLaw l dC dI cu ln bs tk lw li fa lu a1 b_ln b_bs b_tk b_lw) (cwV 1 hts gX9_window__X2_hasLaw_V149 rfl rfl rfl (by decide +kernel) ⟨lel 1 2 rfl, lel 21 43 rfl⟩) ⟨pw_fb, va_recv hK hP (ci := 1) (q0 := 1) rfl rfl, (pw_use hP hK hN [1] rfl [] rfl)⟩ rfl rfl hl.1 rfl (lv_room (Nat.le_of_ble_eq_true rfl)) dX9_window_5 ⟨lel 0 0 rfl, lel 0 0 rfl⟩) (fun r_167 h_r_167 => ?_)
  obtain ⟨b_r_167, nz_r_167⟩ := h_r_167
  have b_r_167 : (0 : Int) ≤ r_167.toInt ∧ r_167.toInt ≤ 1 := b_r_167
  refine lv_if_eq (tgt := 35) hx hb dX9_window_8 (by decide) (fun c_168 => ?_) (fun c_168 => ?_)
  ·
    have n_c_168 : (r_167.toInt : Int) = 0 := c_eq rfl (by decide) c_168
    have b_r_167 : (0 : Int) ≤ r_167.toInt ∧ r_167.toInt ≤ 0 := r_eq1 b_r_167 (by decide : (0 : Int) ≤ (0 : Int32).toInt ∧ (0 : Int32).toInt ≤ 0) n_c_168 (by decide)
    refine lv_bipush (v := (-2)) hx hb dX9_window_35 (by decide) ?_
    exact W.iret (v := (-2)) hx hb hr (fun t ht hW => ⟨(-2), rfl, trivial, ht⟩) t_nil dX9_window_37
  ·
    have n_c_168 : (r_167.toInt : Int) ≠ 0 := c_ne rfl (by decide) c_168
    have b_r_167 : (1 : Int) ≤ r_167.toInt ∧ r_167.toInt ≤ 1 := r_ne1 b_r_167 (by decide : (0 : Int) ≤ (0 : Int32).toInt ∧ (0 : Int32).toInt ≤ 0) n_c_168 (by decide)
    obtain ⟨b_a1, g_169⟩ := nz_r_167 c_168
    refine lv_iload_n hx hb dX9_window_11 rfl (lv_at hl 2 rfl) ?_
    refine lv_iconst (v := 1) hx hb dX9_window_12 (by decide) ?_
    refine lv_aload_n hx hb dX9_window_13 rfl (lv_at hl 0 rfl) ?_
    refine va_get (D := (dC, dI)) (ci := 7) (v := .ref cu) (C := RX9) (T := TX9) (N := 10) hx hb hts iX9_window_X9 hown hK hP 0 rfl rfl 3 (by decide) (hts (.fieldLink RX9 35 "LuckyTicket" "current" "LLuckyTicket$Roll;") (List.mem_of_getElem? (i := 1) rfl)) (fun _ h9 => h9) rfl dX9_window_14 ?_
    refine va_getN (own := RX9) (index := 155) (ref := RX2) (host := RX9) (D := (dC, dI)) (ci := 1) (v := .int tk) (C := RX2) (T := TX2) (N := 7) hx hb hts iX9_window_X2 hown hK hP 1 rfl rfl 2 (by decide) (va_Nw.use rfl (hN _ (List.mem_of_getElem? (i := 18) rfl))) (fun _ h9 => h9) rfl dX9_window_17 ?_
    refine vp_callSi (W.runS (As := [.int a2, .int 1, .int tk]) (rest := []) ⟨hx, hb, hml, hown, hts⟩ (kX9_isWithin l dC dI a2 1 tk ) (va_cwS 3 hts gX9_window__X9_isWithin_S158 rfl rfl rfl (by decide +kernel) ⟨lel 1 2 rfl, lel 22 43 rfl⟩) ⟨pn_fb, pn_use⟩ rfl rfl hl.1 rfl (lv_room (Nat.le_of_ble_eq_true rfl)) dX9_window_20 ⟨lel 0 0 rfl, lel 0 0 rfl⟩) (fun r_170 h_r_170 => ?_)
    obtain ⟨b_r_170, nz_r_170⟩ := h_r_170
    have b_r_170 : (0 : Int) ≤ r_170.toInt ∧ r_170.toInt ≤ 1 := b_r_170
    refine lv_if_eq (tgt := 35) hx hb dX9_window_23 (by decide) (fun c_171 => ?_) (fun c_171 => ?_)
    ·
      have n_c_171 : (r_170.toInt : Int) = 0 := c_eq rfl (by decide) c_171
      have b_r_170 : (0 : Int) ≤ r_170.toInt ∧ r_170.toInt ≤ 0 := r_eq1 b_r_170 (by decide : (0 : Int) ≤ (0 : Int32).toInt ∧ (0 : Int32).toInt ≤ 0) n_c_171 (by decide)
      refine lv_bipush (v := (-2)) hx hb dX9_window_35 (by decide) ?_
      exact W.iret (v := (-2)) hx hb hr (fun t ht hW => ⟨(-2), rfl, trivial, ht⟩) t_nil dX9_window_37
    ·
      have n_c_171 : (r_170.toInt : Int) ≠ 0 := c_ne rfl (by decide) c_171
      have b_r_170 : (1 : Int) ≤ r_170.toInt ∧ r_170.toInt ≤ 1 := r_ne1 b_r_170 (by decide : (0 : Int) ≤ (0 : Int32).toInt ∧ (0 : Int32).toInt ≤ 0) n_c_171 (by decide)
      have g_172 := nz_r_170 c_171
      have lt0_g_172 := (by decide : (1 : Int32).toInt = 1)
      have b_a2 : (1 : Int) ≤ a2.toInt ∧ a2.toInt ≤ 20000 := by
        have q0 := (ti_rng a2)
        have q1 := (by decide : (1 : Int) ≤ (1 : Int32).toInt ∧ (1 : Int32).toInt ≤ 1)
        have q2 := b_tk
        omega
      refine lv_iload_n hx hb dX9_window_26 rfl (lv_at hl 3 rfl) ?_
      refine lv_iconst (v := 0) hx hb dX9_window_27 (by decide) ?_
      refine lv_iconst (v := 3) hx hb dX9_window_28 (by decide) ?_
      refine vp_callSi (W.runS (As := [.int a3, .int 0, .int 3]) (rest := []) ⟨hx, hb, hml, hown, hts⟩ (kX9_isWithin l dC dI a3 0 3 ) (va_cwS 3 hts gX9_window__X9_isWithin_S158 rfl rfl rfl (by decide +kernel) ⟨lel 1 2 rfl, lel 22 43 rfl⟩) ⟨pn_fb, pn_use⟩ rfl rfl hl.1 rfl (lv_room (Nat.le_of_ble_eq_true rfl)) dX9_window_29 ⟨lel 0 0 rfl, lel 0 0 rfl⟩) (fun r_173 h_r_173 => ?_)
      obtain ⟨b_r_173, nz_r_173⟩ := h_r_173
      have b_r_173 : (0 : Int) ≤ r_173.toInt ∧ r_173.toInt ≤ 1 := b_r_173
      refine lv_if_ne (tgt := 38) hx hb dX9_window_32 (by decide) (fun c_174 => ?_) (fun c_174 => ?_)
      ·
        have n_c_174 : (r_173.toInt : Int) ≠ 0 := c_ne rfl (by decide) c_174
        have b_r_173 : (1 : Int) ≤ r_173.toInt ∧ r_173.toInt ≤ 1 := r_ne1 b_r_173 (by decide : (0 : Int) ≤ (0 : Int32).toInt ∧ (0 : Int32).toInt ≤ 0) n_c_174 (by decide)
        have g_175 := nz_r_173 c_174
        have lt0_g_175 := (by decide : (0 : Int32).toInt = 0)
        have lt1_g_175 := (by decide : (3 : Int32).toInt = 3)
        have b_a3 : (0 : Int) ≤ a3.toInt ∧ a3.toInt ≤ 3 := by
          have q0 := (ti_rng a3)
          have q1 := (by decide : (0 : Int) ≤ (0 : Int32).toInt ∧ (0 : Int32).toInt ≤ 0)
          have q2 := (by decide : (3 : Int) ≤ (3 : Int32).toInt ∧ (3 : Int32).toInt ≤ 3)
          omega
        refine lv_iload_n hx hb dX9_window_38 rfl (lv_at hl 3 rfl) ?_
        refine lv_iconst (v := 2) hx hb dX9_window_39 (by decide) ?_
        refine cutP (σ := Int32) (pc2 := 48) (st2 := fun v => [.int v]) (cells2 := 0) (slots2 := 0) (fun v ls => ((-1 : Int) ≤ v.toInt ∧ v.toInt ≤ 1) ∧ lv_has ls 9 [(0, .ref h0), (1, .int a1), (2, .int a2), (3, .int a3)]) (fun v ls hI => ?_) (fun hj_48_177 => ?_)
        ·
          obtain ⟨y_177, rfl⟩ : ∃ z, z = v := ⟨_, rfl⟩
          obtain ⟨b_y_177, hl⟩ := hI
          have b_y_177 : (-1 : Int) ≤ y_177.toInt ∧ y_177.toInt ≤ 1 := b_y_177
          have hl : lv_has ls 9 [(0, .ref h0), (1, .int a1), (2, .int a2), (3, .int a3)] := hl
          refine lv_istore (lv' := [(4, .int y_177), (0, .ref h0), (1, .int a1), (2, .int a2), (3, .int a3)]) hx hb dX9_window_48 hl (by decide) rfl (fun ls hl => ?_)
          refine lv_aload_n hx hb dX9_window_50 rfl (lv_at hl 1 rfl) ?_
          refine va_get (D := (dC, dI)) (ci := 7) (v := .ref cu) (C := RX9) (T := TX9) (N := 10) hx hb hts iX9_window_X9 hown hK hP 0 rfl rfl 3 (by decide) (hts (.fieldLink RX9 35 "LuckyTicket" "current" "LLuckyTicket$Roll;") (List.mem_of_getElem? (i := 1) rfl)) (fun _ h9 => h9) rfl dX9_window_51 ?_
          refine lv_iload_n hx hb dX9_window_54 rfl (lv_at hl 2 rfl) ?_
          refine lv_iconst (v := 0) hx hb dX9_window_55 (by decide) ?_
          refine lv_iload_n hx hb dX9_window_56 rfl (lv_at hl 3 rfl) ?_
          refine vp_callSi (W.runV (As := [.int a1, .int 0, .int a2]) (rest := []) ⟨hx, hb, hml, hown, hts⟩ (kX2_tally l dC dI cu ln bs tk lw li fa lu cL nl fl a1 0 a2 b_ln b_bs b_tk b_lw (by omega)) (cwV 3 hts gX9_window__X2_tally_V162 rfl rfl rfl (by decide +kernel) ⟨lel 2 2 rfl, lel 39 43 rfl⟩) ⟨pw_fb, va_recv hK hP (ci := 1) (q0 := 1) rfl rfl, (pw_use hP hK hN [1, 2] rfl [0] rfl)⟩ rfl rfl hl.1 rfl (lv_room (Nat.le_of_ble_eq_true rfl)) dX9_window_57 ⟨lel 0 0 rfl, lel 0 0 rfl⟩) (fun r_178 h_r_178 => ?_)
          refine lv_istore (lv' := [(5, .int r_178), (4, .int y_177), (0, .ref h0), (1, .int a1), (2, .int a2), (3, .int a3)]) hx hb dX9_window_60 hl (by decide) rfl (fun ls hl => ?_)
          refine lv_iload hx hb dX9_window_62 (lv_at hl 0 rfl) ?_
          refine lv_istore (lv' := [(6, .int r_178), (5, .int r_178), (4, .int y_177), (0, .ref h0), (1, .int a1), (2, .int a2), (3, .int a3)]) hx hb dX9_window_64 hl (by decide) rfl (fun ls hl => ?_)
          refine lv_iconst (v := 0) hx hb dX9_window_66 (by decide) ?_
          refine lv_istore (lv' := [(7, .int 0), (6, .int r_178), (5, .int r_178), (4, .int y_177), (0, .ref h0), (1, .int a1), (2, .int a2), (3, .int a3)]) hx hb dX9_window_67 hl (by decide) rfl (fun ls hl => ?_)
          refine lv_iconst (v := 1) hx hb dX9_window_69 (by decide) ?_
          refine lv_istore (lv' := [(8, .int 1), (7, .int 0), (6, .int r_178), (5, .int r_178), (4, .int y_177), (0, .ref h0), (1, .int a1), (2, .int a2), (3, .int a3)]) hx hb dX9_window_70 hl (by decide) rfl (fun ls hl => ?_)
          refine loopP (σ := Int32 × Int32 × Int32 × Int32) (fun v => (20000 - v.1.toInt).toNat) (fun v ls => ((1 : Int) ≤ v.1.toInt ∧ v.1.toInt ≤ 20000) ∧ ((0 : Int) ≤ v.2.1.toInt ∧ v.2.1.toInt ≤ 2147483647) ∧ lv_has ls 9 [(8, .int v.1), (7, .int v.2.1), (6, .int v.2.2.1), (5, .int v.2.2.2), (4, .int y_177), (0, .ref h0), (1, .int a1), (2, .int a2), (3, .int a3)]) (fun v ls hI ih_72_302 => ?_) ((1 : Int32), (0 : Int32), r_178, r_178) ⟨(show (1 : Int) ≤ (1 : Int32).toInt ∧ (1 : Int32).toInt ≤ 20000 from (rg_w (by decide : (1 : Int) ≤ (1 : Int32).toInt ∧ (1 : Int32).toInt ≤ 1) (by decide) (by decide))), (show (0 : Int) ≤ (0 : Int32).toInt ∧ (0 : Int32).toInt ≤ 2147483647 from (rg_w (by decide : (0 : Int) ≤ (0 : Int32).toInt ∧ (0 : Int32).toInt ≤ 0) (by decide) (by decide))), lv_sub hl [0, 1, 2, 3, 4, 5, 6, 7, 8] rfl⟩
          obtain ⟨y_209, y_210, y_211, y_212⟩ := v
          obtain ⟨b_y_209, b_y_210, hl⟩ := hI
          have b_y_209 : (1 : Int) ≤ y_209.toInt ∧ y_209.toInt ≤ 20000 := b_y_209
          have b_y_210 : (0 : Int) ≤ y_210.toInt ∧ y_210.toInt ≤ 2147483647 := b_y_210
          have hl : lv_has ls 9 [(8, .int y_209), (7, .int y_210), (6, .int y_211), (5, .int y_212), (4, .int y_177), (0, .ref h0), (1, .int a1), (2, .int a2), (3, .int a3)] := hl
          refine lv_iload hx hb dX9_window_72 (lv_at hl 0 rfl) ?_
          refine lv_iload_n hx hb dX9_window_74 rfl (lv_at hl 7 rfl) ?_
          refine lv_iadd hx hb dX9_window_75 ?_
          refine lv_topi (fun z_303 e_z_303 => ?_)
          obtain ⟨q_z_303, b_z_303⟩ := ti_add (lo := 2) (hi := 40000) e_z_303 rfl rfl b_y_209 b_a2 (by decide)
          refine lv_aload_n hx hb dX9_window_76 rfl (lv_at hl 5 rfl) ?_
          refine va_get (D := (dC, dI)) (ci := 7) (v := .ref cu) (C := RX9) (T := TX9) (N := 10) hx hb hts iX9_window_X9 hown hK hP 0 rfl rfl 3 (by decide) (hts (.fieldLink RX9 35 "LuckyTicket" "current" "LLuckyTicket$Roll;") (List.mem_of_getElem? (i := 1) rfl)) (fun _ h9 => h9) rfl dX9_window_77 ?_
          refine va_getN (own := RX9) (index := 155) (ref := RX2) (host := RX9) (D := (dC, dI)) (ci := 1) (v := .int tk) (C := RX2) (T := TX2) (N := 7) hx hb hts iX9_window_X2 hown hK hP 1 rfl rfl 2 (by decide) (va_Nw.use rfl (hN _ (List.mem_of_getElem? (i := 18) rfl))) (fun _ h9 => h9) rfl dX9_window_80 ?_
          refine lv_icmp_gt (tgt := 145) hx hb dX9_window_83 (by decide) (fun c_304 => ?_) (fun c_304 => ?_)
          ·
            have n_c_304 : (tk.toInt : Int) < z_303.toInt := c_gt rfl rfl c_304
            refine lv_iload_n hx hb dX9_window_145 rfl (lv_at hl 8 rfl) ?_
            refine lv_iconst (v := 1) hx hb dX9_window_146 (by decide) ?_
            refine lv_iand hx hb dX9_window_147 ?_
            refine lv_topi (fun z_318 e_z_318 => ?_)
            have b_z_318 : (0 : Int) ≤ z_318.toInt ∧ z_318.toInt ≤ 1 := ti_and (k := 1) e_z_318 (by decide) (by decide) (by decide)
            refine lv_if_ne (tgt := 156) hx hb dX9_window_148 (by decide) (fun c_319 => ?_) (fun c_319 => ?_)
            ·
              have n_c_319 : (z_318.toInt : Int) ≠ 0 := c_ne rfl (by decide) c_319
              have b_z_318 : (1 : Int) ≤ z_318.toInt ∧ z_318.toInt ≤ 1 := r_ne1 b_z_318 (by decide : (0 : Int) ≤ (0 : Int32).toInt ∧ (0 : Int32).toInt ≤ 0) n_c_319 (by decide)
              refine lv_iload hx hb dX9_window_156 (lv_at hl 1 rfl) ?_
              exact W.iret (v := y_210) hx hb hr (fun t ht hW => ⟨y_210, rfl, trivial, ht⟩) t_nil dX9_window_158
            ·
              have n_c_319 : (z_318.toInt : Int) = 0 := c_eq rfl (by decide) c_319
              have b_z_318 : (0 : Int) ≤ z_318.toInt ∧ z_318.toInt ≤ 0 := r_eq1 b_z_318 (by decide : (0 : Int) ≤ (0 : Int32).toInt ∧ (0 : Int32).toInt ≤ 0) n_c_319 (by decide)
              refine lv_iload hx hb dX9_window_151 (lv_at hl 2 rfl) ?_
              refine lv_goto (tgt := 158) hx hb dX9_window_153 (by decide) ?_
              exact W.iret (v := y_211) hx hb hr (fun t ht hW => ⟨y_211, rfl, trivial, ht⟩) t_nil dX9_window_158
          ·
            have n_c_304 : (z_303.toInt : Int) ≤ tk.toInt := c_ngt rfl rfl c_304
            have b_z_303 : (2 : Int) ≤ z_303.toInt ∧ z_303.toInt ≤ 20000 := r_le1 b_z_303 b_tk n_c_304 (by decide)
            have b_y_209 : (1 : Int) ≤ y_209.toInt ∧ y_209.toInt ≤ 19999 := by
              have q0 := b_z_303; have q1 := q_z_303; have q2 := b_y_209; have q3 := b_a2; omega
            have b_a2 : (1 : Int) ≤ a2.toInt ∧ a2.toInt ≤ 19999 := by
              have q0 := b_z_303; have q1 := q_z_303; have q2 := b_a2; have q3 := b_y_209; omega
            have b_tk : (2 : Int) ≤ tk.toInt ∧ tk.toInt ≤ 20000 := r_le2 b_z_303 b_tk n_c_304 (by decide)
            refine lv_iload hx hb dX9_window_86 (lv_at hl 3 rfl) ?_
            refine lv_aload_n hx hb dX9_window_88 rfl (lv_at hl 5 rfl) ?_
            refine va_get (D := (dC, dI)) (ci := 7) (v := .ref cu) (C := RX9) (T := TX9) (N := 10) hx hb hts iX9_window_X9 hown hK hP 0 rfl rfl 3 (by decide) (hts (.fieldLink RX9 35 "LuckyTicket" "current" "LLuckyTicket$Roll;") (List.mem_of_getElem? (i := 1) rfl)) (fun _ h9 => h9) rfl dX9_window_89 ?_
            refine lv_iload_n hx hb dX9_window_92 rfl (lv_at hl 6 rfl) ?_
            refine lv_iload hx hb dX9_window_93 (lv_at hl 0 rfl) ?_
            refine lv_iload_n hx hb dX9_window_95 rfl (lv_at hl 7 rfl) ?_
            refine lv_iadd hx hb dX9_window_96 ?_
            refine lv_topi (fun z_320 e_z_320 => ?_)
            obtain ⟨q_z_320, b_z_320⟩ := ti_add (lo := 2) (hi := 39998) e_z_320 rfl rfl b_y_209 b_a2 (by decide)
            refine lv_iconst (v := 1) hx hb dX9_window_97 (by decide) ?_
            refine lv_isub hx hb dX9_window_98 ?_
            refine lv_topi (fun z_321 e_z_321 => ?_)
            obtain ⟨q_z_321, b_z_321⟩ := ti_sub (lo := 1) (hi := 39997) e_z_321 rfl (by decide : (1 : Int32).toInt = 1) b_z_320 (by decide : (1 : Int) ≤ (1 : Int32).toInt ∧ (1 : Int32).toInt ≤ 1) (by decide)
            refine vp_callSi (W.runV (As := [.int a1, .int z_321]) (rest := [.int y_212]) ⟨hx, hb, hml, hown, hts⟩ (kX2_luckBit l dC dI cu ln bs tk lw li fa lu cL nl fl a1 z_321 b_ln b_bs (rg_w b_tk (by decide) (by decide)) b_lw (by omega)) (cwV 2 hts gX9_window__X2_luckBit_V141 rfl rfl rfl (by decide +kernel) ⟨lel 2 2 rfl, lel 43 43 rfl⟩) ⟨pw_fb, va_recv hK hP (ci := 1) (q0 := 1) rfl rfl, (pw_use hP hK hN [1, 2] rfl [0] rfl)⟩ rfl rfl hl.1 rfl (lv_room (Nat.le_of_ble_eq_true rfl)) dX9_window_99 ⟨lel 0 0 rfl, lel 0 0 rfl⟩) (fun r_322 h_r_322 => ?_)
            have b_r_322 := h_r_322
            have b_r_322 : (0 : Int) ≤ r_322.toInt ∧ r_322.toInt ≤ 1 := b_r_322
            refine lv_aload_n hx hb dX9_window_102 rfl (lv_at hl 5 rfl) ?_
            refine va_get (D := (dC, dI)) (ci := 7) (v := .ref cu) (C := RX9) (T := TX9) (N := 10) hx hb hts iX9_window_X9 hown hK hP 0 rfl rfl 3 (by decide) (hts (.fieldLink RX9 35 "LuckyTicket" "current" "LLuckyTicket$Roll;") (List.mem_of_getElem? (i := 1) rfl)) (fun _ h9 => h9) rfl dX9_window_103 ?_
            refine lv_iload_n hx hb dX9_window_106 rfl (lv_at hl 6 rfl) ?_
            refine lv_iload hx hb dX9_window_107 (lv_at hl 0 rfl) ?_
            refine lv_iconst (v := 1) hx hb dX9_window_109 (by decide) ?_
            refine lv_isub hx hb dX9_window_110 ?_
            refine lv_topi (fun z_323 e_z_323 => ?_)
            obtain ⟨q_z_323, b_z_323⟩ := ti_sub (lo := 0) (hi := 19998) e_z_323 rfl (by decide : (1 : Int32).toInt = 1) b_y_209 (by decide : (1 : Int) ≤ (1 : Int32).toInt ∧ (1 : Int32).toInt ≤ 1) (by decide)
            refine vp_callSi (W.runV (As := [.int a1, .int z_323]) (rest := [.int r_322, .int y_212]) ⟨hx, hb, hml, hown, hts⟩ (kX2_luckBit l dC dI cu ln bs tk lw li fa lu cL nl fl a1 z_323 b_ln b_bs (rg_w b_tk (by decide) (by decide)) b_lw (by omega)) (cwV 2 hts gX9_window__X2_luckBit_V141 rfl rfl rfl (by decide +kernel) ⟨lel 2 2 rfl, lel 43 43 rfl⟩) ⟨pw_fb, va_recv hK hP (ci := 1) (q0 := 1) rfl rfl, (pw_use hP hK hN [1, 2] rfl [0] rfl)⟩ rfl rfl hl.1 rfl (lv_room (Nat.le_of_ble_eq_true rfl)) dX9_window_111 ⟨lel 0 0 rfl, lel 0 0 rfl⟩) (fun r_324 h_r_324 => ?_)
            have b_r_324 := h_r_324
            have b_r_324 : (0 : Int) ≤ r_324.toInt ∧ r_324.toInt ≤ 1 := b_r_324
            refine lv_isub hx hb dX9_window_114 ?_
            refine lv_topi (fun z_325 e_z_325 => ?_)
            obtain ⟨q_z_325, b_z_325⟩ := ti_sub (lo := -1) (hi := 1) e_z_325 rfl rfl b_r_322 b_r_324 (by decide)
            refine lv_iadd hx hb dX9_window_115 ?_
            refine lv_topi (fun z_326 e_z_326 => ?_)
            refine lv_istore (lv' := [(5, .int z_326), (8, .int y_209), (7, .int y_210), (6, .int y_211), (4, .int y_177), (0, .ref h0), (1, .int a1), (2, .int a2), (3, .int a3)]) hx hb dX9_window_116 hl (by decide) rfl (fun ls hl => ?_)
            refine lv_iload hx hb dX9_window_118 (lv_at hl 4 rfl) ?_
            refine lv_iload hx hb dX9_window_120 (lv_at hl 0 rfl) ?_
            refine lv_imul hx hb dX9_window_122 ?_
            refine lv_topi (fun z_327 e_z_327 => ?_)
            refine lv_iload hx hb dX9_window_123 (lv_at hl 4 rfl) ?_
            refine lv_iload hx hb dX9_window_125 (lv_at hl 3 rfl) ?_
            refine lv_imul hx hb dX9_window_127 ?_
            refine lv_topi (fun z_328 e_z_328 => ?_)
            refine cutP (σ := Int32 × Int32) (pc2 := 139) (st2 := fun v => []) (cells2 := 0) (slots2 := 0) (fun v ls => ((0 : Int) ≤ v.1.toInt ∧ v.1.toInt ≤ 2147483647) ∧ lv_has ls 9 [(5, .int z_326), (8, .int y_209), (7, .int v.1), (6, .int v.2), (4, .int y_177), (0, .ref h0), (1, .int a1), (2, .int a2), (3, .int a3)]) (fun v ls hI => ?_) (fun hj_139_331 => ?_)
            ·
              obtain ⟨y_330, y_331⟩ := v
              obtain ⟨b_y_330, hl⟩ := hI
              have b_y_330 : (0 : Int) ≤ y_330.toInt ∧ y_330.toInt ≤ 2147483647 := b_y_330
              have hl : lv_has ls 9 [(5, .int z_326), (8, .int y_209), (7, .int y_330), (6, .int y_331), (4, .int y_177), (0, .ref h0), (1, .int a1), (2, .int a2), (3, .int a3)] := hl
              obtain ⟨z_332, e_z_332⟩ : ∃ y : Int32, y = y_209 + 1 := ⟨_, rfl⟩
              refine lv_iinc (v := z_332) (lv' := [(8, .int z_332), (5, .int z_326), (7, .int y_330), (6, .int y_331), (4, .int y_177), (0, .ref h0), (1, .int a1), (2, .int a2), (3, .int a3)]) hx hb dX9_window_139 hl (k := 1) rfl (by rw [e_z_332]; rfl) (by decide) rfl (fun ls hl => ?_)
              obtain ⟨q_z_332, b_z_332⟩ := ti_add (lo := 2) (hi := 20000) e_z_332 rfl (by decide : (1 : Int32).toInt = 1) b_y_209 (by decide : (1 : Int) ≤ (1 : Int32).toInt ∧ (1 : Int32).toInt ≤ 1) (by decide)
              refine lv_goto (tgt := 72) hx hb dX9_window_142 (by decide) ?_
              exact ih_72_302 (z_332, y_330, y_331, z_326) _ ⟨(show (1 : Int) ≤ z_332.toInt ∧ z_332.toInt ≤ 20000 from (rg_w b_z_332 (by decide) (by decide))), (show (0 : Int) ≤ y_330.toInt ∧ y_330.toInt ≤ 2147483647 from b_y_330), lv_sub hl [0, 2, 3, 1, 4, 5, 6, 7, 8] rfl⟩ (show (20000 - z_332.toInt).toNat < (20000 - y_209.toInt).toNat by omega)
            ·
              refine lv_icmp_le (tgt := 139) hx hb dX9_window_128 (by decide) (fun c_329 => ?_) (fun c_329 => ?_)
              ·
                have n_c_329 : (z_327.toInt : Int) ≤ z_328.toInt := c_le rfl rfl c_329
                exact hj_139_331 (y_210, y_211) _ ⟨(show (0 : Int) ≤ y_210.toInt ∧ y_210.toInt ≤ 2147483647 from b_y_210), lv_sub hl [0, 1, 2, 3, 4, 5, 6, 7, 8] rfl⟩
              ·
                have n_c_329 : (z_328.toInt : Int) < z_327.toInt := c_nle rfl rfl c_329
                have b_z_328 : (-2147483648 : Int) ≤ z_328.toInt ∧ z_328.toInt ≤ 2147483646 := r_lt1 (ti_rng z_328) (ti_rng z_327) n_c_329 (by decide)
                have b_z_327 : (-2147483647 : Int) ≤ z_327.toInt ∧ z_327.toInt ≤ 2147483647 := r_lt2 (ti_rng z_328) (ti_rng z_327) n_c_329 (by decide)
                refine lv_iload hx hb dX9_window_131 (lv_at hl 0 rfl) ?_
                refine lv_istore (lv' := [(6, .int z_326), (5, .int z_326), (8, .int y_209), (7, .int y_210), (4, .int y_177), (0, .ref h0), (1, .int a1), (2, .int a2), (3, .int a3)]) hx hb dX9_window_133 hl (by decide) rfl (fun ls hl => ?_)
                refine lv_iload hx hb dX9_window_135 (lv_at hl 2 rfl) ?_
                refine lv_istore (lv' := [(7, .int y_209), (6, .int z_326), (5, .int z_326), (8, .int y_209), (4, .int y_177), (0, .ref h0), (1, .int a1), (2, .int a2), (3, .int a3)]) hx hb dX9_window_137 hl (by decide) rfl (fun ls hl => ?_)
                exact hj_139_331 (y_209, z_326) _ ⟨(show (0 : Int) ≤ y_209.toInt ∧ y_209.toInt ≤ 2147483647 from (rg_w b_y_209 (by decide) (by decide))), lv_sub hl [2, 3, 0, 1, 4, 5, 6, 7, 8] rfl⟩
        ·
          refine lv_icmp_ge (tgt := 47) hx hb dX9_window_40 (by decide) (fun c_176 => ?_) (fun c_176 => ?_)
          ·
            have n_c_176 : (2 : Int) ≤ a3.toInt := c_ge rfl (by decide) c_176
            have b_a3 : (2 : Int) ≤ a3.toInt ∧ a3.toInt ≤ 3 := r_le2 (by decide : (2 : Int) ≤ (2 : Int32).toInt ∧ (2 : Int32).toInt ≤ 2) b_a3 n_c_176 (by decide)
            refine lv_iconst (v := (-1)) hx hb dX9_window_47 (by decide) ?_
            exact hj_48_177 (-1 : Int32) _ ⟨(show (-1 : Int) ≤ (-1 : Int32).toInt ∧ (-1 : Int32).toInt ≤ 1 from (rg_w (by decide : (-1 : Int) ≤ ((-1) : Int32).toInt ∧ ((-1) : Int32).toInt ≤ -1) (by decide) (by decide))), lv_sub hl [0, 1, 2, 3] rfl⟩
          ·
            have n_c_176 : (a3.toInt : Int) < 2 := c_nge rfl (by decide) c_176
            have b_a3 : (0 : Int) ≤ a3.toInt ∧ a3.toInt ≤ 1 := r_lt1 b_a3 (by decide : (2 : Int) ≤ (2 : Int32).toInt ∧ (2 : Int32).toInt ≤ 2) n_c_176 (by decide)
            refine lv_iconst (v := 1) hx hb dX9_window_43 (by decide) ?_
            refine lv_goto (tgt := 48) hx hb dX9_window_44 (by decide) ?_
            exact hj_48_177 (1 : Int32) _ ⟨(show (-1 : Int) ≤ (1 : Int32).toInt ∧ (1 : Int32).toInt ≤ 1 from (rg_w (by decide : (1 : Int) ≤ (1 : Int32).toInt ∧ (1 : Int32).toInt ≤ 1) (by decide) (by decide))), lv_sub hl [0, 1, 2, 3] rfl⟩
      ·
        have n_c_174 : (r_173.toInt : Int) = 0 := c_eq rfl (by decide) c_174
        have b_r_173 : (0 : Int) ≤ r_173.toInt ∧ r_173.toInt ≤ 0 := r_eq1 b_r_173 (by decide : (0 : Int) ≤ (0 : Int32).toInt ∧ (0 : Int32).toInt ≤ 0) n_c_174 (by decide)
        refine lv_bipush (v := (-2)) hx hb dX9_window_35 (by decide) ?_
        exact W.iret (v := (-2)) hx hb hr (fun t ht hW => ⟨(-2), rfl, trivial, ht⟩) t_nil dX9_window_37
theorem dX9_have_0 : decode cX9_have 0 = .ok (.aload_n 0, 1) := by decide +kernel
theorem dX9_have_1 : decode cX9_have 1 = .ok (.getfield 35, 3) := by decide +kernel
theorem dX9_have_4 : decode cX9_have 4 = .ok (.iload_n 1, 1) := by decide +kernel
theorem dX9_have_5 : decode cX9_have 5 = .ok (.invokevirtual 149, 3) := by decide +kernel
theorem dX9_have_8 : decode cX9_have 8 = .ok (.ifCond .eq 7, 3) := by decide +kernel
theorem dX9_have_11 : decode cX9_have 11 = .ok (.iload_n 2, 1) := by decide +kernel
theorem dX9_have_12 : decode cX9_have 12 = .ok (.ifCond .ge 6, 3) := by decide +kernel
theorem dX9_have_15 : decode cX9_have 15 = .ok (.bipush (-2), 2) := by decide +kernel
theorem dX9_have_17 : decode cX9_have 17 = .ok (.ireturn, 1) := by decide +kernel
theorem dX9_have_18 : decode cX9_have 18 = .ok (.iconst 0, 1) := by decide +kernel
theorem dX9_have_19 : decode cX9_have 19 = .ok (.istore_n 3, 1) := by decide +kernel
theorem dX9_have_20 : decode cX9_have 20 = .ok (.iconst 0, 1) := by decide +kernel
theorem dX9_have_21 : decode cX9_have 21 = .ok (.istore 4, 2) := by decide +kernel
theorem dX9_have_23 : decode cX9_have 23 = .ok (.iload 4, 2) := by decide +kernel
theorem dX9_have_25 : decode cX9_have 25 = .ok (.aload_n 0, 1) := by decide +kernel
theorem dX9_have_26 : decode cX9_have 26 = .ok (.getfield 35, 3) := by decide +kernel
theorem dX9_have_29 : decode cX9_have 29 = .ok (.getfield 155, 3) := by decide +kernel
theorem dX9_have_32 : decode cX9_have 32 = .ok (.if_icmp .ge 41, 3) := by decide +kernel
theorem dX9_have_35 : decode cX9_have 35 = .ok (.aload_n 0, 1) := by decide +kernel
theorem dX9_have_36 : decode cX9_have 36 = .ok (.getfield 35, 3) := by decide +kernel
theorem dX9_have_39 : decode cX9_have 39 = .ok (.iload_n 1, 1) := by decide +kernel
theorem dX9_have_40 : decode cX9_have 40 = .ok (.iload 4, 2) := by decide +kernel
theorem dX9_have_42 : decode cX9_have 42 = .ok (.invokevirtual 175, 3) := by decide +kernel
theorem dX9_have_45 : decode cX9_have 45 = .ok (.ifCond .eq 22, 3) := by decide +kernel
theorem dX9_have_48 : decode cX9_have 48 = .ok (.aload_n 0, 1) := by decide +kernel
theorem dX9_have_49 : decode cX9_have 49 = .ok (.getfield 35, 3) := by decide +kernel
theorem dX9_have_52 : decode cX9_have 52 = .ok (.iload 4, 2) := by decide +kernel
theorem dX9_have_54 : decode cX9_have 54 = .ok (.invokevirtual 106, 3) := by decide +kernel
theorem dX9_have_57 : decode cX9_have 57 = .ok (.invokestatic 119, 3) := by decide +kernel
theorem dX9_have_60 : decode cX9_have 60 = .ok (.iload_n 2, 1) := by decide +kernel
theorem dX9_have_61 : decode cX9_have 61 = .ok (.if_icmp .ne 6, 3) := by decide +kernel
theorem dX9_have_64 : decode cX9_have 64 = .ok (.iinc 3 1, 3) := by decide +kernel
theorem dX9_have_67 : decode cX9_have 67 = .ok (.iinc 4 1, 3) := by decide +kernel
theorem dX9_have_70 : decode cX9_have 70 = .ok (.goto (-47), 3) := by decide +kernel
theorem dX9_have_73 : decode cX9_have 73 = .ok (.iload_n 3, 1) := by decide +kernel
theorem dX9_have_74 : decode cX9_have 74 = .ok (.ireturn, 1) := by decide +kernel
def uX9_have : List Cond := .code yX9_have cX9_have 5 (some .int) :: ([.fieldLink RX9 35 "LuckyTicket" "current" "LLuckyTicket$Roll;", .methodLink RX9 149 yX2_hasLaw, .instanceMethod yX2_hasLaw, .selects RX2 yX2_hasLaw yX2_hasLaw, .initialized RX2, .code yX2_hasLaw cX2_hasLaw 2 (some .boolean), .fieldLink RX2 33 "LuckyTicket$Roll" "laws" "I", .methodLink RX9 175 yX2_isLucky, .instanceMethod yX2_isLucky, .selects RX2 yX2_isLucky yX2_isLucky, .code yX2_isLucky cX2_isLucky 3 (some .boolean), .fieldLink RX2 42 "LuckyTicket$Roll" "tickets" "I", .fieldLink RX2 15 "LuckyTicket$Roll" "luck" "[I", .methodLink RX9 106 yX2_faceOf, .instanceMethod yX2_faceOf, .selects RX2 yX2_faceOf yX2_faceOf, .code yX2_faceOf cX2_faceOf 2 (some .long), .methodLink RX2 63 yX2_hasTicket, .instanceMethod yX2_hasTicket, .selects RX2 yX2_hasTicket yX2_hasTicket, .code yX2_hasTicket cX2_hasTicket 2 (some .boolean), .fieldLink RX2 9 "LuckyTicket$Roll" "faces" "[J", .methodLink RX9 119 yX0_sumOf, .static yX0_sumOf, .initialized RX0, .code yX0_sumOf cX0_sumOf 4 (some .int), .constantLong RX0 19 (1085102592571150095), .constantLong RX0 21 (72340172838076673)] ++ wsX90 ++ wsX20)
theorem iX9_have_X9 : ∀ w ∈ wsX90, w ∈ uX9_have := fun _ h => List.mem_cons_of_mem _ (List.mem_append_left _ (List.mem_append_right _ h))
theorem iX9_have_X2 : ∀ w ∈ wsX20, w ∈ uX9_have := fun _ h => List.mem_cons_of_mem _ (List.mem_append_right _ h)
set_option maxRecDepth 20000 in
theorem gX9_have__X2_hasLaw_V149 : GoodIn uX9_have (wsV RX9 149 RX2 yX2_hasLaw uX2_hasLaw) := goodIn_p _ [6] rfl (by decide +kernel)
set_option maxRecDepth 20000 in
theorem gX9_have__X2_isLucky_V175 : GoodIn uX9_have (wsV RX9 175 RX2 yX2_isLucky uX2_isLucky) := goodIn_p _ [11] rfl (by decide +kernel)
set_option maxRecDepth 20000 in
theorem gX9_have__X2_faceOf_V106 : GoodIn uX9_have (wsV RX9 106 RX2 yX2_faceOf uX2_faceOf) := goodIn_p _ [17, 21] rfl (by decide +kernel)
set_option maxRecDepth 20000 in
theorem gX9_have__X0_sumOf_S119 : GoodIn uX9_have (va_wsS RX9 119 yX0_sumOf uX0_sumOf) := goodIn_p _ [26] rfl (by decide +kernel)
set_option maxHeartbeats 4000000 in
set_option maxRecDepth 100000 in
theorem kX9_have (l : Launch) (dC : Nat → ClassId) (dI : Nat → Nat → Nat) (h0 : Nat) (tp : Nat) (sc : Nat) (rd : Nat) (cu : Nat) (im : Nat) (ig : Nat) (sl : Nat) (se : Nat) (sm : Nat) (fc : Nat) (ln : Int32) (bs : Int32) (tk : Int32) (lw : Int32) (li : Int32) (fa : Nat) (lu : Nat) (cL : ClassId) (nl : Nat) (fl : Nat → Int32) (cF : ClassId) (nf : Nat) (ff : Nat → Int64) (a1 : Int32) (a2 : Int32) (b_ln : (0 : Int) ≤ ln.toInt ∧ ln.toInt ≤ 12) (b_bs : (0 : Int) ≤ bs.toInt ∧ bs.toInt ≤ 16) (b_tk : (0 : Int) ≤ tk.toInt ∧ tk.toInt ≤ 20000) (b_lw : (0 : Int) ≤ lw.toInt ∧ lw.toInt ≤ 9) (hl1 : tk.toInt ≤ (nl : Int)) (hf1 : tk.toInt ≤ (nf : Int)) : Met l yX9_have uX9_have ({ frames := 2, cells := 0, slots := 0, locals := 42 }) (va_Pc [.ref h0, .int a1, .int a2] (pw (dC, dI) vwCl [(h0, .inr (7, [.ref tp, .ref sc, .ref rd, .ref cu, .ref im, .ref ig, .ref sl, .ref se, .ref sm, .ref fc])), (cu, .inr (1, [.int ln, .int bs, .int tk, .int lw, .int li, .ref fa, .ref lu])), (lu, .inl (cL, nl, .inl fl)), (fa, .inl (cF, nf, .inr (.inl ff)))] [(cL, .int), (cF, .long)])) (vp_Si (fun r => True)) 0 0 (fun _ => False) := by
  refine Met.ofW (cc := cX9_have) (maxL := 5) (ret := (some .int)) (by decide) rfl ?_
  intro p e s m args below meth c s₁ B hml hv
  obtain ⟨rfl, hP, hK, hN⟩ := hv
  have hx := B.exec
  have hb := B.bytes
  have hr := B.returns
  have hts := atoms_spec (ws := uX9_have) B.pre
  have hown : s.vm.findClass RX9 = some m.cls := findClass_of_methodNamed B.named
  have hlocks := B.notSynchronized
  have hl := lv_entry ([.ref h0, .int a1, .int a2]) (n := 5) (Nat.le_of_ble_eq_true rfl)
  rw [lg_entry_eq]
  generalize (lg_sl ([.ref h0, .int a1, .int a2]) ++ List.replicate (5 - (lg_sl ([.ref h0, .int a1, .int a2])).length) Slot.unset).toArray = ls at hl ⊢
  have hl : lv_has ls 5 [(0, .ref h0), (1, .int a1), (2, .int a2)] := hl
  refine lv_aload_n hx hb dX9_have_0 rfl (lv_at hl 0 rfl) ?_
  refine va_get (D := (dC, dI)) (ci := 7) (v := .ref cu) (C := RX9) (T := TX9) (N := 10) hx hb hts iX9_have_X9 hown hK hP 0 rfl rfl 3 (by decide) (hts (.fieldLink RX9 35 "LuckyTicket" "current" "LLuckyTicket$Roll;") (List.mem_of_getElem? (i := 1) rfl)) (fun _ h9 => h9) rfl dX9_have_1 ?_
  refine lv_iload_n hx hb dX9_have_4 rfl (lv_at hl 1 rfl) ?_
  refine vp_callSi (W.runV (As := [.int a1]) (rest := []) ⟨hx, hb, hml, hown, hts⟩ (kX2_hasLaw l dC dI cu ln bs tk lw li fa lu a1 b_ln b_bs b_tk b_lw) (cwV 1 hts gX9_have__X2_hasLaw_V149 rfl rfl rfl (by decide +kernel) ⟨lel 1 2 rfl, lel 21 42 rfl⟩) ⟨pw_fb, va_recv hK hP (ci := 1) (q0 := 1) rfl rfl, (pw_use hP hK hN [1] rfl [] rfl)⟩ rfl rfl hl.1 rfl (lv_room (Nat.le_of_ble_eq_true rfl)) dX9_have_5 ⟨lel 0 0 rfl, lel 0 0 rfl⟩) (fun r_98 h_r_98 => ?_)
  obtain ⟨b_r_98, nz_r_98⟩ := h_r_98
  have b_r_98 : (0 : Int) ≤ r_98.toInt ∧ r_98.toInt ≤ 1 := b_r_98
  refine lv_if_eq (tgt := 15) hx hb dX9_have_8 (by decide) (fun c_99 => ?_) (fun c_99 => ?_)
  ·
    have n_c_99 : (r_98.toInt : Int) = 0 := c_eq rfl (by decide) c_99
    have b_r_98 : (0 : Int) ≤ r_98.toInt ∧ r_98.toInt ≤ 0 := r_eq1 b_r_98 (by decide : (0 : Int) ≤ (0 : Int32).toInt ∧ (0 : Int32).toInt ≤ 0) n_c_99 (by decide)
    refine lv_bipush (v := (-2)) hx hb dX9_have_15 (by decide) ?_
    exact W.iret (v := (-2)) hx hb hr (fun t ht hW => ⟨(-2), rfl, trivial, ht⟩) t_nil dX9_have_17
  ·
    have n_c_99 : (r_98.toInt : Int) ≠ 0 := c_ne rfl (by decide) c_99
    have b_r_98 : (1 : Int) ≤ r_98.toInt ∧ r_98.toInt ≤ 1 := r_ne1 b_r_98 (by decide : (0 : Int) ≤ (0 : Int32).toInt ∧ (0 : Int32).toInt ≤ 0) n_c_99 (by decide)
    obtain ⟨b_a1, g_100⟩ := nz_r_98 c_99
    refine lv_iload_n hx hb dX9_have_11 rfl (lv_at hl 2 rfl) ?_
    refine lv_if_ge (tgt := 18) hx hb dX9_have_12 (by decide) (fun c_101 => ?_) (fun c_101 => ?_)
    ·
      have n_c_101 : (0 : Int) ≤ a2.toInt := c_ge rfl (by decide) c_101
      have b_a2 : (0 : Int) ≤ a2.toInt ∧ a2.toInt ≤ 2147483647 := r_le2 (by decide : (0 : Int) ≤ (0 : Int32).toInt ∧ (0 : Int32).toInt ≤ 0) (ti_rng a2) n_c_101 (by decide)
      refine lv_iconst (v := 0) hx hb dX9_have_18 (by decide) ?_
      refine lv_istore_n (lv' := [(3, .int 0), (0, .ref h0), (1, .int a1), (2, .int a2)]) hx hb dX9_have_19 rfl hl (by decide) rfl (fun ls hl => ?_)
      refine lv_iconst (v := 0) hx hb dX9_have_20 (by decide) ?_
      refine lv_istore (lv' := [(4, .int 0), (3, .int 0), (0, .ref h0), (1, .int a1), (2, .int a2)]) hx hb dX9_have_21 hl (by decide) rfl (fun ls hl => ?_)
      refine loopP (σ := Int32 × Int32) (fun v => (20000 - v.1.toInt).toNat) (fun v ls => ((0 : Int) ≤ v.1.toInt ∧ v.1.toInt ≤ 20000) ∧ lv_has ls 5 [(4, .int v.1), (3, .int v.2), (0, .ref h0), (1, .int a1), (2, .int a2)]) (fun v ls hI ih_23_181 => ?_) ((0 : Int32), (0 : Int32)) ⟨(show (0 : Int) ≤ (0 : Int32).toInt ∧ (0 : Int32).toInt ≤ 20000 from (rg_w (by decide : (0 : Int) ≤ (0 : Int32).toInt ∧ (0 : Int32).toInt ≤ 0) (by decide) (by decide))), lv_sub hl [0, 1, 2, 3, 4] rfl⟩
      obtain ⟨y_115, y_116⟩ := v
      obtain ⟨b_y_115, hl⟩ := hI
      have b_y_115 : (0 : Int) ≤ y_115.toInt ∧ y_115.toInt ≤ 20000 := b_y_115
      have hl : lv_has ls 5 [(4, .int y_115), (3, .int y_116), (0, .ref h0), (1, .int a1), (2, .int a2)] := hl
      refine lv_iload hx hb dX9_have_23 (lv_at hl 0 rfl) ?_
      refine lv_aload_n hx hb dX9_have_25 rfl (lv_at hl 2 rfl) ?_
      refine va_get (D := (dC, dI)) (ci := 7) (v := .ref cu) (C := RX9) (T := TX9) (N := 10) hx hb hts iX9_have_X9 hown hK hP 0 rfl rfl 3 (by decide) (hts (.fieldLink RX9 35 "LuckyTicket" "current" "LLuckyTicket$Roll;") (List.mem_of_getElem? (i := 1) rfl)) (fun _ h9 => h9) rfl dX9_have_26 ?_
      refine va_getN (own := RX9) (index := 155) (ref := RX2) (host := RX9) (D := (dC, dI)) (ci := 1) (v := .int tk) (C := RX2) (T := TX2) (N := 7) hx hb hts iX9_have_X2 hown hK hP 1 rfl rfl 2 (by decide) (va_Nw.use rfl (hN _ (List.mem_of_getElem? (i := 18) rfl))) (fun _ h9 => h9) rfl dX9_have_29 ?_
      refine lv_icmp_ge (tgt := 73) hx hb dX9_have_32 (by decide) (fun c_182 => ?_) (fun c_182 => ?_)
      ·
        have n_c_182 : (tk.toInt : Int) ≤ y_115.toInt := c_ge rfl rfl c_182
        refine lv_iload_n hx hb dX9_have_73 rfl (lv_at hl 1 rfl) ?_
        exact W.iret (v := y_116) hx hb hr (fun t ht hW => ⟨y_116, rfl, trivial, ht⟩) t_nil dX9_have_74
      ·
        have n_c_182 : (y_115.toInt : Int) < tk.toInt := c_nge rfl rfl c_182
        have b_y_115 : (0 : Int) ≤ y_115.toInt ∧ y_115.toInt ≤ 19999 := r_lt1 b_y_115 b_tk n_c_182 (by decide)
        have b_tk : (1 : Int) ≤ tk.toInt ∧ tk.toInt ≤ 20000 := r_lt2 b_y_115 b_tk n_c_182 (by decide)
        refine lv_aload_n hx hb dX9_have_35 rfl (lv_at hl 2 rfl) ?_
        refine va_get (D := (dC, dI)) (ci := 7) (v := .ref cu) (C := RX9) (T := TX9) (N := 10) hx hb hts iX9_have_X9 hown hK hP 0 rfl rfl 3 (by decide) (hts (.fieldLink RX9 35 "LuckyTicket" "current" "LLuckyTicket$Roll;") (List.mem_of_getElem? (i := 1) rfl)) (fun _ h9 => h9) rfl dX9_have_36 ?_
        refine lv_iload_n hx hb dX9_have_39 rfl (lv_at hl 3 rfl) ?_
        refine lv_iload hx hb dX9_have_40 (lv_at hl 0 rfl) ?_
        refine vp_callSi (W.runV (As := [.int a1, .int y_115]) (rest := []) ⟨hx, hb, hml, hown, hts⟩ (kX2_isLucky l dC dI cu ln bs tk lw li fa lu cL nl fl a1 y_115 b_ln b_bs (rg_w b_tk (by decide) (by decide)) b_lw (by omega)) (cwV 2 hts gX9_have__X2_isLucky_V175 rfl rfl rfl (by decide +kernel) ⟨lel 1 2 rfl, lel 22 42 rfl⟩) ⟨pw_fb, va_recv hK hP (ci := 1) (q0 := 1) rfl rfl, (pw_use hP hK hN [1, 2] rfl [0] rfl)⟩ rfl rfl hl.1 rfl (lv_room (Nat.le_of_ble_eq_true rfl)) dX9_have_42 ⟨lel 0 0 rfl, lel 0 0 rfl⟩) (fun r_183 h_r_183 => ?_)
        have b_r_183 := h_r_183
        have b_r_183 : (0 : Int) ≤ r_183.toInt ∧ r_183.toInt ≤ 1 := b_r_183
        refine cutP (σ := Int32) (pc2 := 67) (st2 := fun v => []) (cells2 := 0) (slots2 := 0) (fun v ls => lv_has ls 5 [(4, .int y_115), (3, .int v), (0, .ref h0), (1, .int a1), (2, .int a2)]) (fun v ls hI => ?_) (fun hj_67_189 => ?_)
        ·
          obtain ⟨y_189, rfl⟩ : ∃ z, z = v := ⟨_, rfl⟩
          have hl := hI
          have hl : lv_has ls 5 [(4, .int y_115), (3, .int y_189), (0, .ref h0), (1, .int a1), (2, .int a2)] := hl
          obtain ⟨z_190, e_z_190⟩ : ∃ y : Int32, y = y_115 + 1 := ⟨_, rfl⟩
          refine lv_iinc (v := z_190) (lv' := [(4, .int z_190), (3, .int y_189), (0, .ref h0), (1, .int a1), (2, .int a2)]) hx hb dX9_have_67 hl (k := 0) rfl (by rw [e_z_190]; rfl) (by decide) rfl (fun ls hl => ?_)
          obtain ⟨q_z_190, b_z_190⟩ := ti_add (lo := 1) (hi := 20000) e_z_190 rfl (by decide : (1 : Int32).toInt = 1) b_y_115 (by decide : (1 : Int) ≤ (1 : Int32).toInt ∧ (1 : Int32).toInt ≤ 1) (by decide)
          refine lv_goto (tgt := 23) hx hb dX9_have_70 (by decide) ?_
          exact ih_23_181 (z_190, y_189) _ ⟨(show (0 : Int) ≤ z_190.toInt ∧ z_190.toInt ≤ 20000 from (rg_w b_z_190 (by decide) (by decide))), lv_sub hl [0, 1, 2, 3, 4] rfl⟩ (show (20000 - z_190.toInt).toNat < (20000 - y_115.toInt).toNat by omega)
        ·
          refine lv_if_eq (tgt := 67) hx hb dX9_have_45 (by decide) (fun c_184 => ?_) (fun c_184 => ?_)
          ·
            have n_c_184 : (r_183.toInt : Int) = 0 := c_eq rfl (by decide) c_184
            have b_r_183 : (0 : Int) ≤ r_183.toInt ∧ r_183.toInt ≤ 0 := r_eq1 b_r_183 (by decide : (0 : Int) ≤ (0 : Int32).toInt ∧ (0 : Int32).toInt ≤ 0) n_c_184 (by decide)
            exact hj_67_189 y_116 _ (lv_sub hl [0, 1, 2, 3, 4] rfl)
          ·
            have n_c_184 : (r_183.toInt : Int) ≠ 0 := c_ne rfl (by decide) c_184
            have b_r_183 : (1 : Int) ≤ r_183.toInt ∧ r_183.toInt ≤ 1 := r_ne1 b_r_183 (by decide : (0 : Int) ≤ (0 : Int32).toInt ∧ (0 : Int32).toInt ≤ 0) n_c_184 (by decide)
            refine lv_aload_n hx hb dX9_have_48 rfl (lv_at hl 2 rfl) ?_
            refine va_get (D := (dC, dI)) (ci := 7) (v := .ref cu) (C := RX9) (T := TX9) (N := 10) hx hb hts iX9_have_X9 hown hK hP 0 rfl rfl 3 (by decide) (hts (.fieldLink RX9 35 "LuckyTicket" "current" "LLuckyTicket$Roll;") (List.mem_of_getElem? (i := 1) rfl)) (fun _ h9 => h9) rfl dX9_have_49 ?_
            refine lv_iload hx hb dX9_have_52 (lv_at hl 0 rfl) ?_
            refine vp_callSl (W.runV (As := [.int y_115]) (rest := []) ⟨hx, hb, hml, hown, hts⟩ (kX2_faceOf l dC dI cu ln bs tk lw li fa lu cF nf ff y_115 b_ln b_bs (rg_w b_tk (by decide) (by decide)) b_lw (by omega)) (cwV 1 hts gX9_have__X2_faceOf_V106 rfl rfl rfl (by decide +kernel) ⟨lel 2 2 rfl, lel 42 42 rfl⟩) ⟨pw_fb, va_recv hK hP (ci := 1) (q0 := 1) rfl rfl, (pw_use hP hK hN [1, 3] rfl [1] rfl)⟩ rfl rfl hl.1 rfl (lv_room (Nat.le_of_ble_eq_true rfl)) dX9_have_54 ⟨lel 0 0 rfl, lel 0 0 rfl⟩) (fun r_191 h_r_191 => ?_)
            refine vp_callSi (W.runS (As := [.long r_191]) (rest := []) ⟨hx, hb, hml, hown, hts⟩ (kX0_sumOf l dC dI r_191 ) (va_cwS 1 hts gX9_have__X0_sumOf_S119 rfl rfl rfl (by decide +kernel) ⟨lel 1 2 rfl, lel 23 42 rfl⟩) ⟨pn_fb, pn_use⟩ rfl rfl hl.1 rfl (lv_room (Nat.le_of_ble_eq_true rfl)) dX9_have_57 ⟨lel 0 0 rfl, lel 0 0 rfl⟩) (fun r_192 h_r_192 => ?_)
            have b_r_192 := h_r_192
            have b_r_192 : (0 : Int) ≤ r_192.toInt ∧ r_192.toInt ≤ 255 := b_r_192
            refine lv_iload_n hx hb dX9_have_60 rfl (lv_at hl 4 rfl) ?_
            refine lv_icmp_ne (tgt := 67) hx hb dX9_have_61 (by decide) (fun c_193 => ?_) (fun c_193 => ?_)
            ·
              have n_c_193 : (r_192.toInt : Int) ≠ a2.toInt := c_ne rfl rfl c_193
              exact hj_67_189 y_116 _ (lv_sub hl [0, 1, 2, 3, 4] rfl)
            ·
              have n_c_193 : (r_192.toInt : Int) = a2.toInt := c_eq rfl rfl c_193
              have b_a2 : (0 : Int) ≤ a2.toInt ∧ a2.toInt ≤ 255 := r_eq2 b_r_192 b_a2 n_c_193 (by decide)
              obtain ⟨z_194, e_z_194⟩ : ∃ y : Int32, y = y_116 + 1 := ⟨_, rfl⟩
              refine lv_iinc (v := z_194) (lv' := [(3, .int z_194), (4, .int y_115), (0, .ref h0), (1, .int a1), (2, .int a2)]) hx hb dX9_have_64 hl (k := 1) rfl (by rw [e_z_194]; rfl) (by decide) rfl (fun ls hl => ?_)
              exact hj_67_189 z_194 _ (lv_sub hl [1, 0, 2, 3, 4] rfl)
    ·
      have n_c_101 : (a2.toInt : Int) < 0 := c_nge rfl (by decide) c_101
      have b_a2 : (-2147483648 : Int) ≤ a2.toInt ∧ a2.toInt ≤ -1 := r_lt1 (ti_rng a2) (by decide : (0 : Int) ≤ (0 : Int32).toInt ∧ (0 : Int32).toInt ≤ 0) n_c_101 (by decide)
      refine lv_bipush (v := (-2)) hx hb dX9_have_15 (by decide) ?_
      exact W.iret (v := (-2)) hx hb hr (fun t ht hW => ⟨(-2), rfl, trivial, ht⟩) t_nil dX9_have_17
theorem dX9_same_0 : decode cX9_same 0 = .ok (.aload_n 0, 1) := by decide +kernel
theorem dX9_same_1 : decode cX9_same 1 = .ok (.iload_n 1, 1) := by decide +kernel
theorem dX9_same_2 : decode cX9_same 2 = .ok (.iload_n 2, 1) := by decide +kernel
theorem dX9_same_3 : decode cX9_same 3 = .ok (.invokevirtual 137, 3) := by decide +kernel
theorem dX9_same_6 : decode cX9_same 6 = .ok (.ifCond .eq 12, 3) := by decide +kernel
theorem dX9_same_9 : decode cX9_same 9 = .ok (.iload_n 3, 1) := by decide +kernel
theorem dX9_same_10 : decode cX9_same 10 = .ok (.iconst 0, 1) := by decide +kernel
theorem dX9_same_11 : decode cX9_same 11 = .ok (.iconst 2, 1) := by decide +kernel
theorem dX9_same_12 : decode cX9_same 12 = .ok (.invokestatic 158, 3) := by decide +kernel
theorem dX9_same_15 : decode cX9_same 15 = .ok (.ifCond .ne 6, 3) := by decide +kernel
theorem dX9_same_18 : decode cX9_same 18 = .ok (.bipush (-2), 2) := by decide +kernel
theorem dX9_same_20 : decode cX9_same 20 = .ok (.ireturn, 1) := by decide +kernel
theorem dX9_same_21 : decode cX9_same 21 = .ok (.aload_n 0, 1) := by decide +kernel
theorem dX9_same_22 : decode cX9_same 22 = .ok (.getfield 35, 3) := by decide +kernel
theorem dX9_same_25 : decode cX9_same 25 = .ok (.iload_n 2, 1) := by decide +kernel
theorem dX9_same_26 : decode cX9_same 26 = .ok (.invokevirtual 106, 3) := by decide +kernel
theorem dX9_same_29 : decode cX9_same 29 = .ok (.lstore 4, 2) := by decide +kernel
theorem dX9_same_31 : decode cX9_same 31 = .ok (.lload 4, 2) := by decide +kernel
theorem dX9_same_33 : decode cX9_same 33 = .ok (.invokestatic 119, 3) := by decide +kernel
theorem dX9_same_36 : decode cX9_same 36 = .ok (.istore 6, 2) := by decide +kernel
theorem dX9_same_38 : decode cX9_same 38 = .ok (.lload 4, 2) := by decide +kernel
theorem dX9_same_40 : decode cX9_same 40 = .ok (.aload_n 0, 1) := by decide +kernel
theorem dX9_same_41 : decode cX9_same 41 = .ok (.getfield 35, 3) := by decide +kernel
theorem dX9_same_44 : decode cX9_same 44 = .ok (.getfield 110, 3) := by decide +kernel
theorem dX9_same_47 : decode cX9_same 47 = .ok (.invokestatic 286, 3) := by decide +kernel
theorem dX9_same_50 : decode cX9_same 50 = .ok (.lstore 7, 2) := by decide +kernel
theorem dX9_same_52 : decode cX9_same 52 = .ok (.iconst 0, 1) := by decide +kernel
theorem dX9_same_53 : decode cX9_same 53 = .ok (.istore 9, 2) := by decide +kernel
theorem dX9_same_55 : decode cX9_same 55 = .ok (.iconst 0, 1) := by decide +kernel
theorem dX9_same_56 : decode cX9_same 56 = .ok (.istore 10, 2) := by decide +kernel
theorem dX9_same_58 : decode cX9_same 58 = .ok (.iload 10, 2) := by decide +kernel
theorem dX9_same_60 : decode cX9_same 60 = .ok (.aload_n 0, 1) := by decide +kernel
theorem dX9_same_61 : decode cX9_same 61 = .ok (.getfield 35, 3) := by decide +kernel
theorem dX9_same_64 : decode cX9_same 64 = .ok (.getfield 155, 3) := by decide +kernel
theorem dX9_same_67 : decode cX9_same 67 = .ok (.if_icmp .ge 88, 3) := by decide +kernel
theorem dX9_same_70 : decode cX9_same 70 = .ok (.aload_n 0, 1) := by decide +kernel
theorem dX9_same_71 : decode cX9_same 71 = .ok (.getfield 35, 3) := by decide +kernel
theorem dX9_same_74 : decode cX9_same 74 = .ok (.iload 10, 2) := by decide +kernel
theorem dX9_same_76 : decode cX9_same 76 = .ok (.invokevirtual 106, 3) := by decide +kernel
theorem dX9_same_79 : decode cX9_same 79 = .ok (.lstore 11, 2) := by decide +kernel
theorem dX9_same_81 : decode cX9_same 81 = .ok (.lload 11, 2) := by decide +kernel
theorem dX9_same_83 : decode cX9_same 83 = .ok (.invokestatic 119, 3) := by decide +kernel
theorem dX9_same_86 : decode cX9_same 86 = .ok (.iload 6, 2) := by decide +kernel
theorem dX9_same_88 : decode cX9_same 88 = .ok (.if_icmp .ne 25, 3) := by decide +kernel
theorem dX9_same_91 : decode cX9_same 91 = .ok (.lload 11, 2) := by decide +kernel
theorem dX9_same_93 : decode cX9_same 93 = .ok (.aload_n 0, 1) := by decide +kernel
theorem dX9_same_94 : decode cX9_same 94 = .ok (.getfield 35, 3) := by decide +kernel
theorem dX9_same_97 : decode cX9_same 97 = .ok (.getfield 110, 3) := by decide +kernel
theorem dX9_same_100 : decode cX9_same 100 = .ok (.invokestatic 286, 3) := by decide +kernel
theorem dX9_same_103 : decode cX9_same 103 = .ok (.lload 7, 2) := by decide +kernel
theorem dX9_same_105 : decode cX9_same 105 = .ok (.lcmp, 1) := by decide +kernel
theorem dX9_same_106 : decode cX9_same 106 = .ok (.ifCond .ne 7, 3) := by decide +kernel
theorem dX9_same_109 : decode cX9_same 109 = .ok (.iconst 1, 1) := by decide +kernel
theorem dX9_same_110 : decode cX9_same 110 = .ok (.goto 4, 3) := by decide +kernel
theorem dX9_same_113 : decode cX9_same 113 = .ok (.iconst 0, 1) := by decide +kernel
theorem dX9_same_114 : decode cX9_same 114 = .ok (.istore 13, 2) := by decide +kernel
theorem dX9_same_116 : decode cX9_same 116 = .ok (.iload 13, 2) := by decide +kernel
theorem dX9_same_118 : decode cX9_same 118 = .ok (.ifCond .eq 31, 3) := by decide +kernel
theorem dX9_same_121 : decode cX9_same 121 = .ok (.iload_n 3, 1) := by decide +kernel
theorem dX9_same_122 : decode cX9_same 122 = .ok (.ifCond .eq 16, 3) := by decide +kernel
theorem dX9_same_125 : decode cX9_same 125 = .ok (.aload_n 0, 1) := by decide +kernel
theorem dX9_same_126 : decode cX9_same 126 = .ok (.getfield 35, 3) := by decide +kernel
theorem dX9_same_129 : decode cX9_same 129 = .ok (.iload_n 1, 1) := by decide +kernel
theorem dX9_same_130 : decode cX9_same 130 = .ok (.iload 10, 2) := by decide +kernel
theorem dX9_same_132 : decode cX9_same 132 = .ok (.invokevirtual 175, 3) := by decide +kernel
theorem dX9_same_135 : decode cX9_same 135 = .ok (.ifCond .eq 14, 3) := by decide +kernel
theorem dX9_same_138 : decode cX9_same 138 = .ok (.iload_n 3, 1) := by decide +kernel
theorem dX9_same_139 : decode cX9_same 139 = .ok (.iconst 2, 1) := by decide +kernel
theorem dX9_same_140 : decode cX9_same 140 = .ok (.if_icmp .ne 6, 3) := by decide +kernel
theorem dX9_same_143 : decode cX9_same 143 = .ok (.iload 10, 2) := by decide +kernel
theorem dX9_same_145 : decode cX9_same 145 = .ok (.ireturn, 1) := by decide +kernel
theorem dX9_same_146 : decode cX9_same 146 = .ok (.iinc 9 1, 3) := by decide +kernel
theorem dX9_same_149 : decode cX9_same 149 = .ok (.iinc 10 1, 3) := by decide +kernel
theorem dX9_same_152 : decode cX9_same 152 = .ok (.goto (-94), 3) := by decide +kernel
theorem dX9_same_155 : decode cX9_same 155 = .ok (.iload_n 3, 1) := by decide +kernel
theorem dX9_same_156 : decode cX9_same 156 = .ok (.iconst 2, 1) := by decide +kernel
theorem dX9_same_157 : decode cX9_same 157 = .ok (.if_icmp .ne 7, 3) := by decide +kernel
theorem dX9_same_160 : decode cX9_same 160 = .ok (.iconst (-1), 1) := by decide +kernel
theorem dX9_same_161 : decode cX9_same 161 = .ok (.goto 5, 3) := by decide +kernel
theorem dX9_same_164 : decode cX9_same 164 = .ok (.iload 9, 2) := by decide +kernel
theorem dX9_same_166 : decode cX9_same 166 = .ok (.ireturn, 1) := by decide +kernel
def uX9_same : List Cond := .code yX9_same cX9_same 14 (some .int) :: ([.methodLink RX9 137 yX9_hasBoth, .instanceMethod yX9_hasBoth, .selects RX9 yX9_hasBoth yX9_hasBoth, .initialized RX9, .code yX9_hasBoth cX9_hasBoth 3 (some .boolean), .fieldLink RX9 35 "LuckyTicket" "current" "LLuckyTicket$Roll;", .methodLink RX9 149 yX2_hasLaw, .instanceMethod yX2_hasLaw, .selects RX2 yX2_hasLaw yX2_hasLaw, .initialized RX2, .code yX2_hasLaw cX2_hasLaw 2 (some .boolean), .fieldLink RX2 33 "LuckyTicket$Roll" "laws" "I", .methodLink RX9 100 yX2_hasTicket, .instanceMethod yX2_hasTicket, .selects RX2 yX2_hasTicket yX2_hasTicket, .code yX2_hasTicket cX2_hasTicket 2 (some .boolean), .fieldLink RX2 42 "LuckyTicket$Roll" "tickets" "I", .methodLink RX9 158 yX9_isWithin, .static yX9_isWithin, .code yX9_isWithin cX9_isWithin 3 (some .boolean), .methodLink RX9 106 yX2_faceOf, .instanceMethod yX2_faceOf, .selects RX2 yX2_faceOf yX2_faceOf, .code yX2_faceOf cX2_faceOf 2 (some .long), .methodLink RX2 63 yX2_hasTicket, .fieldLink RX2 9 "LuckyTicket$Roll" "faces" "[J", .methodLink RX9 119 yX0_sumOf, .static yX0_sumOf, .initialized RX0, .code yX0_sumOf cX0_sumOf 4 (some .int), .constantLong RX0 19 (1085102592571150095), .constantLong RX0 21 (72340172838076673), .methodLink RX9 286 yX0_countsOf, .static yX0_countsOf, .code yX0_countsOf cX0_countsOf 8 (some .long), .constantLong RX0 7 (15), .methodLink RX9 175 yX2_isLucky, .instanceMethod yX2_isLucky, .selects RX2 yX2_isLucky yX2_isLucky, .code yX2_isLucky cX2_isLucky 3 (some .boolean), .fieldLink RX2 15 "LuckyTicket$Roll" "luck" "[I"] ++ wsX90 ++ wsX20)
theorem iX9_same_X9 : ∀ w ∈ wsX90, w ∈ uX9_same := fun _ h => List.mem_cons_of_mem _ (List.mem_append_left _ (List.mem_append_right _ h))
theorem iX9_same_X2 : ∀ w ∈ wsX20, w ∈ uX9_same := fun _ h => List.mem_cons_of_mem _ (List.mem_append_right _ h)
set_option maxRecDepth 20000 in
theorem gX9_same__X9_hasBoth_V137 : GoodIn uX9_same (wsV RX9 137 RX9 yX9_hasBoth uX9_hasBoth) := goodIn_p _ [5, 11, 16] rfl (by decide +kernel)
set_option maxRecDepth 20000 in
theorem gX9_same__X9_isWithin_S158 : GoodIn uX9_same (va_wsS RX9 158 yX9_isWithin uX9_isWithin) := goodIn_p _ [20] rfl (by decide +kernel)
set_option maxRecDepth 20000 in
theorem gX9_same__X2_faceOf_V106 : GoodIn uX9_same (wsV RX9 106 RX2 yX2_faceOf uX2_faceOf) := goodIn_p _ [24, 16] rfl (by decide +kernel)
set_option maxRecDepth 20000 in
theorem gX9_same__X0_sumOf_S119 : GoodIn uX9_same (va_wsS RX9 119 yX0_sumOf uX0_sumOf) := goodIn_p _ [30] rfl (by decide +kernel)
set_option maxRecDepth 20000 in
theorem gX9_same__X0_countsOf_S286 : GoodIn uX9_same (va_wsS RX9 286 yX0_countsOf uX0_countsOf) := goodIn_p _ [35] rfl (by decide +kernel)
set_option maxRecDepth 20000 in
theorem gX9_same__X2_isLucky_V175 : GoodIn uX9_same (wsV RX9 175 RX2 yX2_isLucky uX2_isLucky) := goodIn_p _ [40] rfl (by decide +kernel)
set_option maxHeartbeats 4000000 in
set_option maxRecDepth 100000 in
theorem kX9_same (l : Launch) (dC : Nat → ClassId) (dI : Nat → Nat → Nat) (h0 : Nat) (tp : Nat) (sc : Nat) (rd : Nat) (cu : Nat) (im : Nat) (ig : Nat) (sl : Nat) (se : Nat) (sm : Nat) (fc : Nat) (ln : Int32) (bs : Int32) (tk : Int32) (lw : Int32) (li : Int32) (fa : Nat) (lu : Nat) (cL : ClassId) (nl : Nat) (fl : Nat → Int32) (cF : ClassId) (nf : Nat) (ff : Nat → Int64) (a1 : Int32) (a2 : Int32) (a3 : Int32) (b_ln : (0 : Int) ≤ ln.toInt ∧ ln.toInt ≤ 12) (b_bs : (0 : Int) ≤ bs.toInt ∧ bs.toInt ≤ 16) (b_tk : (0 : Int) ≤ tk.toInt ∧ tk.toInt ≤ 20000) (b_lw : (0 : Int) ≤ lw.toInt ∧ lw.toInt ≤ 9) (hl1 : tk.toInt ≤ (nl : Int)) (hf1 : tk.toInt ≤ (nf : Int)) : Met l yX9_same uX9_same ({ frames := 2, cells := 0, slots := 0, locals := 43 }) (va_Pc [.ref h0, .int a1, .int a2, .int a3] (pw (dC, dI) vwCl [(h0, .inr (7, [.ref tp, .ref sc, .ref rd, .ref cu, .ref im, .ref ig, .ref sl, .ref se, .ref sm, .ref fc])), (cu, .inr (1, [.int ln, .int bs, .int tk, .int lw, .int li, .ref fa, .ref lu])), (lu, .inl (cL, nl, .inl fl)), (fa, .inl (cF, nf, .inr (.inl ff)))] [(cL, .int), (cF, .long)])) (vp_Si (fun r => True)) 0 0 (fun _ => False) := by
  refine Met.ofW (cc := cX9_same) (maxL := 14) (ret := (some .int)) (by decide) rfl ?_
  intro p e s m args below meth c s₁ B hml hv
  obtain ⟨rfl, hP, hK, hN⟩ := hv
  have hx := B.exec
  have hb := B.bytes
  have hr := B.returns
  have hts := atoms_spec (ws := uX9_same) B.pre
  have hown : s.vm.findClass RX9 = some m.cls := findClass_of_methodNamed B.named
  have hlocks := B.notSynchronized
  have hl := lv_entry ([.ref h0, .int a1, .int a2, .int a3]) (n := 14) (Nat.le_of_ble_eq_true rfl)
  rw [lg_entry_eq]
  generalize (lg_sl ([.ref h0, .int a1, .int a2, .int a3]) ++ List.replicate (14 - (lg_sl ([.ref h0, .int a1, .int a2, .int a3])).length) Slot.unset).toArray = ls at hl ⊢
  have hl : lv_has ls 14 [(0, .ref h0), (1, .int a1), (2, .int a2), (3, .int a3)] := hl
  refine lv_aload_n hx hb dX9_same_0 rfl (lv_at hl 0 rfl) ?_
  refine lv_iload_n hx hb dX9_same_1 rfl (lv_at hl 1 rfl) ?_
  refine lv_iload_n hx hb dX9_same_2 rfl (lv_at hl 2 rfl) ?_
  refine vp_callSi (W.runV (As := [.int a1, .int a2]) (rest := []) ⟨hx, hb, hml, hown, hts⟩ (kX9_hasBoth l dC dI h0 tp sc rd cu im ig sl se sm fc ln bs tk lw li fa lu a1 a2 b_ln b_bs b_tk b_lw) (cwV 2 hts gX9_same__X9_hasBoth_V137 rfl rfl rfl (by decide +kernel) ⟨lel 2 2 rfl, lel 43 43 rfl⟩) ⟨pw_fb, va_recv hK hP (ci := 7) (q0 := 0) rfl rfl, (pw_use hP hK hN [0, 1] rfl [] rfl)⟩ rfl rfl hl.1 rfl (lv_room (Nat.le_of_ble_eq_true rfl)) dX9_same_3 ⟨lel 0 0 rfl, lel 0 0 rfl⟩) (fun r_166 h_r_166 => ?_)
  obtain ⟨b_r_166, nz_r_166⟩ := h_r_166
  have b_r_166 : (0 : Int) ≤ r_166.toInt ∧ r_166.toInt ≤ 1 := b_r_166
  refine lv_if_eq (tgt := 18) hx hb dX9_same_6 (by decide) (fun c_167 => ?_) (fun c_167 => ?_)
  ·
    have n_c_167 : (r_166.toInt : Int) = 0 := c_eq rfl (by decide) c_167
    have b_r_166 : (0 : Int) ≤ r_166.toInt ∧ r_166.toInt ≤ 0 := r_eq1 b_r_166 (by decide : (0 : Int) ≤ (0 : Int32).toInt ∧ (0 : Int32).toInt ≤ 0) n_c_167 (by decide)
    refine lv_bipush (v := (-2)) hx hb dX9_same_18 (by decide) ?_
    exact W.iret (v := (-2)) hx hb hr (fun t ht hW => ⟨(-2), rfl, trivial, ht⟩) t_nil dX9_same_20
  ·
    have n_c_167 : (r_166.toInt : Int) ≠ 0 := c_ne rfl (by decide) c_167
    have b_r_166 : (1 : Int) ≤ r_166.toInt ∧ r_166.toInt ≤ 1 := r_ne1 b_r_166 (by decide : (0 : Int) ≤ (0 : Int32).toInt ∧ (0 : Int32).toInt ≤ 0) n_c_167 (by decide)
    obtain ⟨b_a1, b_a2, g_168⟩ := nz_r_166 c_167
    refine lv_iload_n hx hb dX9_same_9 rfl (lv_at hl 3 rfl) ?_
    refine lv_iconst (v := 0) hx hb dX9_same_10 (by decide) ?_
    refine lv_iconst (v := 2) hx hb dX9_same_11 (by decide) ?_
    refine vp_callSi (W.runS (As := [.int a3, .int 0, .int 2]) (rest := []) ⟨hx, hb, hml, hown, hts⟩ (kX9_isWithin l dC dI a3 0 2 ) (va_cwS 3 hts gX9_same__X9_isWithin_S158 rfl rfl rfl (by decide +kernel) ⟨lel 1 2 rfl, lel 22 43 rfl⟩) ⟨pn_fb, pn_use⟩ rfl rfl hl.1 rfl (lv_room (Nat.le_of_ble_eq_true rfl)) dX9_same_12 ⟨lel 0 0 rfl, lel 0 0 rfl⟩) (fun r_169 h_r_169 => ?_)
    obtain ⟨b_r_169, nz_r_169⟩ := h_r_169
    have b_r_169 : (0 : Int) ≤ r_169.toInt ∧ r_169.toInt ≤ 1 := b_r_169
    refine lv_if_ne (tgt := 21) hx hb dX9_same_15 (by decide) (fun c_170 => ?_) (fun c_170 => ?_)
    ·
      have n_c_170 : (r_169.toInt : Int) ≠ 0 := c_ne rfl (by decide) c_170
      have b_r_169 : (1 : Int) ≤ r_169.toInt ∧ r_169.toInt ≤ 1 := r_ne1 b_r_169 (by decide : (0 : Int) ≤ (0 : Int32).toInt ∧ (0 : Int32).toInt ≤ 0) n_c_170 (by decide)
      have g_171 := nz_r_169 c_170
      have lt0_g_171 := (by decide : (0 : Int32).toInt = 0)
      have lt1_g_171 := (by decide : (2 : Int32).toInt = 2)
      have b_a3 : (0 : Int) ≤ a3.toInt ∧ a3.toInt ≤ 2 := by
        have q0 := (ti_rng a3)
        have q1 := (by decide : (0 : Int) ≤ (0 : Int32).toInt ∧ (0 : Int32).toInt ≤ 0)
        have q2 := (by decide : (2 : Int) ≤ (2 : Int32).toInt ∧ (2 : Int32).toInt ≤ 2)
        omega
      refine lv_aload_n hx hb dX9_same_21 rfl (lv_at hl 0 rfl) ?_
      refine va_get (D := (dC, dI)) (ci := 7) (v := .ref cu) (C := RX9) (T := TX9) (N := 10) hx hb hts iX9_same_X9 hown hK hP 0 rfl rfl 3 (by decide) (hts (.fieldLink RX9 35 "LuckyTicket" "current" "LLuckyTicket$Roll;") (List.mem_of_getElem? (i := 6) rfl)) (fun _ h9 => h9) rfl dX9_same_22 ?_
      refine lv_iload_n hx hb dX9_same_25 rfl (lv_at hl 2 rfl) ?_
      refine vp_callSl (W.runV (As := [.int a2]) (rest := []) ⟨hx, hb, hml, hown, hts⟩ (kX2_faceOf l dC dI cu ln bs tk lw li fa lu cF nf ff a2 b_ln b_bs b_tk b_lw (by omega)) (cwV 1 hts gX9_same__X2_faceOf_V106 rfl rfl rfl (by decide +kernel) ⟨lel 2 2 rfl, lel 42 43 rfl⟩) ⟨pw_fb, va_recv hK hP (ci := 1) (q0 := 1) rfl rfl, (pw_use hP hK hN [1, 3] rfl [1] rfl)⟩ rfl rfl hl.1 rfl (lv_room (Nat.le_of_ble_eq_true rfl)) dX9_same_26 ⟨lel 0 0 rfl, lel 0 0 rfl⟩) (fun r_172 h_r_172 => ?_)
      refine lv_lstore (lv' := [(4, .long r_172), (0, .ref h0), (1, .int a1), (2, .int a2), (3, .int a3)]) hx hb dX9_same_29 hl (by decide) rfl (fun ls hl => ?_)
      refine lv_lload hx hb dX9_same_31 (lv_at hl 0 rfl) ?_
      refine vp_callSi (W.runS (As := [.long r_172]) (rest := []) ⟨hx, hb, hml, hown, hts⟩ (kX0_sumOf l dC dI r_172 ) (va_cwS 1 hts gX9_same__X0_sumOf_S119 rfl rfl rfl (by decide +kernel) ⟨lel 1 2 rfl, lel 23 43 rfl⟩) ⟨pn_fb, pn_use⟩ rfl rfl hl.1 rfl (lv_room (Nat.le_of_ble_eq_true rfl)) dX9_same_33 ⟨lel 0 0 rfl, lel 0 0 rfl⟩) (fun r_173 h_r_173 => ?_)
      have b_r_173 := h_r_173
      have b_r_173 : (0 : Int) ≤ r_173.toInt ∧ r_173.toInt ≤ 255 := b_r_173
      refine lv_istore (lv' := [(6, .int r_173), (4, .long r_172), (0, .ref h0), (1, .int a1), (2, .int a2), (3, .int a3)]) hx hb dX9_same_36 hl (by decide) rfl (fun ls hl => ?_)
      refine lv_lload hx hb dX9_same_38 (lv_at hl 1 rfl) ?_
      refine lv_aload_n hx hb dX9_same_40 rfl (lv_at hl 2 rfl) ?_
      refine va_get (D := (dC, dI)) (ci := 7) (v := .ref cu) (C := RX9) (T := TX9) (N := 10) hx hb hts iX9_same_X9 hown hK hP 0 rfl rfl 3 (by decide) (hts (.fieldLink RX9 35 "LuckyTicket" "current" "LLuckyTicket$Roll;") (List.mem_of_getElem? (i := 6) rfl)) (fun _ h9 => h9) rfl dX9_same_41 ?_
      refine va_getN (own := RX9) (index := 110) (ref := RX2) (host := RX9) (D := (dC, dI)) (ci := 1) (v := .int ln) (C := RX2) (T := TX2) (N := 7) hx hb hts iX9_same_X2 hown hK hP 1 rfl rfl 0 (by decide) (va_Nw.use rfl (hN _ (List.mem_of_getElem? (i := 14) rfl))) (fun _ h9 => h9) rfl dX9_same_44 ?_
      refine vp_callSl (W.runS (As := [.long r_172, .int ln]) (rest := []) ⟨hx, hb, hml, hown, hts⟩ (kX0_countsOf l dC dI r_172 ln b_ln) (va_cwS 2 hts gX9_same__X0_countsOf_S286 rfl rfl rfl (by decide +kernel) ⟨lel 1 2 rfl, lel 27 43 rfl⟩) ⟨pn_fb, pn_use⟩ rfl rfl hl.1 rfl (lv_room (Nat.le_of_ble_eq_true rfl)) dX9_same_47 ⟨lel 0 0 rfl, lel 0 0 rfl⟩) (fun r_174 h_r_174 => ?_)
      refine lv_lstore (lv' := [(7, .long r_174), (6, .int r_173), (4, .long r_172), (0, .ref h0), (1, .int a1), (2, .int a2), (3, .int a3)]) hx hb dX9_same_50 hl (by decide) rfl (fun ls hl => ?_)
      refine lv_iconst (v := 0) hx hb dX9_same_52 (by decide) ?_
      refine lv_istore (lv' := [(9, .int 0), (7, .long r_174), (6, .int r_173), (4, .long r_172), (0, .ref h0), (1, .int a1), (2, .int a2), (3, .int a3)]) hx hb dX9_same_53 hl (by decide) rfl (fun ls hl => ?_)
      refine lv_iconst (v := 0) hx hb dX9_same_55 (by decide) ?_
      refine lv_istore (lv' := [(10, .int 0), (9, .int 0), (7, .long r_174), (6, .int r_173), (4, .long r_172), (0, .ref h0), (1, .int a1), (2, .int a2), (3, .int a3)]) hx hb dX9_same_56 hl (by decide) rfl (fun ls hl => ?_)
      refine loopP (σ := Int32 × Int32) (fun v => (20000 - v.1.toInt).toNat) (fun v ls => ((0 : Int) ≤ v.1.toInt ∧ v.1.toInt ≤ 20000) ∧ lv_has ls 14 [(10, .int v.1), (9, .int v.2), (7, .long r_174), (6, .int r_173), (4, .long r_172), (0, .ref h0), (1, .int a1), (2, .int a2), (3, .int a3)]) (fun v ls hI ih_58_308 => ?_) ((0 : Int32), (0 : Int32)) ⟨(show (0 : Int) ≤ (0 : Int32).toInt ∧ (0 : Int32).toInt ≤ 20000 from (rg_w (by decide : (0 : Int) ≤ (0 : Int32).toInt ∧ (0 : Int32).toInt ≤ 0) (by decide) (by decide))), lv_sub hl [0, 1, 2, 3, 4, 5, 6, 7, 8] rfl⟩
      obtain ⟨y_197, y_198⟩ := v
      obtain ⟨b_y_197, hl⟩ := hI
      have b_y_197 : (0 : Int) ≤ y_197.toInt ∧ y_197.toInt ≤ 20000 := b_y_197
      have hl : lv_has ls 14 [(10, .int y_197), (9, .int y_198), (7, .long r_174), (6, .int r_173), (4, .long r_172), (0, .ref h0), (1, .int a1), (2, .int a2), (3, .int a3)] := hl
      refine lv_iload hx hb dX9_same_58 (lv_at hl 0 rfl) ?_
      refine lv_aload_n hx hb dX9_same_60 rfl (lv_at hl 5 rfl) ?_
      refine va_get (D := (dC, dI)) (ci := 7) (v := .ref cu) (C := RX9) (T := TX9) (N := 10) hx hb hts iX9_same_X9 hown hK hP 0 rfl rfl 3 (by decide) (hts (.fieldLink RX9 35 "LuckyTicket" "current" "LLuckyTicket$Roll;") (List.mem_of_getElem? (i := 6) rfl)) (fun _ h9 => h9) rfl dX9_same_61 ?_
      refine va_getN (own := RX9) (index := 155) (ref := RX2) (host := RX9) (D := (dC, dI)) (ci := 1) (v := .int tk) (C := RX2) (T := TX2) (N := 7) hx hb hts iX9_same_X2 hown hK hP 1 rfl rfl 2 (by decide) (va_Nw.use rfl (hN _ (List.mem_of_getElem? (i := 18) rfl))) (fun _ h9 => h9) rfl dX9_same_64 ?_
      refine lv_icmp_ge (tgt := 155) hx hb dX9_same_67 (by decide) (fun c_309 => ?_) (fun c_309 => ?_)
      ·
        have n_c_309 : (tk.toInt : Int) ≤ y_197.toInt := c_ge rfl rfl c_309
        refine lv_iload_n hx hb dX9_same_155 rfl (lv_at hl 8 rfl) ?_
        refine lv_iconst (v := 2) hx hb dX9_same_156 (by decide) ?_
        refine lv_icmp_ne (tgt := 164) hx hb dX9_same_157 (by decide) (fun c_310 => ?_) (fun c_310 => ?_)
        ·
          have n_c_310 : (a3.toInt : Int) ≠ 2 := c_ne rfl (by decide) c_310
          have b_a3 : (0 : Int) ≤ a3.toInt ∧ a3.toInt ≤ 1 := r_ne2 b_a3 (by decide : (2 : Int) ≤ (2 : Int32).toInt ∧ (2 : Int32).toInt ≤ 2) n_c_310 (by decide)
          refine lv_iload hx hb dX9_same_164 (lv_at hl 1 rfl) ?_
          exact W.iret (v := y_198) hx hb hr (fun t ht hW => ⟨y_198, rfl, trivial, ht⟩) t_nil dX9_same_166
        ·
          have n_c_310 : (a3.toInt : Int) = 2 := c_eq rfl (by decide) c_310
          have b_a3 : (2 : Int) ≤ a3.toInt ∧ a3.toInt ≤ 2 := r_eq1 b_a3 (by decide : (2 : Int) ≤ (2 : Int32).toInt ∧ (2 : Int32).toInt ≤ 2) n_c_310 (by decide)
          refine lv_iconst (v := (-1)) hx hb dX9_same_160 (by decide) ?_
          refine lv_goto (tgt := 166) hx hb dX9_same_161 (by decide) ?_
          exact W.iret (v := (-1)) hx hb hr (fun t ht hW => ⟨(-1), rfl, trivial, ht⟩) t_nil dX9_same_166
      ·
        have n_c_309 : (y_197.toInt : Int) < tk.toInt := c_nge rfl rfl c_309
        have b_y_197 : (0 : Int) ≤ y_197.toInt ∧ y_197.toInt ≤ 19999 := r_lt1 b_y_197 b_tk n_c_309 (by decide)
        have b_tk : (1 : Int) ≤ tk.toInt ∧ tk.toInt ≤ 20000 := r_lt2 b_y_197 b_tk n_c_309 (by decide)
        refine lv_aload_n hx hb dX9_same_70 rfl (lv_at hl 5 rfl) ?_
        refine va_get (D := (dC, dI)) (ci := 7) (v := .ref cu) (C := RX9) (T := TX9) (N := 10) hx hb hts iX9_same_X9 hown hK hP 0 rfl rfl 3 (by decide) (hts (.fieldLink RX9 35 "LuckyTicket" "current" "LLuckyTicket$Roll;") (List.mem_of_getElem? (i := 6) rfl)) (fun _ h9 => h9) rfl dX9_same_71 ?_
        refine lv_iload hx hb dX9_same_74 (lv_at hl 0 rfl) ?_
        refine vp_callSl (W.runV (As := [.int y_197]) (rest := []) ⟨hx, hb, hml, hown, hts⟩ (kX2_faceOf l dC dI cu ln bs tk lw li fa lu cF nf ff y_197 b_ln b_bs (rg_w b_tk (by decide) (by decide)) b_lw (by omega)) (cwV 1 hts gX9_same__X2_faceOf_V106 rfl rfl rfl (by decide +kernel) ⟨lel 2 2 rfl, lel 42 43 rfl⟩) ⟨pw_fb, va_recv hK hP (ci := 1) (q0 := 1) rfl rfl, (pw_use hP hK hN [1, 3] rfl [1] rfl)⟩ rfl rfl hl.1 rfl (lv_room (Nat.le_of_ble_eq_true rfl)) dX9_same_76 ⟨lel 0 0 rfl, lel 0 0 rfl⟩) (fun r_311 h_r_311 => ?_)
        refine lv_lstore (lv' := [(11, .long r_311), (10, .int y_197), (9, .int y_198), (7, .long r_174), (6, .int r_173), (4, .long r_172), (0, .ref h0), (1, .int a1), (2, .int a2), (3, .int a3)]) hx hb dX9_same_79 hl (by decide) rfl (fun ls hl => ?_)
        refine lv_lload hx hb dX9_same_81 (lv_at hl 0 rfl) ?_
        refine vp_callSi (W.runS (As := [.long r_311]) (rest := []) ⟨hx, hb, hml, hown, hts⟩ (kX0_sumOf l dC dI r_311 ) (va_cwS 1 hts gX9_same__X0_sumOf_S119 rfl rfl rfl (by decide +kernel) ⟨lel 1 2 rfl, lel 23 43 rfl⟩) ⟨pn_fb, pn_use⟩ rfl rfl hl.1 rfl (lv_room (Nat.le_of_ble_eq_true rfl)) dX9_same_83 ⟨lel 0 0 rfl, lel 0 0 rfl⟩) (fun r_312 h_r_312 => ?_)
        have b_r_312 := h_r_312
        have b_r_312 : (0 : Int) ≤ r_312.toInt ∧ r_312.toInt ≤ 255 := b_r_312
        refine lv_iload hx hb dX9_same_86 (lv_at hl 4 rfl) ?_
        refine cutP (σ := Int32) (pc2 := 114) (st2 := fun v => [.int v]) (cells2 := 0) (slots2 := 0) (fun v ls => ((0 : Int) ≤ v.toInt ∧ v.toInt ≤ 1) ∧ lv_has ls 14 [(11, .long r_311), (10, .int y_197), (9, .int y_198), (7, .long r_174), (6, .int r_173), (4, .long r_172), (0, .ref h0), (1, .int a1), (2, .int a2), (3, .int a3)]) (fun v ls hI => ?_) (fun hj_114_316 => ?_)
        ·
          obtain ⟨y_316, rfl⟩ : ∃ z, z = v := ⟨_, rfl⟩
          obtain ⟨b_y_316, hl⟩ := hI
          have b_y_316 : (0 : Int) ≤ y_316.toInt ∧ y_316.toInt ≤ 1 := b_y_316
          have hl : lv_has ls 14 [(11, .long r_311), (10, .int y_197), (9, .int y_198), (7, .long r_174), (6, .int r_173), (4, .long r_172), (0, .ref h0), (1, .int a1), (2, .int a2), (3, .int a3)] := hl
          refine lv_istore (lv' := [(13, .int y_316), (11, .long r_311), (10, .int y_197), (9, .int y_198), (7, .long r_174), (6, .int r_173), (4, .long r_172), (0, .ref h0), (1, .int a1), (2, .int a2), (3, .int a3)]) hx hb dX9_same_114 hl (by decide) rfl (fun ls hl => ?_)
          refine lv_iload hx hb dX9_same_116 (lv_at hl 0 rfl) ?_
          refine lv_if_eq (tgt := 149) hx hb dX9_same_118 (by decide) (fun c_317 => ?_) (fun c_317 => ?_)
          ·
            have n_c_317 : (y_316.toInt : Int) = 0 := c_eq rfl (by decide) c_317
            have b_y_316 : (0 : Int) ≤ y_316.toInt ∧ y_316.toInt ≤ 0 := r_eq1 b_y_316 (by decide : (0 : Int) ≤ (0 : Int32).toInt ∧ (0 : Int32).toInt ≤ 0) n_c_317 (by decide)
            obtain ⟨z_318, e_z_318⟩ : ∃ y : Int32, y = y_197 + 1 := ⟨_, rfl⟩
            refine lv_iinc (v := z_318) (lv' := [(10, .int z_318), (13, .int y_316), (11, .long r_311), (9, .int y_198), (7, .long r_174), (6, .int r_173), (4, .long r_172), (0, .ref h0), (1, .int a1), (2, .int a2), (3, .int a3)]) hx hb dX9_same_149 hl (k := 2) rfl (by rw [e_z_318]; rfl) (by decide) rfl (fun ls hl => ?_)
            obtain ⟨q_z_318, b_z_318⟩ := ti_add (lo := 1) (hi := 20000) e_z_318 rfl (by decide : (1 : Int32).toInt = 1) b_y_197 (by decide : (1 : Int) ≤ (1 : Int32).toInt ∧ (1 : Int32).toInt ≤ 1) (by decide)
            refine lv_goto (tgt := 58) hx hb dX9_same_152 (by decide) ?_
            exact ih_58_308 (z_318, y_198) _ ⟨(show (0 : Int) ≤ z_318.toInt ∧ z_318.toInt ≤ 20000 from (rg_w b_z_318 (by decide) (by decide))), lv_sub hl [0, 3, 4, 5, 6, 7, 8, 9, 10] rfl⟩ (show (20000 - z_318.toInt).toNat < (20000 - y_197.toInt).toNat by omega)
          ·
            have n_c_317 : (y_316.toInt : Int) ≠ 0 := c_ne rfl (by decide) c_317
            have b_y_316 : (1 : Int) ≤ y_316.toInt ∧ y_316.toInt ≤ 1 := r_ne1 b_y_316 (by decide : (0 : Int) ≤ (0 : Int32).toInt ∧ (0 : Int32).toInt ≤ 0) n_c_317 (by decide)
            refine lv_iload_n hx hb dX9_same_121 rfl (lv_at hl 10 rfl) ?_
            refine lv_if_eq (tgt := 138) hx hb dX9_same_122 (by decide) (fun c_319 => ?_) (fun c_319 => ?_)
            ·
              have n_c_319 : (a3.toInt : Int) = 0 := c_eq rfl (by decide) c_319
              have b_a3 : (0 : Int) ≤ a3.toInt ∧ a3.toInt ≤ 0 := r_eq1 b_a3 (by decide : (0 : Int) ≤ (0 : Int32).toInt ∧ (0 : Int32).toInt ≤ 0) n_c_319 (by decide)
              refine lv_iload_n hx hb dX9_same_138 rfl (lv_at hl 10 rfl) ?_
              refine lv_iconst (v := 2) hx hb dX9_same_139 (by decide) ?_
              refine lv_icmp_ne (tgt := 146) hx hb dX9_same_140 (by decide) (fun c_320 => ?_) (fun c_320 => absurd (show (a3.toInt : Int) = 2 from c_eq rfl (by decide) c_320) (by have q1 := b_a3; have q2 := (by decide : (2 : Int) ≤ (2 : Int32).toInt ∧ (2 : Int32).toInt ≤ 2); omega))
              obtain ⟨z_321, e_z_321⟩ : ∃ y : Int32, y = y_198 + 1 := ⟨_, rfl⟩
              refine lv_iinc (v := z_321) (lv' := [(9, .int z_321), (13, .int y_316), (11, .long r_311), (10, .int y_197), (7, .long r_174), (6, .int r_173), (4, .long r_172), (0, .ref h0), (1, .int a1), (2, .int a2), (3, .int a3)]) hx hb dX9_same_146 hl (k := 3) rfl (by rw [e_z_321]; rfl) (by decide) rfl (fun ls hl => ?_)
              obtain ⟨z_322, e_z_322⟩ : ∃ y : Int32, y = y_197 + 1 := ⟨_, rfl⟩
              refine lv_iinc (v := z_322) (lv' := [(10, .int z_322), (9, .int z_321), (13, .int y_316), (11, .long r_311), (7, .long r_174), (6, .int r_173), (4, .long r_172), (0, .ref h0), (1, .int a1), (2, .int a2), (3, .int a3)]) hx hb dX9_same_149 hl (k := 3) rfl (by rw [e_z_322]; rfl) (by decide) rfl (fun ls hl => ?_)
              obtain ⟨q_z_322, b_z_322⟩ := ti_add (lo := 1) (hi := 20000) e_z_322 rfl (by decide : (1 : Int32).toInt = 1) b_y_197 (by decide : (1 : Int) ≤ (1 : Int32).toInt ∧ (1 : Int32).toInt ≤ 1) (by decide)
              refine lv_goto (tgt := 58) hx hb dX9_same_152 (by decide) ?_
              exact ih_58_308 (z_322, z_321) _ ⟨(show (0 : Int) ≤ z_322.toInt ∧ z_322.toInt ≤ 20000 from (rg_w b_z_322 (by decide) (by decide))), lv_sub hl [0, 1, 4, 5, 6, 7, 8, 9, 10] rfl⟩ (show (20000 - z_322.toInt).toNat < (20000 - y_197.toInt).toNat by omega)
            ·
              have n_c_319 : (a3.toInt : Int) ≠ 0 := c_ne rfl (by decide) c_319
              have b_a3 : (1 : Int) ≤ a3.toInt ∧ a3.toInt ≤ 2 := r_ne1 b_a3 (by decide : (0 : Int) ≤ (0 : Int32).toInt ∧ (0 : Int32).toInt ≤ 0) n_c_319 (by decide)
              refine lv_aload_n hx hb dX9_same_125 rfl (lv_at hl 7 rfl) ?_
              refine va_get (D := (dC, dI)) (ci := 7) (v := .ref cu) (C := RX9) (T := TX9) (N := 10) hx hb hts iX9_same_X9 hown hK hP 0 rfl rfl 3 (by decide) (hts (.fieldLink RX9 35 "LuckyTicket" "current" "LLuckyTicket$Roll;") (List.mem_of_getElem? (i := 6) rfl)) (fun _ h9 => h9) rfl dX9_same_126 ?_
              refine lv_iload_n hx hb dX9_same_129 rfl (lv_at hl 8 rfl) ?_
              refine lv_iload hx hb dX9_same_130 (lv_at hl 2 rfl) ?_
              refine vp_callSi (W.runV (As := [.int a1, .int y_197]) (rest := []) ⟨hx, hb, hml, hown, hts⟩ (kX2_isLucky l dC dI cu ln bs tk lw li fa lu cL nl fl a1 y_197 b_ln b_bs (rg_w b_tk (by decide) (by decide)) b_lw (by omega)) (cwV 2 hts gX9_same__X2_isLucky_V175 rfl rfl rfl (by decide +kernel) ⟨lel 1 2 rfl, lel 22 43 rfl⟩) ⟨pw_fb, va_recv hK hP (ci := 1) (q0 := 1) rfl rfl, (pw_use hP hK hN [1, 2] rfl [0] rfl)⟩ rfl rfl hl.1 rfl (lv_room (Nat.le_of_ble_eq_true rfl)) dX9_same_132 ⟨lel 0 0 rfl, lel 0 0 rfl⟩) (fun r_323 h_r_323 => ?_)
              have b_r_323 := h_r_323
              have b_r_323 : (0 : Int) ≤ r_323.toInt ∧ r_323.toInt ≤ 1 := b_r_323
              refine lv_if_eq (tgt := 149) hx hb dX9_same_135 (by decide) (fun c_324 => ?_) (fun c_324 => ?_)
              ·
                have n_c_324 : (r_323.toInt : Int) = 0 := c_eq rfl (by decide) c_324
                have b_r_323 : (0 : Int) ≤ r_323.toInt ∧ r_323.toInt ≤ 0 := r_eq1 b_r_323 (by decide : (0 : Int) ≤ (0 : Int32).toInt ∧ (0 : Int32).toInt ≤ 0) n_c_324 (by decide)
                obtain ⟨z_325, e_z_325⟩ : ∃ y : Int32, y = y_197 + 1 := ⟨_, rfl⟩
                refine lv_iinc (v := z_325) (lv' := [(10, .int z_325), (13, .int y_316), (11, .long r_311), (9, .int y_198), (7, .long r_174), (6, .int r_173), (4, .long r_172), (0, .ref h0), (1, .int a1), (2, .int a2), (3, .int a3)]) hx hb dX9_same_149 hl (k := 2) rfl (by rw [e_z_325]; rfl) (by decide) rfl (fun ls hl => ?_)
                obtain ⟨q_z_325, b_z_325⟩ := ti_add (lo := 1) (hi := 20000) e_z_325 rfl (by decide : (1 : Int32).toInt = 1) b_y_197 (by decide : (1 : Int) ≤ (1 : Int32).toInt ∧ (1 : Int32).toInt ≤ 1) (by decide)
                refine lv_goto (tgt := 58) hx hb dX9_same_152 (by decide) ?_
                exact ih_58_308 (z_325, y_198) _ ⟨(show (0 : Int) ≤ z_325.toInt ∧ z_325.toInt ≤ 20000 from (rg_w b_z_325 (by decide) (by decide))), lv_sub hl [0, 3, 4, 5, 6, 7, 8, 9, 10] rfl⟩ (show (20000 - z_325.toInt).toNat < (20000 - y_197.toInt).toNat by omega)
              ·
                have n_c_324 : (r_323.toInt : Int) ≠ 0 := c_ne rfl (by decide) c_324
                have b_r_323 : (1 : Int) ≤ r_323.toInt ∧ r_323.toInt ≤ 1 := r_ne1 b_r_323 (by decide : (0 : Int) ≤ (0 : Int32).toInt ∧ (0 : Int32).toInt ≤ 0) n_c_324 (by decide)
                refine lv_iload_n hx hb dX9_same_138 rfl (lv_at hl 10 rfl) ?_
                refine lv_iconst (v := 2) hx hb dX9_same_139 (by decide) ?_
                refine lv_icmp_ne (tgt := 146) hx hb dX9_same_140 (by decide) (fun c_326 => ?_) (fun c_326 => ?_)
                ·
                  have n_c_326 : (a3.toInt : Int) ≠ 2 := c_ne rfl (by decide) c_326
                  have b_a3 : (1 : Int) ≤ a3.toInt ∧ a3.toInt ≤ 1 := r_ne2 b_a3 (by decide : (2 : Int) ≤ (2 : Int32).toInt ∧ (2 : Int32).toInt ≤ 2) n_c_326 (by decide)
                  obtain ⟨z_327, e_z_327⟩ : ∃ y : Int32, y = y_198 + 1 := ⟨_, rfl⟩
                  refine lv_iinc (v := z_327) (lv' := [(9, .int z_327), (13, .int y_316), (11, .long r_311), (10, .int y_197), (7, .long r_174), (6, .int r_173), (4, .long r_172), (0, .ref h0), (1, .int a1), (2, .int a2), (3, .int a3)]) hx hb dX9_same_146 hl (k := 3) rfl (by rw [e_z_327]; rfl) (by decide) rfl (fun ls hl => ?_)
                  obtain ⟨z_328, e_z_328⟩ : ∃ y : Int32, y = y_197 + 1 := ⟨_, rfl⟩
                  refine lv_iinc (v := z_328) (lv' := [(10, .int z_328), (9, .int z_327), (13, .int y_316), (11, .long r_311), (7, .long r_174), (6, .int r_173), (4, .long r_172), (0, .ref h0), (1, .int a1), (2, .int a2), (3, .int a3)]) hx hb dX9_same_149 hl (k := 3) rfl (by rw [e_z_328]; rfl) (by decide) rfl (fun ls hl => ?_)
                  obtain ⟨q_z_328, b_z_328⟩ := ti_add (lo := 1) (hi := 20000) e_z_328 rfl (by decide : (1 : Int32).toInt = 1) b_y_197 (by decide : (1 : Int) ≤ (1 : Int32).toInt ∧ (1 : Int32).toInt ≤ 1) (by decide)
                  refine lv_goto (tgt := 58) hx hb dX9_same_152 (by decide) ?_
                  exact ih_58_308 (z_328, z_327) _ ⟨(show (0 : Int) ≤ z_328.toInt ∧ z_328.toInt ≤ 20000 from (rg_w b_z_328 (by decide) (by decide))), lv_sub hl [0, 1, 4, 5, 6, 7, 8, 9, 10] rfl⟩ (show (20000 - z_328.toInt).toNat < (20000 - y_197.toInt).toNat by omega)
                ·
                  have n_c_326 : (a3.toInt : Int) = 2 := c_eq rfl (by decide) c_326
                  have b_a3 : (2 : Int) ≤ a3.toInt ∧ a3.toInt ≤ 2 := r_eq1 b_a3 (by decide : (2 : Int) ≤ (2 : Int32).toInt ∧ (2 : Int32).toInt ≤ 2) n_c_326 (by decide)
                  refine lv_iload hx hb dX9_same_143 (lv_at hl 2 rfl) ?_
                  exact W.iret (v := y_197) hx hb hr (fun t ht hW => ⟨y_197, rfl, trivial, ht⟩) t_nil dX9_same_145
        ·
          refine lv_icmp_ne (tgt := 113) hx hb dX9_same_88 (by decide) (fun c_313 => ?_) (fun c_313 => ?_)
          ·
            have n_c_313 : (r_312.toInt : Int) ≠ r_173.toInt := c_ne rfl rfl c_313
            refine lv_iconst (v := 0) hx hb dX9_same_113 (by decide) ?_
            exact hj_114_316 (0 : Int32) _ ⟨(show (0 : Int) ≤ (0 : Int32).toInt ∧ (0 : Int32).toInt ≤ 1 from (rg_w (by decide : (0 : Int) ≤ (0 : Int32).toInt ∧ (0 : Int32).toInt ≤ 0) (by decide) (by decide))), lv_sub hl [0, 1, 2, 3, 4, 5, 6, 7, 8, 9] rfl⟩
          ·
            have n_c_313 : (r_312.toInt : Int) = r_173.toInt := c_eq rfl rfl c_313
            refine lv_lload hx hb dX9_same_91 (lv_at hl 0 rfl) ?_
            refine lv_aload_n hx hb dX9_same_93 rfl (lv_at hl 6 rfl) ?_
            refine va_get (D := (dC, dI)) (ci := 7) (v := .ref cu) (C := RX9) (T := TX9) (N := 10) hx hb hts iX9_same_X9 hown hK hP 0 rfl rfl 3 (by decide) (hts (.fieldLink RX9 35 "LuckyTicket" "current" "LLuckyTicket$Roll;") (List.mem_of_getElem? (i := 6) rfl)) (fun _ h9 => h9) rfl dX9_same_94 ?_
            refine va_getN (own := RX9) (index := 110) (ref := RX2) (host := RX9) (D := (dC, dI)) (ci := 1) (v := .int ln) (C := RX2) (T := TX2) (N := 7) hx hb hts iX9_same_X2 hown hK hP 1 rfl rfl 0 (by decide) (va_Nw.use rfl (hN _ (List.mem_of_getElem? (i := 14) rfl))) (fun _ h9 => h9) rfl dX9_same_97 ?_
            refine vp_callSl (W.runS (As := [.long r_311, .int ln]) (rest := []) ⟨hx, hb, hml, hown, hts⟩ (kX0_countsOf l dC dI r_311 ln b_ln) (va_cwS 2 hts gX9_same__X0_countsOf_S286 rfl rfl rfl (by decide +kernel) ⟨lel 1 2 rfl, lel 27 43 rfl⟩) ⟨pn_fb, pn_use⟩ rfl rfl hl.1 rfl (lv_room (Nat.le_of_ble_eq_true rfl)) dX9_same_100 ⟨lel 0 0 rfl, lel 0 0 rfl⟩) (fun r_329 h_r_329 => ?_)
            refine lv_lload hx hb dX9_same_103 (lv_at hl 3 rfl) ?_
            refine W.lcmp hx hb dX9_same_105 ?_
            refine lv_if_ne (tgt := 113) hx hb dX9_same_106 (by decide) (fun c_330 => ?_) (fun c_330 => ?_)
            ·
              have n_c_330 : (r_329.toInt : Int) ≠ r_174.toInt := g_ne rfl rfl c_330
              refine lv_iconst (v := 0) hx hb dX9_same_113 (by decide) ?_
              exact hj_114_316 (0 : Int32) _ ⟨(show (0 : Int) ≤ (0 : Int32).toInt ∧ (0 : Int32).toInt ≤ 1 from (rg_w (by decide : (0 : Int) ≤ (0 : Int32).toInt ∧ (0 : Int32).toInt ≤ 0) (by decide) (by decide))), lv_sub hl [0, 1, 2, 3, 4, 5, 6, 7, 8, 9] rfl⟩
            ·
              have n_c_330 : (r_329.toInt : Int) = r_174.toInt := g_eq rfl rfl c_330
              refine lv_iconst (v := 1) hx hb dX9_same_109 (by decide) ?_
              refine lv_goto (tgt := 114) hx hb dX9_same_110 (by decide) ?_
              exact hj_114_316 (1 : Int32) _ ⟨(show (0 : Int) ≤ (1 : Int32).toInt ∧ (1 : Int32).toInt ≤ 1 from (rg_w (by decide : (1 : Int) ≤ (1 : Int32).toInt ∧ (1 : Int32).toInt ≤ 1) (by decide) (by decide))), lv_sub hl [0, 1, 2, 3, 4, 5, 6, 7, 8, 9] rfl⟩
    ·
      have n_c_170 : (r_169.toInt : Int) = 0 := c_eq rfl (by decide) c_170
      have b_r_169 : (0 : Int) ≤ r_169.toInt ∧ r_169.toInt ≤ 0 := r_eq1 b_r_169 (by decide : (0 : Int) ≤ (0 : Int32).toInt ∧ (0 : Int32).toInt ≤ 0) n_c_170 (by decide)
      refine lv_bipush (v := (-2)) hx hb dX9_same_18 (by decide) ?_
      exact W.iret (v := (-2)) hx hb hr (fun t ht hW => ⟨(-2), rfl, trivial, ht⟩) t_nil dX9_same_20
