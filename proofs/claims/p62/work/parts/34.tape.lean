def uX1_advance0 : List Cond := List.cons (.code yX1_advance cX1_advance 3 none) (HAppend.hAppend ([.fieldLink RX1 15 "LuckyTicket$Reader" "tape" "LLuckyTicket$Tape;", .fieldLink RX1 26 "LuckyTicket$Reader" "stop" "I", .fieldLink RX1 178 "LuckyTicket$Reader" "start" "I", .fieldLink RX1 172 "LuckyTicket$Reader" "value" "I", .fieldLink RX1 39 "LuckyTicket$Reader" "token" "I"] : List Cond) (HAppend.hAppend wsX10 wsX70))
theorem iX1_advance0_X1 : ∀ w ∈ wsX10, w ∈ uX1_advance0 := fun _ h => (List.mem_cons_of_mem _ (List.mem_append_right _ (List.mem_append_left _ h)))
theorem iX1_advance0_X7 : ∀ w ∈ wsX70, w ∈ uX1_advance0 := fun _ h => (List.mem_cons_of_mem _ (List.mem_append_right _ (List.mem_append_right _ h)))
theorem guX1_advance0 : GU uX1_advance0 := gu_cons (gu_app (by decide +kernel) (gu_ap gws_X1 gws_X7))
set_option maxHeartbeats 4000000 in
set_option maxRecDepth 100000 in
theorem kX1_advance0 (l : Launch) (dC : Nat → ClassId) (dI : Nat → Nat → Nat) (rd : Nat) (xf : Int32) (xp : Int32) (xt : Int32) (xa : Int32) (xo : Int32) (xv : Int32) (xj : Int32) (tp : Nat) (tb : Nat) (ts : Int32) (cB : ClassId) (fb : Nat → Int32) (sc : Nat) (sz : Nat) (b_xf : (0 : Int) ≤ xf.toInt ∧ xf.toInt ≤ 3) (b_xp : (-1 : Int) ≤ xp.toInt ∧ xp.toInt ≤ 1200) (b_xt : (0 : Int) ≤ xt.toInt ∧ xt.toInt ≤ 4) (b_xa : (0 : Int) ≤ xa.toInt ∧ xa.toInt ≤ 1200) (b_xo : (0 : Int) ≤ xo.toInt ∧ xo.toInt ≤ 1200) (b_ts : (0 : Int) ≤ ts.toInt ∧ ts.toInt ≤ 1200) : Met l yX1_advance uX1_advance0 ({ frames := 0, cells := 0, slots := 0, locals := 0 }) (va_Pc [.ref rd] (hw (dC, dI) vwCl [(rd, .inr (0, [.ref tp, .ref sc, .int xf, .int xp, .int xt, .int xa, .int xo, .int xv, .int xj])), (tp, .inr (6, [.ref tb, .int ts])), (tb, .inl (cB, 1200, .inl fb))] [(cB, .byte)] sz)) (va_Qv (fun (_ : Unit) => True) (fun (_ : Unit) t => ∃ (o0_ : Int32) (o1_ : Int32) (o2_ : Int32) (o3_ : Int32), ((0 : Int) ≤ o0_.toInt ∧ o0_.toInt ≤ 4) ∧ ((0 : Int) ≤ o1_.toInt ∧ o1_.toInt ≤ 1200) ∧ ((0 : Int) ≤ o2_.toInt ∧ o2_.toInt ≤ 1200) ∧ (o1_.toInt ≤ o2_.toInt) ∧ va_P (dC, dI) vwCl [(rd, .inr (0, [.ref tp, .ref sc, .int xf, .int xp, .int o0_, .int o1_, .int o2_, .int o3_, .int xj])), (tp, .inr (6, [.ref tb, .int ts])), (tb, .inl (cB, 1200, .inl fb))] t.heap ∧ va_K (dC, dI) vwCl [(cB, .byte)] t ∧ va_D (va_A [(rd, .inr (0, [.ref tp, .ref sc, .int xf, .int xp, .int xt, .int xa, .int xo, .int xv, .int xj])), (tp, .inr (6, [.ref tb, .int ts])), (tb, .inl (cB, 1200, .inl fb))] sz) [(rd, .inr (0, [.ref tp, .ref sc, .int xf, .int xp, .int o0_, .int o1_, .int o2_, .int o3_, .int xj])), (tp, .inr (6, [.ref tb, .int ts])), (tb, .inl (cB, 1200, .inl fb))]) (va_A [(rd, .inr (0, [.ref tp, .ref sc, .int xf, .int xp, .int xt, .int xa, .int xo, .int xv, .int xj])), (tp, .inr (6, [.ref tb, .int ts])), (tb, .inl (cB, 1200, .inl fb))] sz)) 0 0 (va_A [(rd, .inr (0, [.ref tp, .ref sc, .int xf, .int xp, .int xt, .int xa, .int xo, .int xv, .int xj])), (tp, .inr (6, [.ref tb, .int ts])), (tb, .inl (cB, 1200, .inl fb))] sz) := by
  refine Met.ofW (cc := cX1_advance) (maxL := 3) (ret := none) pn_X1 rfl ?_
  intro p e s m args below meth c s₁ B hml hv
  obtain ⟨rfl, hsz, hP, hK, hD0, hN⟩ := hv
  have hx := B.exec
  have hb := B.bytes
  have hr := B.returns
  have hts := atoms_spec (ws := uX1_advance0) B.pre
  have hown : s.vm.findClass RX1 = some m.cls := hown_of B.named rfl
  have hlocks := B.notSynchronized
  subst hsz
  have hD := hD0.self (sz := s.heap.size)
  generalize hAe : va_A [(rd, .inr (0, [.ref tp, .ref sc, .int xf, .int xp, .int xt, .int xa, .int xo, .int xv, .int xj])), (tp, .inr (6, [.ref tb, .int ts])), (tb, .inl (cB, 1200, .inl fb))] s.heap.size = A at hD ⊢
  have hA : ∀ q : Nat, s.heap.size ≤ q → A q := fun q h => by rw [← hAe]; exact Or.inr h
  have hS : va_S A s.heap s.heap [] := va_S.rf
  have hP : va_P (dC, dI) vwCl [(rd, .inr (0, [.ref tp, .ref sc, .int xf, .int xp, .int xt, .int xa, .int xo, .int xv, .int xj])), (tp, .inr (6, [.ref tb, .int ts])), (tb, .inl (cB, 1200, .inl fb))] s.heap := hP
  have hl := lv_entry ([.ref rd]) (n := 3) (Nat.le_of_ble_eq_true rfl)
  rw [lg_entry_eq]
  generalize (lg_sl ([.ref rd]) ++ List.replicate (3 - (lg_sl ([.ref rd])).length) Slot.unset).toArray = ls at hl ⊢
  have hl : lv_has ls 3 [(0, .ref rd)] := hl
  refine lv_aload_n hx hb dX1_advance_0 rfl (lv_at hl 0 rfl) ?_
  refine va_get (D := (dC, dI)) (ci := 0) (v := .ref tp) (C := RX1) (T := TX1) (N := 9) hx hb hts iX1_advance0_X1 hown hK hP 0 rfl rfl 0 (by decide) (hts (.fieldLink RX1 15 "LuckyTicket$Reader" "tape" "LLuckyTicket$Tape;") (List.mem_of_getElem? (i := 1) rfl)) (fun _ h9 => h9) rfl dX1_advance_1 ?_
  refine va_getN (own := RX1) (index := 186) (ref := RX7) (host := RX9) (D := (dC, dI)) (ci := 6) (v := .ref tb) (C := RX7) (T := TX7) (N := 2) hx hb hts iX1_advance0_X7 hown hK hP 1 rfl rfl 0 (by decide) (va_Nw.use rfl (hN _ (List.mem_of_getElem? (i := 0) rfl))) (fun _ h9 => h9) rfl dX1_advance_4 ?_
  refine lv_astore_n (lv' := [(1, .ref tb), (0, .ref rd)]) hx hb dX1_advance_7 rfl hl (by decide) rfl (fun ls hl => ?_)
  refine lv_aload_n hx hb dX1_advance_8 rfl (lv_at hl 1 rfl) ?_
  refine va_get (D := (dC, dI)) (ci := 0) (v := .ref tp) (C := RX1) (T := TX1) (N := 9) hx hb hts iX1_advance0_X1 hown hK hP 0 rfl rfl 0 (by decide) (hts (.fieldLink RX1 15 "LuckyTicket$Reader" "tape" "LLuckyTicket$Tape;") (List.mem_of_getElem? (i := 1) rfl)) (fun _ h9 => h9) rfl dX1_advance_9 ?_
  refine va_getN (own := RX1) (index := 194) (ref := RX7) (host := RX9) (D := (dC, dI)) (ci := 6) (v := .int ts) (C := RX7) (T := TX7) (N := 2) hx hb hts iX1_advance0_X7 hown hK hP 1 rfl rfl 1 (by decide) (va_Nw.use rfl (hN _ (List.mem_of_getElem? (i := 2) rfl))) (fun _ h9 => h9) rfl dX1_advance_12 ?_
  refine lv_istore_n (lv' := [(2, .int ts), (1, .ref tb), (0, .ref rd)]) hx hb dX1_advance_15 rfl hl (by decide) rfl (fun ls hl => ?_)
  refine loopW (σ := Int32) (fun v => (1200 - v.toInt).toNat) (fun v H locs ls => ((0 : Int) ≤ v.toInt ∧ v.toInt ≤ 1200) ∧ va_P (dC, dI) vwCl [(rd, .inr (0, [.ref tp, .ref sc, .int xf, .int xp, .int xt, .int xa, .int v, .int xv, .int xj])), (tp, .inr (6, [.ref tb, .int ts])), (tb, .inl (cB, 1200, .inl fb))] H ∧ va_D A [(rd, .inr (0, [.ref tp, .ref sc, .int xf, .int xp, .int xt, .int xa, .int v, .int xv, .int xj])), (tp, .inr (6, [.ref tb, .int ts])), (tb, .inl (cB, 1200, .inl fb))] ∧ va_S A s.heap H locs ∧ lv_has ls 3 [(2, .int ts), (1, .ref tb), (0, .ref rd)]) (fun v H locs ls hI ih_16_837 => ?_) xo ⟨(show (0 : Int) ≤ xo.toInt ∧ xo.toInt ≤ 1200 from b_xo), hP, hD, hS, lv_sub hl [0, 1, 2] rfl⟩
  obtain ⟨y_670, rfl⟩ : ∃ z, z = v := ⟨_, rfl⟩
  obtain ⟨b_y_670, hP, hD, hS, hl⟩ := hI
  have b_y_670 : (0 : Int) ≤ y_670.toInt ∧ y_670.toInt ≤ 1200 := b_y_670
  have hP : va_P (dC, dI) vwCl [(rd, .inr (0, [.ref tp, .ref sc, .int xf, .int xp, .int xt, .int xa, .int y_670, .int xv, .int xj])), (tp, .inr (6, [.ref tb, .int ts])), (tb, .inl (cB, 1200, .inl fb))] H := hP
  have hD : va_D A [(rd, .inr (0, [.ref tp, .ref sc, .int xf, .int xp, .int xt, .int xa, .int y_670, .int xv, .int xj])), (tp, .inr (6, [.ref tb, .int ts])), (tb, .inl (cB, 1200, .inl fb))] := hD
  have hl : lv_has ls 3 [(2, .int ts), (1, .ref tb), (0, .ref rd)] := hl
  refine lv_aload_n hx hb dX1_advance_16 rfl (lv_at hl 2 rfl) ?_
  refine va_get (D := (dC, dI)) (ci := 0) (v := .int y_670) (C := RX1) (T := TX1) (N := 9) hx hb hts iX1_advance0_X1 hown hK hP 0 rfl rfl 6 (by decide) (hts (.fieldLink RX1 26 "LuckyTicket$Reader" "stop" "I") (List.mem_of_getElem? (i := 2) rfl)) (fun _ h9 => h9) rfl dX1_advance_17 ?_
  refine lv_iload_n hx hb dX1_advance_20 rfl (lv_at hl 0 rfl) ?_
  refine cutW (σ := Unit) (pc2 := 59) (st2 := fun v => []) (cells2 := 0) (slots2 := 0) (fun v H locs ls => va_P (dC, dI) vwCl [(rd, .inr (0, [.ref tp, .ref sc, .int xf, .int xp, .int xt, .int xa, .int y_670, .int xv, .int xj])), (tp, .inr (6, [.ref tb, .int ts])), (tb, .inl (cB, 1200, .inl fb))] H ∧ va_D A [(rd, .inr (0, [.ref tp, .ref sc, .int xf, .int xp, .int xt, .int xa, .int y_670, .int xv, .int xj])), (tp, .inr (6, [.ref tb, .int ts])), (tb, .inl (cB, 1200, .inl fb))] ∧ va_S A s.heap H locs ∧ lv_has ls 3 [(2, .int ts), (1, .ref tb), (0, .ref rd)]) (fun v H locs ls hI => ?_) (fun hj_59_844 => ?_)
  ·
    obtain ⟨hP, hD, hS, hl⟩ := hI
    have hP : va_P (dC, dI) vwCl [(rd, .inr (0, [.ref tp, .ref sc, .int xf, .int xp, .int xt, .int xa, .int y_670, .int xv, .int xj])), (tp, .inr (6, [.ref tb, .int ts])), (tb, .inl (cB, 1200, .inl fb))] H := hP
    have hD : va_D A [(rd, .inr (0, [.ref tp, .ref sc, .int xf, .int xp, .int xt, .int xa, .int y_670, .int xv, .int xj])), (tp, .inr (6, [.ref tb, .int ts])), (tb, .inl (cB, 1200, .inl fb))] := hD
    have hl : lv_has ls 3 [(2, .int ts), (1, .ref tb), (0, .ref rd)] := hl
    refine lv_aload_n hx hb dX1_advance_59 rfl (lv_at hl 2 rfl) ?_
    refine lv_aload_n hx hb dX1_advance_60 rfl (lv_at hl 2 rfl) ?_
    refine va_get (D := (dC, dI)) (ci := 0) (v := .int y_670) (C := RX1) (T := TX1) (N := 9) hx hb hts iX1_advance0_X1 hown hK hP 0 rfl rfl 6 (by decide) (hts (.fieldLink RX1 26 "LuckyTicket$Reader" "stop" "I") (List.mem_of_getElem? (i := 2) rfl)) (fun _ h9 => h9) rfl dX1_advance_61 ?_
    refine va_put (D := (dC, dI)) (ci := 0) (v := .int y_670) (ty := .int) (C := RX1) (T := TX1) (N := 9) hx hb hts iX1_advance0_X1 tyX1 tyX1_ok nmX1 hown hK hP hD hS 0 rfl rfl 5 (by decide) (hts (.fieldLink RX1 178 "LuckyTicket$Reader" "start" "I") (List.mem_of_getElem? (i := 3) rfl)) (fun _ h9 => h9) rfl (by decide +kernel) rfl rfl (Nat.le_of_ble_eq_true rfl) dX1_advance_64 (fun H locs hP hD hS => ?_)
    have hP : va_P (dC, dI) vwCl [(rd, .inr (0, [.ref tp, .ref sc, .int xf, .int xp, .int xt, .int y_670, .int y_670, .int xv, .int xj])), (tp, .inr (6, [.ref tb, .int ts])), (tb, .inl (cB, 1200, .inl fb))] H := hP
    have hD : va_D A [(rd, .inr (0, [.ref tp, .ref sc, .int xf, .int xp, .int xt, .int y_670, .int y_670, .int xv, .int xj])), (tp, .inr (6, [.ref tb, .int ts])), (tb, .inl (cB, 1200, .inl fb))] := hD
    refine lv_aload_n hx hb dX1_advance_67 rfl (lv_at hl 2 rfl) ?_
    refine lv_iconst (v := 0) hx hb dX1_advance_68 (by decide) ?_
    refine va_put (D := (dC, dI)) (ci := 0) (v := .int 0) (ty := .int) (C := RX1) (T := TX1) (N := 9) hx hb hts iX1_advance0_X1 tyX1 tyX1_ok nmX1 hown hK hP hD hS 0 rfl rfl 7 (by decide) (hts (.fieldLink RX1 172 "LuckyTicket$Reader" "value" "I") (List.mem_of_getElem? (i := 4) rfl)) (fun _ h9 => h9) rfl (by decide +kernel) rfl rfl (Nat.le_of_ble_eq_true rfl) dX1_advance_69 (fun H locs hP hD hS => ?_)
    have hP : va_P (dC, dI) vwCl [(rd, .inr (0, [.ref tp, .ref sc, .int xf, .int xp, .int xt, .int y_670, .int y_670, .int 0, .int xj])), (tp, .inr (6, [.ref tb, .int ts])), (tb, .inl (cB, 1200, .inl fb))] H := hP
    have hD : va_D A [(rd, .inr (0, [.ref tp, .ref sc, .int xf, .int xp, .int xt, .int y_670, .int y_670, .int 0, .int xj])), (tp, .inr (6, [.ref tb, .int ts])), (tb, .inl (cB, 1200, .inl fb))] := hD
    refine lv_aload_n hx hb dX1_advance_72 rfl (lv_at hl 2 rfl) ?_
    refine va_get (D := (dC, dI)) (ci := 0) (v := .int y_670) (C := RX1) (T := TX1) (N := 9) hx hb hts iX1_advance0_X1 hown hK hP 0 rfl rfl 5 (by decide) (hts (.fieldLink RX1 178 "LuckyTicket$Reader" "start" "I") (List.mem_of_getElem? (i := 3) rfl)) (fun _ h9 => h9) rfl dX1_advance_73 ?_
    refine lv_iload_n hx hb dX1_advance_76 rfl (lv_at hl 0 rfl) ?_
    refine lv_icmp_lt (tgt := 88) hx hb dX1_advance_77 (by decide) (fun c_845 => ?_) (fun c_845 => ?_)
    ·
      have n_c_845 : (y_670.toInt : Int) < ts.toInt := c_lt rfl rfl c_845
      have b_y_670 : (0 : Int) ≤ y_670.toInt ∧ y_670.toInt ≤ 1199 := r_lt1 b_y_670 b_ts n_c_845 (by decide)
      have b_ts : (1 : Int) ≤ ts.toInt ∧ ts.toInt ≤ 1200 := r_lt2 b_y_670 b_ts n_c_845 (by decide)
      refine lv_aload_n hx hb dX1_advance_88 rfl (lv_at hl 1 rfl) ?_
      refine lv_aload_n hx hb dX1_advance_89 rfl (lv_at hl 2 rfl) ?_
      refine va_get (D := (dC, dI)) (ci := 0) (v := .int y_670) (C := RX1) (T := TX1) (N := 9) hx hb hts iX1_advance0_X1 hown hK hP 0 rfl rfl 5 (by decide) (hts (.fieldLink RX1 178 "LuckyTicket$Reader" "start" "I") (List.mem_of_getElem? (i := 3) rfl)) (fun _ h9 => h9) rfl dX1_advance_90 ?_
      refine va_bald hx hb hK hP 2 0 rfl rfl (vp_in_b b_y_670 (by decide) (by decide)) dX1_advance_93 ?_
      refine lv_topi (fun z_846 e_z_846 => ?_)
      refine lv_bipush (v := 97) hx hb dX1_advance_94 (by decide) ?_
      refine lv_icmp_lt (tgt := 158) hx hb dX1_advance_96 (by decide) (fun c_847 => ?_) (fun c_847 => ?_)
      ·
        have n_c_847 : (z_846.toInt : Int) < 97 := c_lt rfl (by decide) c_847
        have b_z_846 : (-2147483648 : Int) ≤ z_846.toInt ∧ z_846.toInt ≤ 96 := r_lt1 (ti_rng z_846) (by decide : (97 : Int) ≤ (97 : Int32).toInt ∧ (97 : Int32).toInt ≤ 97) n_c_847 (by decide)
        refine lv_aload_n hx hb dX1_advance_158 rfl (lv_at hl 1 rfl) ?_
        refine lv_aload_n hx hb dX1_advance_159 rfl (lv_at hl 2 rfl) ?_
        refine va_get (D := (dC, dI)) (ci := 0) (v := .int y_670) (C := RX1) (T := TX1) (N := 9) hx hb hts iX1_advance0_X1 hown hK hP 0 rfl rfl 5 (by decide) (hts (.fieldLink RX1 178 "LuckyTicket$Reader" "start" "I") (List.mem_of_getElem? (i := 3) rfl)) (fun _ h9 => h9) rfl dX1_advance_160 ?_
        refine va_bald hx hb hK hP 2 0 rfl rfl (vp_in_b b_y_670 (by decide) (by decide)) dX1_advance_163 ?_
        refine lv_topi (fun z_848 e_z_848 => ?_)
        refine lv_bipush (v := 48) hx hb dX1_advance_164 (by decide) ?_
        refine lv_icmp_lt (tgt := 266) hx hb dX1_advance_166 (by decide) (fun c_849 => ?_) (fun c_849 => ?_)
        ·
          have n_c_849 : (z_848.toInt : Int) < 48 := c_lt rfl (by decide) c_849
          have b_z_848 : (-2147483648 : Int) ≤ z_848.toInt ∧ z_848.toInt ≤ 47 := r_lt1 (ti_rng z_848) (by decide : (48 : Int) ≤ (48 : Int32).toInt ∧ (48 : Int32).toInt ≤ 48) n_c_849 (by decide)
          refine lv_aload_n hx hb dX1_advance_266 rfl (lv_at hl 2 rfl) ?_
          refine lv_aload_n hx hb dX1_advance_267 rfl (lv_at hl 1 rfl) ?_
          refine lv_aload_n hx hb dX1_advance_268 rfl (lv_at hl 2 rfl) ?_
          refine va_get (D := (dC, dI)) (ci := 0) (v := .int y_670) (C := RX1) (T := TX1) (N := 9) hx hb hts iX1_advance0_X1 hown hK hP 0 rfl rfl 5 (by decide) (hts (.fieldLink RX1 178 "LuckyTicket$Reader" "start" "I") (List.mem_of_getElem? (i := 3) rfl)) (fun _ h9 => h9) rfl dX1_advance_269 ?_
          refine va_bald hx hb hK hP 2 0 rfl rfl (vp_in_b b_y_670 (by decide) (by decide)) dX1_advance_272 ?_
          refine lv_topi (fun z_850 e_z_850 => ?_)
          refine va_put (D := (dC, dI)) (ci := 0) (v := .int z_850) (ty := .int) (C := RX1) (T := TX1) (N := 9) hx hb hts iX1_advance0_X1 tyX1 tyX1_ok nmX1 hown hK hP hD hS 0 rfl rfl 7 (by decide) (hts (.fieldLink RX1 172 "LuckyTicket$Reader" "value" "I") (List.mem_of_getElem? (i := 4) rfl)) (fun _ h9 => h9) rfl (by decide +kernel) rfl rfl (Nat.le_of_ble_eq_true rfl) dX1_advance_273 (fun H locs hP hD hS => ?_)
          have hP : va_P (dC, dI) vwCl [(rd, .inr (0, [.ref tp, .ref sc, .int xf, .int xp, .int xt, .int y_670, .int y_670, .int z_850, .int xj])), (tp, .inr (6, [.ref tb, .int ts])), (tb, .inl (cB, 1200, .inl fb))] H := hP
          have hD : va_D A [(rd, .inr (0, [.ref tp, .ref sc, .int xf, .int xp, .int xt, .int y_670, .int y_670, .int z_850, .int xj])), (tp, .inr (6, [.ref tb, .int ts])), (tb, .inl (cB, 1200, .inl fb))] := hD
          refine lv_aload_n hx hb dX1_advance_276 rfl (lv_at hl 2 rfl) ?_
          refine lv_aload_n hx hb dX1_advance_277 rfl (lv_at hl 2 rfl) ?_
          refine va_get (D := (dC, dI)) (ci := 0) (v := .int z_850) (C := RX1) (T := TX1) (N := 9) hx hb hts iX1_advance0_X1 hown hK hP 0 rfl rfl 7 (by decide) (hts (.fieldLink RX1 172 "LuckyTicket$Reader" "value" "I") (List.mem_of_getElem? (i := 4) rfl)) (fun _ h9 => h9) rfl dX1_advance_278 ?_
          refine lv_bipush (v := 59) hx hb dX1_advance_281 (by decide) ?_
          refine cutW (σ := Int32) (pc2 := 309) (st2 := fun v => [.int v, .ref rd]) (cells2 := 0) (slots2 := 0) (fun v H locs ls => ((3 : Int) ≤ v.toInt ∧ v.toInt ≤ 4) ∧ va_P (dC, dI) vwCl [(rd, .inr (0, [.ref tp, .ref sc, .int xf, .int xp, .int xt, .int y_670, .int y_670, .int z_850, .int xj])), (tp, .inr (6, [.ref tb, .int ts])), (tb, .inl (cB, 1200, .inl fb))] H ∧ va_D A [(rd, .inr (0, [.ref tp, .ref sc, .int xf, .int xp, .int xt, .int y_670, .int y_670, .int z_850, .int xj])), (tp, .inr (6, [.ref tb, .int ts])), (tb, .inl (cB, 1200, .inl fb))] ∧ va_S A s.heap H locs ∧ lv_has ls 3 [(2, .int ts), (1, .ref tb), (0, .ref rd)]) (fun v H locs ls hI => ?_) (fun hj_309_854 => ?_)
          ·
            obtain ⟨y_854, rfl⟩ : ∃ z, z = v := ⟨_, rfl⟩
            obtain ⟨b_y_854, hP, hD, hS, hl⟩ := hI
            have b_y_854 : (3 : Int) ≤ y_854.toInt ∧ y_854.toInt ≤ 4 := b_y_854
            have hP : va_P (dC, dI) vwCl [(rd, .inr (0, [.ref tp, .ref sc, .int xf, .int xp, .int xt, .int y_670, .int y_670, .int z_850, .int xj])), (tp, .inr (6, [.ref tb, .int ts])), (tb, .inl (cB, 1200, .inl fb))] H := hP
            have hD : va_D A [(rd, .inr (0, [.ref tp, .ref sc, .int xf, .int xp, .int xt, .int y_670, .int y_670, .int z_850, .int xj])), (tp, .inr (6, [.ref tb, .int ts])), (tb, .inl (cB, 1200, .inl fb))] := hD
            have hl : lv_has ls 3 [(2, .int ts), (1, .ref tb), (0, .ref rd)] := hl
            refine va_put (D := (dC, dI)) (ci := 0) (v := .int y_854) (ty := .int) (C := RX1) (T := TX1) (N := 9) hx hb hts iX1_advance0_X1 tyX1 tyX1_ok nmX1 hown hK hP hD hS 0 rfl rfl 4 (by decide) (hts (.fieldLink RX1 39 "LuckyTicket$Reader" "token" "I") (List.mem_of_getElem? (i := 5) rfl)) (fun _ h9 => h9) rfl (by decide +kernel) rfl rfl (Nat.le_of_ble_eq_true rfl) dX1_advance_309 (fun H locs hP hD hS => ?_)
            have hP : va_P (dC, dI) vwCl [(rd, .inr (0, [.ref tp, .ref sc, .int xf, .int xp, .int y_854, .int y_670, .int y_670, .int z_850, .int xj])), (tp, .inr (6, [.ref tb, .int ts])), (tb, .inl (cB, 1200, .inl fb))] H := hP
            have hD : va_D A [(rd, .inr (0, [.ref tp, .ref sc, .int xf, .int xp, .int y_854, .int y_670, .int y_670, .int z_850, .int xj])), (tp, .inr (6, [.ref tb, .int ts])), (tb, .inl (cB, 1200, .inl fb))] := hD
            refine lv_aload_n hx hb dX1_advance_312 rfl (lv_at hl 2 rfl) ?_
            refine lv_dup hx hb dX1_advance_313 rfl ?_
            refine va_get (D := (dC, dI)) (ci := 0) (v := .int y_670) (C := RX1) (T := TX1) (N := 9) hx hb hts iX1_advance0_X1 hown hK hP 0 rfl rfl 6 (by decide) (hts (.fieldLink RX1 26 "LuckyTicket$Reader" "stop" "I") (List.mem_of_getElem? (i := 2) rfl)) (fun _ h9 => h9) rfl dX1_advance_314 ?_
            refine lv_iconst (v := 1) hx hb dX1_advance_317 (by decide) ?_
            refine lv_iadd hx hb dX1_advance_318 ?_
            refine lv_topi (fun z_855 e_z_855 => ?_)
            obtain ⟨q_z_855, b_z_855⟩ := ti_add (lo := 1) (hi := 1200) e_z_855 rfl (by decide : (1 : Int32).toInt = 1) b_y_670 (by decide : (1 : Int) ≤ (1 : Int32).toInt ∧ (1 : Int32).toInt ≤ 1) (by decide)
            refine va_put (D := (dC, dI)) (ci := 0) (v := .int z_855) (ty := .int) (C := RX1) (T := TX1) (N := 9) hx hb hts iX1_advance0_X1 tyX1 tyX1_ok nmX1 hown hK hP hD hS 0 rfl rfl 6 (by decide) (hts (.fieldLink RX1 26 "LuckyTicket$Reader" "stop" "I") (List.mem_of_getElem? (i := 2) rfl)) (fun _ h9 => h9) rfl (by decide +kernel) rfl rfl (Nat.le_of_ble_eq_true rfl) dX1_advance_319 (fun H locs hP hD hS => ?_)
            have hP : va_P (dC, dI) vwCl [(rd, .inr (0, [.ref tp, .ref sc, .int xf, .int xp, .int y_854, .int y_670, .int z_855, .int z_850, .int xj])), (tp, .inr (6, [.ref tb, .int ts])), (tb, .inl (cB, 1200, .inl fb))] H := hP
            have hD : va_D A [(rd, .inr (0, [.ref tp, .ref sc, .int xf, .int xp, .int y_854, .int y_670, .int z_855, .int z_850, .int xj])), (tp, .inr (6, [.ref tb, .int ts])), (tb, .inl (cB, 1200, .inl fb))] := hD
            have hP9 := hP.sub (ws' := [(rd, .inr (0, [.ref tp, .ref sc, .int xf, .int xp, .int y_854, .int y_670, .int z_855, .int z_850, .int xj])), (tp, .inr (6, [.ref tb, .int ts])), (tb, .inl (cB, 1200, .inl fb))]) [0, 1, 2] rfl
            have hD9 := hD.sub (ws' := [(rd, .inr (0, [.ref tp, .ref sc, .int xf, .int xp, .int y_854, .int y_670, .int z_855, .int z_850, .int xj])), (tp, .inr (6, [.ref tb, .int ts])), (tb, .inl (cB, 1200, .inl fb))]) [0, 1, 2] (by decide) rfl
            have hK9 := hK.sub (tys' := [(cB, .byte)]) [0] rfl
            exact W.vret hx hb hr (fun t ht hW => ⟨⟨(), rfl, trivial, y_854, y_670, z_855, z_850, (rg_w b_y_854 (by decide) (by decide)), (rg_w b_y_670 (by decide) (by decide)), (rg_w b_z_855 (by decide) (by decide)), (by omega), by rw [ht]; exact hP9, va_K.moved hW.alike hK9, hD9⟩, hS.F ht⟩) hS.2.2 dX1_advance_322
          ·
            refine lv_icmp_eq (tgt := 304) hx hb dX1_advance_283 (by decide) (fun c_851 => ?_) (fun c_851 => ?_)
            ·
              have n_c_851 : (z_850.toInt : Int) = 59 := c_eq rfl (by decide) c_851
              have b_z_850 : (59 : Int) ≤ z_850.toInt ∧ z_850.toInt ≤ 59 := r_eq1 (ti_rng z_850) (by decide : (59 : Int) ≤ (59 : Int32).toInt ∧ (59 : Int32).toInt ≤ 59) n_c_851 (by decide)
              refine lv_iconst (v := 3) hx hb dX1_advance_304 (by decide) ?_
              refine lv_goto (tgt := 309) hx hb dX1_advance_305 (by decide) ?_
              exact hj_309_854 (3 : Int32) _ _ _ ⟨(show (3 : Int) ≤ (3 : Int32).toInt ∧ (3 : Int32).toInt ≤ 4 from (rg_w (by decide : (3 : Int) ≤ (3 : Int32).toInt ∧ (3 : Int32).toInt ≤ 3) (by decide) (by decide))), hP, hD, hS, lv_sub hl [0, 1, 2] rfl⟩
            ·
              have n_c_851 : (z_850.toInt : Int) ≠ 59 := c_ne rfl (by decide) c_851
              refine lv_aload_n hx hb dX1_advance_286 rfl (lv_at hl 2 rfl) ?_
              refine va_get (D := (dC, dI)) (ci := 0) (v := .int z_850) (C := RX1) (T := TX1) (N := 9) hx hb hts iX1_advance0_X1 hown hK hP 0 rfl rfl 7 (by decide) (hts (.fieldLink RX1 172 "LuckyTicket$Reader" "value" "I") (List.mem_of_getElem? (i := 4) rfl)) (fun _ h9 => h9) rfl dX1_advance_287 ?_
              refine lv_bipush (v := 40) hx hb dX1_advance_290 (by decide) ?_
              refine lv_icmp_eq (tgt := 304) hx hb dX1_advance_292 (by decide) (fun c_856 => ?_) (fun c_856 => ?_)
              ·
                have n_c_856 : (z_850.toInt : Int) = 40 := c_eq rfl (by decide) c_856
                have b_z_850 : (40 : Int) ≤ z_850.toInt ∧ z_850.toInt ≤ 40 := r_eq1 (ti_rng z_850) (by decide : (40 : Int) ≤ (40 : Int32).toInt ∧ (40 : Int32).toInt ≤ 40) n_c_856 (by decide)
                refine lv_iconst (v := 3) hx hb dX1_advance_304 (by decide) ?_
                refine lv_goto (tgt := 309) hx hb dX1_advance_305 (by decide) ?_
                exact hj_309_854 (3 : Int32) _ _ _ ⟨(show (3 : Int) ≤ (3 : Int32).toInt ∧ (3 : Int32).toInt ≤ 4 from (rg_w (by decide : (3 : Int) ≤ (3 : Int32).toInt ∧ (3 : Int32).toInt ≤ 3) (by decide) (by decide))), hP, hD, hS, lv_sub hl [0, 1, 2] rfl⟩
              ·
                have n_c_856 : (z_850.toInt : Int) ≠ 40 := c_ne rfl (by decide) c_856
                refine lv_aload_n hx hb dX1_advance_295 rfl (lv_at hl 2 rfl) ?_
                refine va_get (D := (dC, dI)) (ci := 0) (v := .int z_850) (C := RX1) (T := TX1) (N := 9) hx hb hts iX1_advance0_X1 hown hK hP 0 rfl rfl 7 (by decide) (hts (.fieldLink RX1 172 "LuckyTicket$Reader" "value" "I") (List.mem_of_getElem? (i := 4) rfl)) (fun _ h9 => h9) rfl dX1_advance_296 ?_
                refine lv_bipush (v := 41) hx hb dX1_advance_299 (by decide) ?_
                refine lv_icmp_ne (tgt := 308) hx hb dX1_advance_301 (by decide) (fun c_857 => ?_) (fun c_857 => ?_)
                ·
                  have n_c_857 : (z_850.toInt : Int) ≠ 41 := c_ne rfl (by decide) c_857
                  refine lv_iconst (v := 4) hx hb dX1_advance_308 (by decide) ?_
                  exact hj_309_854 (4 : Int32) _ _ _ ⟨(show (3 : Int) ≤ (4 : Int32).toInt ∧ (4 : Int32).toInt ≤ 4 from (rg_w (by decide : (4 : Int) ≤ (4 : Int32).toInt ∧ (4 : Int32).toInt ≤ 4) (by decide) (by decide))), hP, hD, hS, lv_sub hl [0, 1, 2] rfl⟩
                ·
                  have n_c_857 : (z_850.toInt : Int) = 41 := c_eq rfl (by decide) c_857
                  have b_z_850 : (41 : Int) ≤ z_850.toInt ∧ z_850.toInt ≤ 41 := r_eq1 (ti_rng z_850) (by decide : (41 : Int) ≤ (41 : Int32).toInt ∧ (41 : Int32).toInt ≤ 41) n_c_857 (by decide)
                  refine lv_iconst (v := 3) hx hb dX1_advance_304 (by decide) ?_
                  refine lv_goto (tgt := 309) hx hb dX1_advance_305 (by decide) ?_
                  exact hj_309_854 (3 : Int32) _ _ _ ⟨(show (3 : Int) ≤ (3 : Int32).toInt ∧ (3 : Int32).toInt ≤ 4 from (rg_w (by decide : (3 : Int) ≤ (3 : Int32).toInt ∧ (3 : Int32).toInt ≤ 3) (by decide) (by decide))), hP, hD, hS, lv_sub hl [0, 1, 2] rfl⟩
        ·
          have n_c_849 : (48 : Int) ≤ z_848.toInt := c_nlt rfl (by decide) c_849
          have b_z_848 : (48 : Int) ≤ z_848.toInt ∧ z_848.toInt ≤ 2147483647 := r_le2 (by decide : (48 : Int) ≤ (48 : Int32).toInt ∧ (48 : Int32).toInt ≤ 48) (ti_rng z_848) n_c_849 (by decide)
          refine lv_aload_n hx hb dX1_advance_169 rfl (lv_at hl 1 rfl) ?_
          refine lv_aload_n hx hb dX1_advance_170 rfl (lv_at hl 2 rfl) ?_
          refine va_get (D := (dC, dI)) (ci := 0) (v := .int y_670) (C := RX1) (T := TX1) (N := 9) hx hb hts iX1_advance0_X1 hown hK hP 0 rfl rfl 5 (by decide) (hts (.fieldLink RX1 178 "LuckyTicket$Reader" "start" "I") (List.mem_of_getElem? (i := 3) rfl)) (fun _ h9 => h9) rfl dX1_advance_171 ?_
          refine va_bald hx hb hK hP 2 0 rfl rfl (vp_in_b b_y_670 (by decide) (by decide)) dX1_advance_174 ?_
          refine lv_topi (fun z_858 e_z_858 => ?_)
          refine lv_bipush (v := 57) hx hb dX1_advance_175 (by decide) ?_
          refine lv_icmp_gt (tgt := 266) hx hb dX1_advance_177 (by decide) (fun c_859 => ?_) (fun c_859 => ?_)
          ·
            have n_c_859 : (57 : Int) < z_858.toInt := c_gt rfl (by decide) c_859
            have b_z_858 : (58 : Int) ≤ z_858.toInt ∧ z_858.toInt ≤ 2147483647 := r_lt2 (by decide : (57 : Int) ≤ (57 : Int32).toInt ∧ (57 : Int32).toInt ≤ 57) (ti_rng z_858) n_c_859 (by decide)
            refine lv_aload_n hx hb dX1_advance_266 rfl (lv_at hl 2 rfl) ?_
            refine lv_aload_n hx hb dX1_advance_267 rfl (lv_at hl 1 rfl) ?_
            refine lv_aload_n hx hb dX1_advance_268 rfl (lv_at hl 2 rfl) ?_
            refine va_get (D := (dC, dI)) (ci := 0) (v := .int y_670) (C := RX1) (T := TX1) (N := 9) hx hb hts iX1_advance0_X1 hown hK hP 0 rfl rfl 5 (by decide) (hts (.fieldLink RX1 178 "LuckyTicket$Reader" "start" "I") (List.mem_of_getElem? (i := 3) rfl)) (fun _ h9 => h9) rfl dX1_advance_269 ?_
            refine va_bald hx hb hK hP 2 0 rfl rfl (vp_in_b b_y_670 (by decide) (by decide)) dX1_advance_272 ?_
            refine lv_topi (fun z_860 e_z_860 => ?_)
            refine va_put (D := (dC, dI)) (ci := 0) (v := .int z_860) (ty := .int) (C := RX1) (T := TX1) (N := 9) hx hb hts iX1_advance0_X1 tyX1 tyX1_ok nmX1 hown hK hP hD hS 0 rfl rfl 7 (by decide) (hts (.fieldLink RX1 172 "LuckyTicket$Reader" "value" "I") (List.mem_of_getElem? (i := 4) rfl)) (fun _ h9 => h9) rfl (by decide +kernel) rfl rfl (Nat.le_of_ble_eq_true rfl) dX1_advance_273 (fun H locs hP hD hS => ?_)
            have hP : va_P (dC, dI) vwCl [(rd, .inr (0, [.ref tp, .ref sc, .int xf, .int xp, .int xt, .int y_670, .int y_670, .int z_860, .int xj])), (tp, .inr (6, [.ref tb, .int ts])), (tb, .inl (cB, 1200, .inl fb))] H := hP
            have hD : va_D A [(rd, .inr (0, [.ref tp, .ref sc, .int xf, .int xp, .int xt, .int y_670, .int y_670, .int z_860, .int xj])), (tp, .inr (6, [.ref tb, .int ts])), (tb, .inl (cB, 1200, .inl fb))] := hD
            refine lv_aload_n hx hb dX1_advance_276 rfl (lv_at hl 2 rfl) ?_
            refine lv_aload_n hx hb dX1_advance_277 rfl (lv_at hl 2 rfl) ?_
            refine va_get (D := (dC, dI)) (ci := 0) (v := .int z_860) (C := RX1) (T := TX1) (N := 9) hx hb hts iX1_advance0_X1 hown hK hP 0 rfl rfl 7 (by decide) (hts (.fieldLink RX1 172 "LuckyTicket$Reader" "value" "I") (List.mem_of_getElem? (i := 4) rfl)) (fun _ h9 => h9) rfl dX1_advance_278 ?_
            refine lv_bipush (v := 59) hx hb dX1_advance_281 (by decide) ?_
            refine cutW (σ := Int32) (pc2 := 309) (st2 := fun v => [.int v, .ref rd]) (cells2 := 0) (slots2 := 0) (fun v H locs ls => ((3 : Int) ≤ v.toInt ∧ v.toInt ≤ 4) ∧ va_P (dC, dI) vwCl [(rd, .inr (0, [.ref tp, .ref sc, .int xf, .int xp, .int xt, .int y_670, .int y_670, .int z_860, .int xj])), (tp, .inr (6, [.ref tb, .int ts])), (tb, .inl (cB, 1200, .inl fb))] H ∧ va_D A [(rd, .inr (0, [.ref tp, .ref sc, .int xf, .int xp, .int xt, .int y_670, .int y_670, .int z_860, .int xj])), (tp, .inr (6, [.ref tb, .int ts])), (tb, .inl (cB, 1200, .inl fb))] ∧ va_S A s.heap H locs ∧ lv_has ls 3 [(2, .int ts), (1, .ref tb), (0, .ref rd)]) (fun v H locs ls hI => ?_) (fun hj_309_864 => ?_)
            ·
              obtain ⟨y_864, rfl⟩ : ∃ z, z = v := ⟨_, rfl⟩
              obtain ⟨b_y_864, hP, hD, hS, hl⟩ := hI
              have b_y_864 : (3 : Int) ≤ y_864.toInt ∧ y_864.toInt ≤ 4 := b_y_864
              have hP : va_P (dC, dI) vwCl [(rd, .inr (0, [.ref tp, .ref sc, .int xf, .int xp, .int xt, .int y_670, .int y_670, .int z_860, .int xj])), (tp, .inr (6, [.ref tb, .int ts])), (tb, .inl (cB, 1200, .inl fb))] H := hP
              have hD : va_D A [(rd, .inr (0, [.ref tp, .ref sc, .int xf, .int xp, .int xt, .int y_670, .int y_670, .int z_860, .int xj])), (tp, .inr (6, [.ref tb, .int ts])), (tb, .inl (cB, 1200, .inl fb))] := hD
              have hl : lv_has ls 3 [(2, .int ts), (1, .ref tb), (0, .ref rd)] := hl
              refine va_put (D := (dC, dI)) (ci := 0) (v := .int y_864) (ty := .int) (C := RX1) (T := TX1) (N := 9) hx hb hts iX1_advance0_X1 tyX1 tyX1_ok nmX1 hown hK hP hD hS 0 rfl rfl 4 (by decide) (hts (.fieldLink RX1 39 "LuckyTicket$Reader" "token" "I") (List.mem_of_getElem? (i := 5) rfl)) (fun _ h9 => h9) rfl (by decide +kernel) rfl rfl (Nat.le_of_ble_eq_true rfl) dX1_advance_309 (fun H locs hP hD hS => ?_)
              have hP : va_P (dC, dI) vwCl [(rd, .inr (0, [.ref tp, .ref sc, .int xf, .int xp, .int y_864, .int y_670, .int y_670, .int z_860, .int xj])), (tp, .inr (6, [.ref tb, .int ts])), (tb, .inl (cB, 1200, .inl fb))] H := hP
              have hD : va_D A [(rd, .inr (0, [.ref tp, .ref sc, .int xf, .int xp, .int y_864, .int y_670, .int y_670, .int z_860, .int xj])), (tp, .inr (6, [.ref tb, .int ts])), (tb, .inl (cB, 1200, .inl fb))] := hD
              refine lv_aload_n hx hb dX1_advance_312 rfl (lv_at hl 2 rfl) ?_
              refine lv_dup hx hb dX1_advance_313 rfl ?_
              refine va_get (D := (dC, dI)) (ci := 0) (v := .int y_670) (C := RX1) (T := TX1) (N := 9) hx hb hts iX1_advance0_X1 hown hK hP 0 rfl rfl 6 (by decide) (hts (.fieldLink RX1 26 "LuckyTicket$Reader" "stop" "I") (List.mem_of_getElem? (i := 2) rfl)) (fun _ h9 => h9) rfl dX1_advance_314 ?_
              refine lv_iconst (v := 1) hx hb dX1_advance_317 (by decide) ?_
              refine lv_iadd hx hb dX1_advance_318 ?_
              refine lv_topi (fun z_865 e_z_865 => ?_)
              obtain ⟨q_z_865, b_z_865⟩ := ti_add (lo := 1) (hi := 1200) e_z_865 rfl (by decide : (1 : Int32).toInt = 1) b_y_670 (by decide : (1 : Int) ≤ (1 : Int32).toInt ∧ (1 : Int32).toInt ≤ 1) (by decide)
              refine va_put (D := (dC, dI)) (ci := 0) (v := .int z_865) (ty := .int) (C := RX1) (T := TX1) (N := 9) hx hb hts iX1_advance0_X1 tyX1 tyX1_ok nmX1 hown hK hP hD hS 0 rfl rfl 6 (by decide) (hts (.fieldLink RX1 26 "LuckyTicket$Reader" "stop" "I") (List.mem_of_getElem? (i := 2) rfl)) (fun _ h9 => h9) rfl (by decide +kernel) rfl rfl (Nat.le_of_ble_eq_true rfl) dX1_advance_319 (fun H locs hP hD hS => ?_)
              have hP : va_P (dC, dI) vwCl [(rd, .inr (0, [.ref tp, .ref sc, .int xf, .int xp, .int y_864, .int y_670, .int z_865, .int z_860, .int xj])), (tp, .inr (6, [.ref tb, .int ts])), (tb, .inl (cB, 1200, .inl fb))] H := hP
              have hD : va_D A [(rd, .inr (0, [.ref tp, .ref sc, .int xf, .int xp, .int y_864, .int y_670, .int z_865, .int z_860, .int xj])), (tp, .inr (6, [.ref tb, .int ts])), (tb, .inl (cB, 1200, .inl fb))] := hD
              have hP9 := hP.sub (ws' := [(rd, .inr (0, [.ref tp, .ref sc, .int xf, .int xp, .int y_864, .int y_670, .int z_865, .int z_860, .int xj])), (tp, .inr (6, [.ref tb, .int ts])), (tb, .inl (cB, 1200, .inl fb))]) [0, 1, 2] rfl
              have hD9 := hD.sub (ws' := [(rd, .inr (0, [.ref tp, .ref sc, .int xf, .int xp, .int y_864, .int y_670, .int z_865, .int z_860, .int xj])), (tp, .inr (6, [.ref tb, .int ts])), (tb, .inl (cB, 1200, .inl fb))]) [0, 1, 2] (by decide) rfl
              have hK9 := hK.sub (tys' := [(cB, .byte)]) [0] rfl
              exact W.vret hx hb hr (fun t ht hW => ⟨⟨(), rfl, trivial, y_864, y_670, z_865, z_860, (rg_w b_y_864 (by decide) (by decide)), (rg_w b_y_670 (by decide) (by decide)), (rg_w b_z_865 (by decide) (by decide)), (by omega), by rw [ht]; exact hP9, va_K.moved hW.alike hK9, hD9⟩, hS.F ht⟩) hS.2.2 dX1_advance_322
            ·
              refine lv_icmp_eq (tgt := 304) hx hb dX1_advance_283 (by decide) (fun c_861 => ?_) (fun c_861 => ?_)
              ·
                have n_c_861 : (z_860.toInt : Int) = 59 := c_eq rfl (by decide) c_861
                have b_z_860 : (59 : Int) ≤ z_860.toInt ∧ z_860.toInt ≤ 59 := r_eq1 (ti_rng z_860) (by decide : (59 : Int) ≤ (59 : Int32).toInt ∧ (59 : Int32).toInt ≤ 59) n_c_861 (by decide)
                refine lv_iconst (v := 3) hx hb dX1_advance_304 (by decide) ?_
                refine lv_goto (tgt := 309) hx hb dX1_advance_305 (by decide) ?_
                exact hj_309_864 (3 : Int32) _ _ _ ⟨(show (3 : Int) ≤ (3 : Int32).toInt ∧ (3 : Int32).toInt ≤ 4 from (rg_w (by decide : (3 : Int) ≤ (3 : Int32).toInt ∧ (3 : Int32).toInt ≤ 3) (by decide) (by decide))), hP, hD, hS, lv_sub hl [0, 1, 2] rfl⟩
              ·
                have n_c_861 : (z_860.toInt : Int) ≠ 59 := c_ne rfl (by decide) c_861
                refine lv_aload_n hx hb dX1_advance_286 rfl (lv_at hl 2 rfl) ?_
                refine va_get (D := (dC, dI)) (ci := 0) (v := .int z_860) (C := RX1) (T := TX1) (N := 9) hx hb hts iX1_advance0_X1 hown hK hP 0 rfl rfl 7 (by decide) (hts (.fieldLink RX1 172 "LuckyTicket$Reader" "value" "I") (List.mem_of_getElem? (i := 4) rfl)) (fun _ h9 => h9) rfl dX1_advance_287 ?_
                refine lv_bipush (v := 40) hx hb dX1_advance_290 (by decide) ?_
                refine lv_icmp_eq (tgt := 304) hx hb dX1_advance_292 (by decide) (fun c_866 => ?_) (fun c_866 => ?_)
                ·
                  have n_c_866 : (z_860.toInt : Int) = 40 := c_eq rfl (by decide) c_866
                  have b_z_860 : (40 : Int) ≤ z_860.toInt ∧ z_860.toInt ≤ 40 := r_eq1 (ti_rng z_860) (by decide : (40 : Int) ≤ (40 : Int32).toInt ∧ (40 : Int32).toInt ≤ 40) n_c_866 (by decide)
                  refine lv_iconst (v := 3) hx hb dX1_advance_304 (by decide) ?_
                  refine lv_goto (tgt := 309) hx hb dX1_advance_305 (by decide) ?_
                  exact hj_309_864 (3 : Int32) _ _ _ ⟨(show (3 : Int) ≤ (3 : Int32).toInt ∧ (3 : Int32).toInt ≤ 4 from (rg_w (by decide : (3 : Int) ≤ (3 : Int32).toInt ∧ (3 : Int32).toInt ≤ 3) (by decide) (by decide))), hP, hD, hS, lv_sub hl [0, 1, 2] rfl⟩
                ·
                  have n_c_866 : (z_860.toInt : Int) ≠ 40 := c_ne rfl (by decide) c_866
                  refine lv_aload_n hx hb dX1_advance_295 rfl (lv_at hl 2 rfl) ?_
                  refine va_get (D := (dC, dI)) (ci := 0) (v := .int z_860) (C := RX1) (T := TX1) (N := 9) hx hb hts iX1_advance0_X1 hown hK hP 0 rfl rfl 7 (by decide) (hts (.fieldLink RX1 172 "LuckyTicket$Reader" "value" "I") (List.mem_of_getElem? (i := 4) rfl)) (fun _ h9 => h9) rfl dX1_advance_296 ?_
                  refine lv_bipush (v := 41) hx hb dX1_advance_299 (by decide) ?_
                  refine lv_icmp_ne (tgt := 308) hx hb dX1_advance_301 (by decide) (fun c_867 => ?_) (fun c_867 => ?_)
                  ·
                    have n_c_867 : (z_860.toInt : Int) ≠ 41 := c_ne rfl (by decide) c_867
                    refine lv_iconst (v := 4) hx hb dX1_advance_308 (by decide) ?_
                    exact hj_309_864 (4 : Int32) _ _ _ ⟨(show (3 : Int) ≤ (4 : Int32).toInt ∧ (4 : Int32).toInt ≤ 4 from (rg_w (by decide : (4 : Int) ≤ (4 : Int32).toInt ∧ (4 : Int32).toInt ≤ 4) (by decide) (by decide))), hP, hD, hS, lv_sub hl [0, 1, 2] rfl⟩
                  ·
                    have n_c_867 : (z_860.toInt : Int) = 41 := c_eq rfl (by decide) c_867
                    have b_z_860 : (41 : Int) ≤ z_860.toInt ∧ z_860.toInt ≤ 41 := r_eq1 (ti_rng z_860) (by decide : (41 : Int) ≤ (41 : Int32).toInt ∧ (41 : Int32).toInt ≤ 41) n_c_867 (by decide)
                    refine lv_iconst (v := 3) hx hb dX1_advance_304 (by decide) ?_
                    refine lv_goto (tgt := 309) hx hb dX1_advance_305 (by decide) ?_
                    exact hj_309_864 (3 : Int32) _ _ _ ⟨(show (3 : Int) ≤ (3 : Int32).toInt ∧ (3 : Int32).toInt ≤ 4 from (rg_w (by decide : (3 : Int) ≤ (3 : Int32).toInt ∧ (3 : Int32).toInt ≤ 3) (by decide) (by decide))), hP, hD, hS, lv_sub hl [0, 1, 2] rfl⟩
          ·
            have n_c_859 : (z_858.toInt : Int) ≤ 57 := c_ngt rfl (by decide) c_859
            have b_z_858 : (-2147483648 : Int) ≤ z_858.toInt ∧ z_858.toInt ≤ 57 := r_le1 (ti_rng z_858) (by decide : (57 : Int) ≤ (57 : Int32).toInt ∧ (57 : Int32).toInt ≤ 57) n_c_859 (by decide)
            refine lv_aload_n hx hb dX1_advance_180 rfl (lv_at hl 2 rfl) ?_
            refine lv_iconst (v := 2) hx hb dX1_advance_181 (by decide) ?_
            refine va_put (D := (dC, dI)) (ci := 0) (v := .int 2) (ty := .int) (C := RX1) (T := TX1) (N := 9) hx hb hts iX1_advance0_X1 tyX1 tyX1_ok nmX1 hown hK hP hD hS 0 rfl rfl 4 (by decide) (hts (.fieldLink RX1 39 "LuckyTicket$Reader" "token" "I") (List.mem_of_getElem? (i := 5) rfl)) (fun _ h9 => h9) rfl (by decide +kernel) rfl rfl (Nat.le_of_ble_eq_true rfl) dX1_advance_182 (fun H locs hP hD hS => ?_)
            have hP : va_P (dC, dI) vwCl [(rd, .inr (0, [.ref tp, .ref sc, .int xf, .int xp, .int 2, .int y_670, .int y_670, .int 0, .int xj])), (tp, .inr (6, [.ref tb, .int ts])), (tb, .inl (cB, 1200, .inl fb))] H := hP
            have hD : va_D A [(rd, .inr (0, [.ref tp, .ref sc, .int xf, .int xp, .int 2, .int y_670, .int y_670, .int 0, .int xj])), (tp, .inr (6, [.ref tb, .int ts])), (tb, .inl (cB, 1200, .inl fb))] := hD
            refine loopW (σ := Int32 × Int32) (fun v => (1200 - v.1.toInt).toNat) (fun v H locs ls => ((0 : Int) ≤ v.1.toInt ∧ v.1.toInt ≤ 1200) ∧ (y_670.toInt ≤ v.1.toInt) ∧ va_P (dC, dI) vwCl [(rd, .inr (0, [.ref tp, .ref sc, .int xf, .int xp, .int 2, .int y_670, .int v.1, .int v.2, .int xj])), (tp, .inr (6, [.ref tb, .int ts])), (tb, .inl (cB, 1200, .inl fb))] H ∧ va_D A [(rd, .inr (0, [.ref tp, .ref sc, .int xf, .int xp, .int 2, .int y_670, .int v.1, .int v.2, .int xj])), (tp, .inr (6, [.ref tb, .int ts])), (tb, .inl (cB, 1200, .inl fb))] ∧ va_S A s.heap H locs ∧ lv_has ls 3 [(2, .int ts), (1, .ref tb), (0, .ref rd)]) (fun v H locs ls hI ih_185_896 => ?_) (y_670, (0 : Int32)) ⟨(show (0 : Int) ≤ y_670.toInt ∧ y_670.toInt ≤ 1200 from (rg_w b_y_670 (by decide) (by decide))), (show y_670.toInt ≤ y_670.toInt from (by have zl : (2 : Int32).toInt = 2 := (by decide); have zl : (0 : Int32).toInt = 0 := (by decide); omega)), hP, hD, hS, lv_sub hl [0, 1, 2] rfl⟩
            obtain ⟨y_879, y_880⟩ := v
            obtain ⟨b_y_879, hss, hP, hD, hS, hl⟩ := hI
            have b_y_879 : (0 : Int) ≤ y_879.toInt ∧ y_879.toInt ≤ 1200 := b_y_879
            have hss : y_670.toInt ≤ y_879.toInt := hss
            have hP : va_P (dC, dI) vwCl [(rd, .inr (0, [.ref tp, .ref sc, .int xf, .int xp, .int 2, .int y_670, .int y_879, .int y_880, .int xj])), (tp, .inr (6, [.ref tb, .int ts])), (tb, .inl (cB, 1200, .inl fb))] H := hP
            have hD : va_D A [(rd, .inr (0, [.ref tp, .ref sc, .int xf, .int xp, .int 2, .int y_670, .int y_879, .int y_880, .int xj])), (tp, .inr (6, [.ref tb, .int ts])), (tb, .inl (cB, 1200, .inl fb))] := hD
            have hl : lv_has ls 3 [(2, .int ts), (1, .ref tb), (0, .ref rd)] := hl
            refine lv_aload_n hx hb dX1_advance_185 rfl (lv_at hl 2 rfl) ?_
            refine va_get (D := (dC, dI)) (ci := 0) (v := .int y_879) (C := RX1) (T := TX1) (N := 9) hx hb hts iX1_advance0_X1 hown hK hP 0 rfl rfl 6 (by decide) (hts (.fieldLink RX1 26 "LuckyTicket$Reader" "stop" "I") (List.mem_of_getElem? (i := 2) rfl)) (fun _ h9 => h9) rfl dX1_advance_186 ?_
            refine lv_iload_n hx hb dX1_advance_189 rfl (lv_at hl 0 rfl) ?_
            refine lv_icmp_ge (tgt := 322) hx hb dX1_advance_190 (by decide) (fun c_897 => ?_) (fun c_897 => ?_)
            ·
              have n_c_897 : (ts.toInt : Int) ≤ y_879.toInt := c_ge rfl rfl c_897
              have b_y_879 : (1 : Int) ≤ y_879.toInt ∧ y_879.toInt ≤ 1200 := r_le2 b_ts b_y_879 n_c_897 (by decide)
              have hP9 := hP.sub (ws' := [(rd, .inr (0, [.ref tp, .ref sc, .int xf, .int xp, .int 2, .int y_670, .int y_879, .int y_880, .int xj])), (tp, .inr (6, [.ref tb, .int ts])), (tb, .inl (cB, 1200, .inl fb))]) [0, 1, 2] rfl
              have hD9 := hD.sub (ws' := [(rd, .inr (0, [.ref tp, .ref sc, .int xf, .int xp, .int 2, .int y_670, .int y_879, .int y_880, .int xj])), (tp, .inr (6, [.ref tb, .int ts])), (tb, .inl (cB, 1200, .inl fb))]) [0, 1, 2] (by decide) rfl
              have hK9 := hK.sub (tys' := [(cB, .byte)]) [0] rfl
              exact W.vret hx hb hr (fun t ht hW => ⟨⟨(), rfl, trivial, 2, y_670, y_879, y_880, (rg_w (by decide : (2 : Int) ≤ (2 : Int32).toInt ∧ (2 : Int32).toInt ≤ 2) (by decide) (by decide)), (rg_w b_y_670 (by decide) (by decide)), (rg_w b_y_879 (by decide) (by decide)), (by omega), by rw [ht]; exact hP9, va_K.moved hW.alike hK9, hD9⟩, hS.F ht⟩) hS.2.2 dX1_advance_322
            ·
              have n_c_897 : (y_879.toInt : Int) < ts.toInt := c_nge rfl rfl c_897
              have b_y_879 : (0 : Int) ≤ y_879.toInt ∧ y_879.toInt ≤ 1199 := r_lt1 b_y_879 b_ts n_c_897 (by decide)
              refine lv_aload_n hx hb dX1_advance_193 rfl (lv_at hl 1 rfl) ?_
              refine lv_aload_n hx hb dX1_advance_194 rfl (lv_at hl 2 rfl) ?_
              refine va_get (D := (dC, dI)) (ci := 0) (v := .int y_879) (C := RX1) (T := TX1) (N := 9) hx hb hts iX1_advance0_X1 hown hK hP 0 rfl rfl 6 (by decide) (hts (.fieldLink RX1 26 "LuckyTicket$Reader" "stop" "I") (List.mem_of_getElem? (i := 2) rfl)) (fun _ h9 => h9) rfl dX1_advance_195 ?_
              refine va_bald hx hb hK hP 2 0 rfl rfl (vp_in_b b_y_879 (by decide) (by decide)) dX1_advance_198 ?_
              refine lv_topi (fun z_898 e_z_898 => ?_)
              refine lv_bipush (v := 48) hx hb dX1_advance_199 (by decide) ?_
              refine lv_icmp_lt (tgt := 322) hx hb dX1_advance_201 (by decide) (fun c_899 => ?_) (fun c_899 => ?_)
              ·
                have n_c_899 : (z_898.toInt : Int) < 48 := c_lt rfl (by decide) c_899
                have b_z_898 : (-2147483648 : Int) ≤ z_898.toInt ∧ z_898.toInt ≤ 47 := r_lt1 (ti_rng z_898) (by decide : (48 : Int) ≤ (48 : Int32).toInt ∧ (48 : Int32).toInt ≤ 48) n_c_899 (by decide)
                have hP9 := hP.sub (ws' := [(rd, .inr (0, [.ref tp, .ref sc, .int xf, .int xp, .int 2, .int y_670, .int y_879, .int y_880, .int xj])), (tp, .inr (6, [.ref tb, .int ts])), (tb, .inl (cB, 1200, .inl fb))]) [0, 1, 2] rfl
                have hD9 := hD.sub (ws' := [(rd, .inr (0, [.ref tp, .ref sc, .int xf, .int xp, .int 2, .int y_670, .int y_879, .int y_880, .int xj])), (tp, .inr (6, [.ref tb, .int ts])), (tb, .inl (cB, 1200, .inl fb))]) [0, 1, 2] (by decide) rfl
                have hK9 := hK.sub (tys' := [(cB, .byte)]) [0] rfl
                exact W.vret hx hb hr (fun t ht hW => ⟨⟨(), rfl, trivial, 2, y_670, y_879, y_880, (rg_w (by decide : (2 : Int) ≤ (2 : Int32).toInt ∧ (2 : Int32).toInt ≤ 2) (by decide) (by decide)), (rg_w b_y_670 (by decide) (by decide)), (rg_w b_y_879 (by decide) (by decide)), (by omega), by rw [ht]; exact hP9, va_K.moved hW.alike hK9, hD9⟩, hS.F ht⟩) hS.2.2 dX1_advance_322
              ·
                have n_c_899 : (48 : Int) ≤ z_898.toInt := c_nlt rfl (by decide) c_899
                have b_z_898 : (48 : Int) ≤ z_898.toInt ∧ z_898.toInt ≤ 2147483647 := r_le2 (by decide : (48 : Int) ≤ (48 : Int32).toInt ∧ (48 : Int32).toInt ≤ 48) (ti_rng z_898) n_c_899 (by decide)
                refine lv_aload_n hx hb dX1_advance_204 rfl (lv_at hl 1 rfl) ?_
                refine lv_aload_n hx hb dX1_advance_205 rfl (lv_at hl 2 rfl) ?_
                refine va_get (D := (dC, dI)) (ci := 0) (v := .int y_879) (C := RX1) (T := TX1) (N := 9) hx hb hts iX1_advance0_X1 hown hK hP 0 rfl rfl 6 (by decide) (hts (.fieldLink RX1 26 "LuckyTicket$Reader" "stop" "I") (List.mem_of_getElem? (i := 2) rfl)) (fun _ h9 => h9) rfl dX1_advance_206 ?_
                refine va_bald hx hb hK hP 2 0 rfl rfl (vp_in_b b_y_879 (by decide) (by decide)) dX1_advance_209 ?_
                refine lv_topi (fun z_900 e_z_900 => ?_)
                refine lv_bipush (v := 57) hx hb dX1_advance_210 (by decide) ?_
                refine lv_icmp_gt (tgt := 322) hx hb dX1_advance_212 (by decide) (fun c_901 => ?_) (fun c_901 => ?_)
                ·
                  have n_c_901 : (57 : Int) < z_900.toInt := c_gt rfl (by decide) c_901
                  have b_z_900 : (58 : Int) ≤ z_900.toInt ∧ z_900.toInt ≤ 2147483647 := r_lt2 (by decide : (57 : Int) ≤ (57 : Int32).toInt ∧ (57 : Int32).toInt ≤ 57) (ti_rng z_900) n_c_901 (by decide)
                  have hP9 := hP.sub (ws' := [(rd, .inr (0, [.ref tp, .ref sc, .int xf, .int xp, .int 2, .int y_670, .int y_879, .int y_880, .int xj])), (tp, .inr (6, [.ref tb, .int ts])), (tb, .inl (cB, 1200, .inl fb))]) [0, 1, 2] rfl
                  have hD9 := hD.sub (ws' := [(rd, .inr (0, [.ref tp, .ref sc, .int xf, .int xp, .int 2, .int y_670, .int y_879, .int y_880, .int xj])), (tp, .inr (6, [.ref tb, .int ts])), (tb, .inl (cB, 1200, .inl fb))]) [0, 1, 2] (by decide) rfl
                  have hK9 := hK.sub (tys' := [(cB, .byte)]) [0] rfl
                  exact W.vret hx hb hr (fun t ht hW => ⟨⟨(), rfl, trivial, 2, y_670, y_879, y_880, (rg_w (by decide : (2 : Int) ≤ (2 : Int32).toInt ∧ (2 : Int32).toInt ≤ 2) (by decide) (by decide)), (rg_w b_y_670 (by decide) (by decide)), (rg_w b_y_879 (by decide) (by decide)), (by omega), by rw [ht]; exact hP9, va_K.moved hW.alike hK9, hD9⟩, hS.F ht⟩) hS.2.2 dX1_advance_322
                ·
                  have n_c_901 : (z_900.toInt : Int) ≤ 57 := c_ngt rfl (by decide) c_901
                  have b_z_900 : (-2147483648 : Int) ≤ z_900.toInt ∧ z_900.toInt ≤ 57 := r_le1 (ti_rng z_900) (by decide : (57 : Int) ≤ (57 : Int32).toInt ∧ (57 : Int32).toInt ≤ 57) n_c_901 (by decide)
                  refine lv_aload_n hx hb dX1_advance_215 rfl (lv_at hl 2 rfl) ?_
                  refine lv_aload_n hx hb dX1_advance_216 rfl (lv_at hl 2 rfl) ?_
                  refine va_get (D := (dC, dI)) (ci := 0) (v := .int y_880) (C := RX1) (T := TX1) (N := 9) hx hb hts iX1_advance0_X1 hown hK hP 0 rfl rfl 7 (by decide) (hts (.fieldLink RX1 172 "LuckyTicket$Reader" "value" "I") (List.mem_of_getElem? (i := 4) rfl)) (fun _ h9 => h9) rfl dX1_advance_217 ?_
                  refine lv_sipush (v := 1000) hx hb dX1_advance_220 (by decide) ?_
                  refine cutW (σ := Int32) (pc2 := 250) (st2 := fun v => [.int v, .ref rd]) (cells2 := 0) (slots2 := 0) (fun v H locs ls => va_P (dC, dI) vwCl [(rd, .inr (0, [.ref tp, .ref sc, .int xf, .int xp, .int 2, .int y_670, .int y_879, .int y_880, .int xj])), (tp, .inr (6, [.ref tb, .int ts])), (tb, .inl (cB, 1200, .inl fb))] H ∧ va_D A [(rd, .inr (0, [.ref tp, .ref sc, .int xf, .int xp, .int 2, .int y_670, .int y_879, .int y_880, .int xj])), (tp, .inr (6, [.ref tb, .int ts])), (tb, .inl (cB, 1200, .inl fb))] ∧ va_S A s.heap H locs ∧ lv_has ls 3 [(2, .int ts), (1, .ref tb), (0, .ref rd)]) (fun v H locs ls hI => ?_) (fun hj_250_907 => ?_)
                  ·
                    obtain ⟨y_907, rfl⟩ : ∃ z, z = v := ⟨_, rfl⟩
                    obtain ⟨hP, hD, hS, hl⟩ := hI
                    have hP : va_P (dC, dI) vwCl [(rd, .inr (0, [.ref tp, .ref sc, .int xf, .int xp, .int 2, .int y_670, .int y_879, .int y_880, .int xj])), (tp, .inr (6, [.ref tb, .int ts])), (tb, .inl (cB, 1200, .inl fb))] H := hP
                    have hD : va_D A [(rd, .inr (0, [.ref tp, .ref sc, .int xf, .int xp, .int 2, .int y_670, .int y_879, .int y_880, .int xj])), (tp, .inr (6, [.ref tb, .int ts])), (tb, .inl (cB, 1200, .inl fb))] := hD
                    have hl : lv_has ls 3 [(2, .int ts), (1, .ref tb), (0, .ref rd)] := hl
                    refine va_put (D := (dC, dI)) (ci := 0) (v := .int y_907) (ty := .int) (C := RX1) (T := TX1) (N := 9) hx hb hts iX1_advance0_X1 tyX1 tyX1_ok nmX1 hown hK hP hD hS 0 rfl rfl 7 (by decide) (hts (.fieldLink RX1 172 "LuckyTicket$Reader" "value" "I") (List.mem_of_getElem? (i := 4) rfl)) (fun _ h9 => h9) rfl (by decide +kernel) rfl rfl (Nat.le_of_ble_eq_true rfl) dX1_advance_250 (fun H locs hP hD hS => ?_)
                    have hP : va_P (dC, dI) vwCl [(rd, .inr (0, [.ref tp, .ref sc, .int xf, .int xp, .int 2, .int y_670, .int y_879, .int y_907, .int xj])), (tp, .inr (6, [.ref tb, .int ts])), (tb, .inl (cB, 1200, .inl fb))] H := hP
                    have hD : va_D A [(rd, .inr (0, [.ref tp, .ref sc, .int xf, .int xp, .int 2, .int y_670, .int y_879, .int y_907, .int xj])), (tp, .inr (6, [.ref tb, .int ts])), (tb, .inl (cB, 1200, .inl fb))] := hD
                    refine lv_aload_n hx hb dX1_advance_253 rfl (lv_at hl 2 rfl) ?_
                    refine lv_dup hx hb dX1_advance_254 rfl ?_
                    refine va_get (D := (dC, dI)) (ci := 0) (v := .int y_879) (C := RX1) (T := TX1) (N := 9) hx hb hts iX1_advance0_X1 hown hK hP 0 rfl rfl 6 (by decide) (hts (.fieldLink RX1 26 "LuckyTicket$Reader" "stop" "I") (List.mem_of_getElem? (i := 2) rfl)) (fun _ h9 => h9) rfl dX1_advance_255 ?_
                    refine lv_iconst (v := 1) hx hb dX1_advance_258 (by decide) ?_
                    refine lv_iadd hx hb dX1_advance_259 ?_
                    refine lv_topi (fun z_908 e_z_908 => ?_)
                    obtain ⟨q_z_908, b_z_908⟩ := ti_add (lo := 1) (hi := 1200) e_z_908 rfl (by decide : (1 : Int32).toInt = 1) b_y_879 (by decide : (1 : Int) ≤ (1 : Int32).toInt ∧ (1 : Int32).toInt ≤ 1) (by decide)
                    refine va_put (D := (dC, dI)) (ci := 0) (v := .int z_908) (ty := .int) (C := RX1) (T := TX1) (N := 9) hx hb hts iX1_advance0_X1 tyX1 tyX1_ok nmX1 hown hK hP hD hS 0 rfl rfl 6 (by decide) (hts (.fieldLink RX1 26 "LuckyTicket$Reader" "stop" "I") (List.mem_of_getElem? (i := 2) rfl)) (fun _ h9 => h9) rfl (by decide +kernel) rfl rfl (Nat.le_of_ble_eq_true rfl) dX1_advance_260 (fun H locs hP hD hS => ?_)
                    have hP : va_P (dC, dI) vwCl [(rd, .inr (0, [.ref tp, .ref sc, .int xf, .int xp, .int 2, .int y_670, .int z_908, .int y_907, .int xj])), (tp, .inr (6, [.ref tb, .int ts])), (tb, .inl (cB, 1200, .inl fb))] H := hP
                    have hD : va_D A [(rd, .inr (0, [.ref tp, .ref sc, .int xf, .int xp, .int 2, .int y_670, .int z_908, .int y_907, .int xj])), (tp, .inr (6, [.ref tb, .int ts])), (tb, .inl (cB, 1200, .inl fb))] := hD
                    refine lv_goto (tgt := 185) hx hb dX1_advance_263 (by decide) ?_
                    exact ih_185_896 (z_908, y_907) _ _ _ ⟨(show (0 : Int) ≤ z_908.toInt ∧ z_908.toInt ≤ 1200 from (rg_w b_z_908 (by decide) (by decide))), (show y_670.toInt ≤ z_908.toInt from (by have zl : (2 : Int32).toInt = 2 := (by decide); omega)), hP, hD, hS, lv_sub hl [0, 1, 2] rfl⟩ (show (1200 - z_908.toInt).toNat < (1200 - y_879.toInt).toNat by omega)
                  ·
                    refine lv_icmp_le (tgt := 233) hx hb dX1_advance_223 (by decide) (fun c_902 => ?_) (fun c_902 => ?_)
                    ·
                      have n_c_902 : (y_880.toInt : Int) ≤ 1000 := c_le rfl (by decide) c_902
                      have b_y_880 : (-2147483648 : Int) ≤ y_880.toInt ∧ y_880.toInt ≤ 1000 := r_le1 (ti_rng y_880) (by decide : (1000 : Int) ≤ (1000 : Int32).toInt ∧ (1000 : Int32).toInt ≤ 1000) n_c_902 (by decide)
                      refine lv_aload_n hx hb dX1_advance_233 rfl (lv_at hl 2 rfl) ?_
                      refine va_get (D := (dC, dI)) (ci := 0) (v := .int y_880) (C := RX1) (T := TX1) (N := 9) hx hb hts iX1_advance0_X1 hown hK hP 0 rfl rfl 7 (by decide) (hts (.fieldLink RX1 172 "LuckyTicket$Reader" "value" "I") (List.mem_of_getElem? (i := 4) rfl)) (fun _ h9 => h9) rfl dX1_advance_234 ?_
                      refine lv_bipush (v := 10) hx hb dX1_advance_237 (by decide) ?_
                      refine lv_imul hx hb dX1_advance_239 ?_
                      refine lv_topi (fun z_909 e_z_909 => ?_)
                      refine lv_aload_n hx hb dX1_advance_240 rfl (lv_at hl 1 rfl) ?_
                      refine lv_aload_n hx hb dX1_advance_241 rfl (lv_at hl 2 rfl) ?_
                      refine va_get (D := (dC, dI)) (ci := 0) (v := .int y_879) (C := RX1) (T := TX1) (N := 9) hx hb hts iX1_advance0_X1 hown hK hP 0 rfl rfl 6 (by decide) (hts (.fieldLink RX1 26 "LuckyTicket$Reader" "stop" "I") (List.mem_of_getElem? (i := 2) rfl)) (fun _ h9 => h9) rfl dX1_advance_242 ?_
                      refine va_bald hx hb hK hP 2 0 rfl rfl (vp_in_b b_y_879 (by decide) (by decide)) dX1_advance_245 ?_
                      refine lv_topi (fun z_910 e_z_910 => ?_)
                      refine lv_iadd hx hb dX1_advance_246 ?_
                      refine lv_topi (fun z_911 e_z_911 => ?_)
                      refine lv_bipush (v := 48) hx hb dX1_advance_247 (by decide) ?_
                      refine lv_isub hx hb dX1_advance_249 ?_
                      refine lv_topi (fun z_912 e_z_912 => ?_)
                      exact hj_250_907 z_912 _ _ _ ⟨hP, hD, hS, lv_sub hl [0, 1, 2] rfl⟩
                    ·
                      have n_c_902 : (1000 : Int) < y_880.toInt := c_nle rfl (by decide) c_902
                      have b_y_880 : (1001 : Int) ≤ y_880.toInt ∧ y_880.toInt ≤ 2147483647 := r_lt2 (by decide : (1000 : Int) ≤ (1000 : Int32).toInt ∧ (1000 : Int32).toInt ≤ 1000) (ti_rng y_880) n_c_902 (by decide)
                      refine lv_aload_n hx hb dX1_advance_226 rfl (lv_at hl 2 rfl) ?_
                      refine va_get (D := (dC, dI)) (ci := 0) (v := .int y_880) (C := RX1) (T := TX1) (N := 9) hx hb hts iX1_advance0_X1 hown hK hP 0 rfl rfl 7 (by decide) (hts (.fieldLink RX1 172 "LuckyTicket$Reader" "value" "I") (List.mem_of_getElem? (i := 4) rfl)) (fun _ h9 => h9) rfl dX1_advance_227 ?_
                      refine lv_goto (tgt := 250) hx hb dX1_advance_230 (by decide) ?_
                      exact hj_250_907 y_880 _ _ _ ⟨hP, hD, hS, lv_sub hl [0, 1, 2] rfl⟩
      ·
        have n_c_847 : (97 : Int) ≤ z_846.toInt := c_nlt rfl (by decide) c_847
        have b_z_846 : (97 : Int) ≤ z_846.toInt ∧ z_846.toInt ≤ 2147483647 := r_le2 (by decide : (97 : Int) ≤ (97 : Int32).toInt ∧ (97 : Int32).toInt ≤ 97) (ti_rng z_846) n_c_847 (by decide)
        refine lv_aload_n hx hb dX1_advance_99 rfl (lv_at hl 1 rfl) ?_
        refine lv_aload_n hx hb dX1_advance_100 rfl (lv_at hl 2 rfl) ?_
        refine va_get (D := (dC, dI)) (ci := 0) (v := .int y_670) (C := RX1) (T := TX1) (N := 9) hx hb hts iX1_advance0_X1 hown hK hP 0 rfl rfl 5 (by decide) (hts (.fieldLink RX1 178 "LuckyTicket$Reader" "start" "I") (List.mem_of_getElem? (i := 3) rfl)) (fun _ h9 => h9) rfl dX1_advance_101 ?_
        refine va_bald hx hb hK hP 2 0 rfl rfl (vp_in_b b_y_670 (by decide) (by decide)) dX1_advance_104 ?_
        refine lv_topi (fun z_913 e_z_913 => ?_)
        refine lv_bipush (v := 122) hx hb dX1_advance_105 (by decide) ?_
        refine lv_icmp_gt (tgt := 158) hx hb dX1_advance_107 (by decide) (fun c_914 => ?_) (fun c_914 => ?_)
        ·
          have n_c_914 : (122 : Int) < z_913.toInt := c_gt rfl (by decide) c_914
          have b_z_913 : (123 : Int) ≤ z_913.toInt ∧ z_913.toInt ≤ 2147483647 := r_lt2 (by decide : (122 : Int) ≤ (122 : Int32).toInt ∧ (122 : Int32).toInt ≤ 122) (ti_rng z_913) n_c_914 (by decide)
          refine lv_aload_n hx hb dX1_advance_158 rfl (lv_at hl 1 rfl) ?_
          refine lv_aload_n hx hb dX1_advance_159 rfl (lv_at hl 2 rfl) ?_
          refine va_get (D := (dC, dI)) (ci := 0) (v := .int y_670) (C := RX1) (T := TX1) (N := 9) hx hb hts iX1_advance0_X1 hown hK hP 0 rfl rfl 5 (by decide) (hts (.fieldLink RX1 178 "LuckyTicket$Reader" "start" "I") (List.mem_of_getElem? (i := 3) rfl)) (fun _ h9 => h9) rfl dX1_advance_160 ?_
          refine va_bald hx hb hK hP 2 0 rfl rfl (vp_in_b b_y_670 (by decide) (by decide)) dX1_advance_163 ?_
          refine lv_topi (fun z_915 e_z_915 => ?_)
          refine lv_bipush (v := 48) hx hb dX1_advance_164 (by decide) ?_
          refine lv_icmp_lt (tgt := 266) hx hb dX1_advance_166 (by decide) (fun c_916 => ?_) (fun c_916 => ?_)
          ·
            have n_c_916 : (z_915.toInt : Int) < 48 := c_lt rfl (by decide) c_916
            have b_z_915 : (-2147483648 : Int) ≤ z_915.toInt ∧ z_915.toInt ≤ 47 := r_lt1 (ti_rng z_915) (by decide : (48 : Int) ≤ (48 : Int32).toInt ∧ (48 : Int32).toInt ≤ 48) n_c_916 (by decide)
            refine lv_aload_n hx hb dX1_advance_266 rfl (lv_at hl 2 rfl) ?_
            refine lv_aload_n hx hb dX1_advance_267 rfl (lv_at hl 1 rfl) ?_
            refine lv_aload_n hx hb dX1_advance_268 rfl (lv_at hl 2 rfl) ?_
            refine va_get (D := (dC, dI)) (ci := 0) (v := .int y_670) (C := RX1) (T := TX1) (N := 9) hx hb hts iX1_advance0_X1 hown hK hP 0 rfl rfl 5 (by decide) (hts (.fieldLink RX1 178 "LuckyTicket$Reader" "start" "I") (List.mem_of_getElem? (i := 3) rfl)) (fun _ h9 => h9) rfl dX1_advance_269 ?_
            refine va_bald hx hb hK hP 2 0 rfl rfl (vp_in_b b_y_670 (by decide) (by decide)) dX1_advance_272 ?_
            refine lv_topi (fun z_917 e_z_917 => ?_)
            refine va_put (D := (dC, dI)) (ci := 0) (v := .int z_917) (ty := .int) (C := RX1) (T := TX1) (N := 9) hx hb hts iX1_advance0_X1 tyX1 tyX1_ok nmX1 hown hK hP hD hS 0 rfl rfl 7 (by decide) (hts (.fieldLink RX1 172 "LuckyTicket$Reader" "value" "I") (List.mem_of_getElem? (i := 4) rfl)) (fun _ h9 => h9) rfl (by decide +kernel) rfl rfl (Nat.le_of_ble_eq_true rfl) dX1_advance_273 (fun H locs hP hD hS => ?_)
            have hP : va_P (dC, dI) vwCl [(rd, .inr (0, [.ref tp, .ref sc, .int xf, .int xp, .int xt, .int y_670, .int y_670, .int z_917, .int xj])), (tp, .inr (6, [.ref tb, .int ts])), (tb, .inl (cB, 1200, .inl fb))] H := hP
            have hD : va_D A [(rd, .inr (0, [.ref tp, .ref sc, .int xf, .int xp, .int xt, .int y_670, .int y_670, .int z_917, .int xj])), (tp, .inr (6, [.ref tb, .int ts])), (tb, .inl (cB, 1200, .inl fb))] := hD
            refine lv_aload_n hx hb dX1_advance_276 rfl (lv_at hl 2 rfl) ?_
            refine lv_aload_n hx hb dX1_advance_277 rfl (lv_at hl 2 rfl) ?_
            refine va_get (D := (dC, dI)) (ci := 0) (v := .int z_917) (C := RX1) (T := TX1) (N := 9) hx hb hts iX1_advance0_X1 hown hK hP 0 rfl rfl 7 (by decide) (hts (.fieldLink RX1 172 "LuckyTicket$Reader" "value" "I") (List.mem_of_getElem? (i := 4) rfl)) (fun _ h9 => h9) rfl dX1_advance_278 ?_
            refine lv_bipush (v := 59) hx hb dX1_advance_281 (by decide) ?_
            refine cutW (σ := Int32) (pc2 := 309) (st2 := fun v => [.int v, .ref rd]) (cells2 := 0) (slots2 := 0) (fun v H locs ls => ((3 : Int) ≤ v.toInt ∧ v.toInt ≤ 4) ∧ va_P (dC, dI) vwCl [(rd, .inr (0, [.ref tp, .ref sc, .int xf, .int xp, .int xt, .int y_670, .int y_670, .int z_917, .int xj])), (tp, .inr (6, [.ref tb, .int ts])), (tb, .inl (cB, 1200, .inl fb))] H ∧ va_D A [(rd, .inr (0, [.ref tp, .ref sc, .int xf, .int xp, .int xt, .int y_670, .int y_670, .int z_917, .int xj])), (tp, .inr (6, [.ref tb, .int ts])), (tb, .inl (cB, 1200, .inl fb))] ∧ va_S A s.heap H locs ∧ lv_has ls 3 [(2, .int ts), (1, .ref tb), (0, .ref rd)]) (fun v H locs ls hI => ?_) (fun hj_309_921 => ?_)
            ·
              obtain ⟨y_921, rfl⟩ : ∃ z, z = v := ⟨_, rfl⟩
              obtain ⟨b_y_921, hP, hD, hS, hl⟩ := hI
              have b_y_921 : (3 : Int) ≤ y_921.toInt ∧ y_921.toInt ≤ 4 := b_y_921
              have hP : va_P (dC, dI) vwCl [(rd, .inr (0, [.ref tp, .ref sc, .int xf, .int xp, .int xt, .int y_670, .int y_670, .int z_917, .int xj])), (tp, .inr (6, [.ref tb, .int ts])), (tb, .inl (cB, 1200, .inl fb))] H := hP
              have hD : va_D A [(rd, .inr (0, [.ref tp, .ref sc, .int xf, .int xp, .int xt, .int y_670, .int y_670, .int z_917, .int xj])), (tp, .inr (6, [.ref tb, .int ts])), (tb, .inl (cB, 1200, .inl fb))] := hD
              have hl : lv_has ls 3 [(2, .int ts), (1, .ref tb), (0, .ref rd)] := hl
              refine va_put (D := (dC, dI)) (ci := 0) (v := .int y_921) (ty := .int) (C := RX1) (T := TX1) (N := 9) hx hb hts iX1_advance0_X1 tyX1 tyX1_ok nmX1 hown hK hP hD hS 0 rfl rfl 4 (by decide) (hts (.fieldLink RX1 39 "LuckyTicket$Reader" "token" "I") (List.mem_of_getElem? (i := 5) rfl)) (fun _ h9 => h9) rfl (by decide +kernel) rfl rfl (Nat.le_of_ble_eq_true rfl) dX1_advance_309 (fun H locs hP hD hS => ?_)
              have hP : va_P (dC, dI) vwCl [(rd, .inr (0, [.ref tp, .ref sc, .int xf, .int xp, .int y_921, .int y_670, .int y_670, .int z_917, .int xj])), (tp, .inr (6, [.ref tb, .int ts])), (tb, .inl (cB, 1200, .inl fb))] H := hP
              have hD : va_D A [(rd, .inr (0, [.ref tp, .ref sc, .int xf, .int xp, .int y_921, .int y_670, .int y_670, .int z_917, .int xj])), (tp, .inr (6, [.ref tb, .int ts])), (tb, .inl (cB, 1200, .inl fb))] := hD
              refine lv_aload_n hx hb dX1_advance_312 rfl (lv_at hl 2 rfl) ?_
              refine lv_dup hx hb dX1_advance_313 rfl ?_
              refine va_get (D := (dC, dI)) (ci := 0) (v := .int y_670) (C := RX1) (T := TX1) (N := 9) hx hb hts iX1_advance0_X1 hown hK hP 0 rfl rfl 6 (by decide) (hts (.fieldLink RX1 26 "LuckyTicket$Reader" "stop" "I") (List.mem_of_getElem? (i := 2) rfl)) (fun _ h9 => h9) rfl dX1_advance_314 ?_
              refine lv_iconst (v := 1) hx hb dX1_advance_317 (by decide) ?_
              refine lv_iadd hx hb dX1_advance_318 ?_
              refine lv_topi (fun z_922 e_z_922 => ?_)
              obtain ⟨q_z_922, b_z_922⟩ := ti_add (lo := 1) (hi := 1200) e_z_922 rfl (by decide : (1 : Int32).toInt = 1) b_y_670 (by decide : (1 : Int) ≤ (1 : Int32).toInt ∧ (1 : Int32).toInt ≤ 1) (by decide)
              refine va_put (D := (dC, dI)) (ci := 0) (v := .int z_922) (ty := .int) (C := RX1) (T := TX1) (N := 9) hx hb hts iX1_advance0_X1 tyX1 tyX1_ok nmX1 hown hK hP hD hS 0 rfl rfl 6 (by decide) (hts (.fieldLink RX1 26 "LuckyTicket$Reader" "stop" "I") (List.mem_of_getElem? (i := 2) rfl)) (fun _ h9 => h9) rfl (by decide +kernel) rfl rfl (Nat.le_of_ble_eq_true rfl) dX1_advance_319 (fun H locs hP hD hS => ?_)
              have hP : va_P (dC, dI) vwCl [(rd, .inr (0, [.ref tp, .ref sc, .int xf, .int xp, .int y_921, .int y_670, .int z_922, .int z_917, .int xj])), (tp, .inr (6, [.ref tb, .int ts])), (tb, .inl (cB, 1200, .inl fb))] H := hP
              have hD : va_D A [(rd, .inr (0, [.ref tp, .ref sc, .int xf, .int xp, .int y_921, .int y_670, .int z_922, .int z_917, .int xj])), (tp, .inr (6, [.ref tb, .int ts])), (tb, .inl (cB, 1200, .inl fb))] := hD
              have hP9 := hP.sub (ws' := [(rd, .inr (0, [.ref tp, .ref sc, .int xf, .int xp, .int y_921, .int y_670, .int z_922, .int z_917, .int xj])), (tp, .inr (6, [.ref tb, .int ts])), (tb, .inl (cB, 1200, .inl fb))]) [0, 1, 2] rfl
              have hD9 := hD.sub (ws' := [(rd, .inr (0, [.ref tp, .ref sc, .int xf, .int xp, .int y_921, .int y_670, .int z_922, .int z_917, .int xj])), (tp, .inr (6, [.ref tb, .int ts])), (tb, .inl (cB, 1200, .inl fb))]) [0, 1, 2] (by decide) rfl
              have hK9 := hK.sub (tys' := [(cB, .byte)]) [0] rfl
              exact W.vret hx hb hr (fun t ht hW => ⟨⟨(), rfl, trivial, y_921, y_670, z_922, z_917, (rg_w b_y_921 (by decide) (by decide)), (rg_w b_y_670 (by decide) (by decide)), (rg_w b_z_922 (by decide) (by decide)), (by omega), by rw [ht]; exact hP9, va_K.moved hW.alike hK9, hD9⟩, hS.F ht⟩) hS.2.2 dX1_advance_322
            ·
              refine lv_icmp_eq (tgt := 304) hx hb dX1_advance_283 (by decide) (fun c_918 => ?_) (fun c_918 => ?_)
              ·
                have n_c_918 : (z_917.toInt : Int) = 59 := c_eq rfl (by decide) c_918
                have b_z_917 : (59 : Int) ≤ z_917.toInt ∧ z_917.toInt ≤ 59 := r_eq1 (ti_rng z_917) (by decide : (59 : Int) ≤ (59 : Int32).toInt ∧ (59 : Int32).toInt ≤ 59) n_c_918 (by decide)
                refine lv_iconst (v := 3) hx hb dX1_advance_304 (by decide) ?_
                refine lv_goto (tgt := 309) hx hb dX1_advance_305 (by decide) ?_
                exact hj_309_921 (3 : Int32) _ _ _ ⟨(show (3 : Int) ≤ (3 : Int32).toInt ∧ (3 : Int32).toInt ≤ 4 from (rg_w (by decide : (3 : Int) ≤ (3 : Int32).toInt ∧ (3 : Int32).toInt ≤ 3) (by decide) (by decide))), hP, hD, hS, lv_sub hl [0, 1, 2] rfl⟩
              ·
                have n_c_918 : (z_917.toInt : Int) ≠ 59 := c_ne rfl (by decide) c_918
                refine lv_aload_n hx hb dX1_advance_286 rfl (lv_at hl 2 rfl) ?_
                refine va_get (D := (dC, dI)) (ci := 0) (v := .int z_917) (C := RX1) (T := TX1) (N := 9) hx hb hts iX1_advance0_X1 hown hK hP 0 rfl rfl 7 (by decide) (hts (.fieldLink RX1 172 "LuckyTicket$Reader" "value" "I") (List.mem_of_getElem? (i := 4) rfl)) (fun _ h9 => h9) rfl dX1_advance_287 ?_
                refine lv_bipush (v := 40) hx hb dX1_advance_290 (by decide) ?_
                refine lv_icmp_eq (tgt := 304) hx hb dX1_advance_292 (by decide) (fun c_923 => ?_) (fun c_923 => ?_)
                ·
                  have n_c_923 : (z_917.toInt : Int) = 40 := c_eq rfl (by decide) c_923
                  have b_z_917 : (40 : Int) ≤ z_917.toInt ∧ z_917.toInt ≤ 40 := r_eq1 (ti_rng z_917) (by decide : (40 : Int) ≤ (40 : Int32).toInt ∧ (40 : Int32).toInt ≤ 40) n_c_923 (by decide)
                  refine lv_iconst (v := 3) hx hb dX1_advance_304 (by decide) ?_
                  refine lv_goto (tgt := 309) hx hb dX1_advance_305 (by decide) ?_
                  exact hj_309_921 (3 : Int32) _ _ _ ⟨(show (3 : Int) ≤ (3 : Int32).toInt ∧ (3 : Int32).toInt ≤ 4 from (rg_w (by decide : (3 : Int) ≤ (3 : Int32).toInt ∧ (3 : Int32).toInt ≤ 3) (by decide) (by decide))), hP, hD, hS, lv_sub hl [0, 1, 2] rfl⟩
                ·
                  have n_c_923 : (z_917.toInt : Int) ≠ 40 := c_ne rfl (by decide) c_923
                  refine lv_aload_n hx hb dX1_advance_295 rfl (lv_at hl 2 rfl) ?_
                  refine va_get (D := (dC, dI)) (ci := 0) (v := .int z_917) (C := RX1) (T := TX1) (N := 9) hx hb hts iX1_advance0_X1 hown hK hP 0 rfl rfl 7 (by decide) (hts (.fieldLink RX1 172 "LuckyTicket$Reader" "value" "I") (List.mem_of_getElem? (i := 4) rfl)) (fun _ h9 => h9) rfl dX1_advance_296 ?_
                  refine lv_bipush (v := 41) hx hb dX1_advance_299 (by decide) ?_
                  refine lv_icmp_ne (tgt := 308) hx hb dX1_advance_301 (by decide) (fun c_924 => ?_) (fun c_924 => ?_)
                  ·
                    have n_c_924 : (z_917.toInt : Int) ≠ 41 := c_ne rfl (by decide) c_924
                    refine lv_iconst (v := 4) hx hb dX1_advance_308 (by decide) ?_
                    exact hj_309_921 (4 : Int32) _ _ _ ⟨(show (3 : Int) ≤ (4 : Int32).toInt ∧ (4 : Int32).toInt ≤ 4 from (rg_w (by decide : (4 : Int) ≤ (4 : Int32).toInt ∧ (4 : Int32).toInt ≤ 4) (by decide) (by decide))), hP, hD, hS, lv_sub hl [0, 1, 2] rfl⟩
                  ·
                    have n_c_924 : (z_917.toInt : Int) = 41 := c_eq rfl (by decide) c_924
                    have b_z_917 : (41 : Int) ≤ z_917.toInt ∧ z_917.toInt ≤ 41 := r_eq1 (ti_rng z_917) (by decide : (41 : Int) ≤ (41 : Int32).toInt ∧ (41 : Int32).toInt ≤ 41) n_c_924 (by decide)
                    refine lv_iconst (v := 3) hx hb dX1_advance_304 (by decide) ?_
                    refine lv_goto (tgt := 309) hx hb dX1_advance_305 (by decide) ?_
                    exact hj_309_921 (3 : Int32) _ _ _ ⟨(show (3 : Int) ≤ (3 : Int32).toInt ∧ (3 : Int32).toInt ≤ 4 from (rg_w (by decide : (3 : Int) ≤ (3 : Int32).toInt ∧ (3 : Int32).toInt ≤ 3) (by decide) (by decide))), hP, hD, hS, lv_sub hl [0, 1, 2] rfl⟩
          ·
            have n_c_916 : (48 : Int) ≤ z_915.toInt := c_nlt rfl (by decide) c_916
            have b_z_915 : (48 : Int) ≤ z_915.toInt ∧ z_915.toInt ≤ 2147483647 := r_le2 (by decide : (48 : Int) ≤ (48 : Int32).toInt ∧ (48 : Int32).toInt ≤ 48) (ti_rng z_915) n_c_916 (by decide)
            refine lv_aload_n hx hb dX1_advance_169 rfl (lv_at hl 1 rfl) ?_
            refine lv_aload_n hx hb dX1_advance_170 rfl (lv_at hl 2 rfl) ?_
            refine va_get (D := (dC, dI)) (ci := 0) (v := .int y_670) (C := RX1) (T := TX1) (N := 9) hx hb hts iX1_advance0_X1 hown hK hP 0 rfl rfl 5 (by decide) (hts (.fieldLink RX1 178 "LuckyTicket$Reader" "start" "I") (List.mem_of_getElem? (i := 3) rfl)) (fun _ h9 => h9) rfl dX1_advance_171 ?_
            refine va_bald hx hb hK hP 2 0 rfl rfl (vp_in_b b_y_670 (by decide) (by decide)) dX1_advance_174 ?_
            refine lv_topi (fun z_925 e_z_925 => ?_)
            refine lv_bipush (v := 57) hx hb dX1_advance_175 (by decide) ?_
            refine lv_icmp_gt (tgt := 266) hx hb dX1_advance_177 (by decide) (fun c_926 => ?_) (fun c_926 => ?_)
            ·
              have n_c_926 : (57 : Int) < z_925.toInt := c_gt rfl (by decide) c_926
              have b_z_925 : (58 : Int) ≤ z_925.toInt ∧ z_925.toInt ≤ 2147483647 := r_lt2 (by decide : (57 : Int) ≤ (57 : Int32).toInt ∧ (57 : Int32).toInt ≤ 57) (ti_rng z_925) n_c_926 (by decide)
              refine lv_aload_n hx hb dX1_advance_266 rfl (lv_at hl 2 rfl) ?_
              refine lv_aload_n hx hb dX1_advance_267 rfl (lv_at hl 1 rfl) ?_
              refine lv_aload_n hx hb dX1_advance_268 rfl (lv_at hl 2 rfl) ?_
              refine va_get (D := (dC, dI)) (ci := 0) (v := .int y_670) (C := RX1) (T := TX1) (N := 9) hx hb hts iX1_advance0_X1 hown hK hP 0 rfl rfl 5 (by decide) (hts (.fieldLink RX1 178 "LuckyTicket$Reader" "start" "I") (List.mem_of_getElem? (i := 3) rfl)) (fun _ h9 => h9) rfl dX1_advance_269 ?_
              refine va_bald hx hb hK hP 2 0 rfl rfl (vp_in_b b_y_670 (by decide) (by decide)) dX1_advance_272 ?_
              refine lv_topi (fun z_927 e_z_927 => ?_)
              refine va_put (D := (dC, dI)) (ci := 0) (v := .int z_927) (ty := .int) (C := RX1) (T := TX1) (N := 9) hx hb hts iX1_advance0_X1 tyX1 tyX1_ok nmX1 hown hK hP hD hS 0 rfl rfl 7 (by decide) (hts (.fieldLink RX1 172 "LuckyTicket$Reader" "value" "I") (List.mem_of_getElem? (i := 4) rfl)) (fun _ h9 => h9) rfl (by decide +kernel) rfl rfl (Nat.le_of_ble_eq_true rfl) dX1_advance_273 (fun H locs hP hD hS => ?_)
              have hP : va_P (dC, dI) vwCl [(rd, .inr (0, [.ref tp, .ref sc, .int xf, .int xp, .int xt, .int y_670, .int y_670, .int z_927, .int xj])), (tp, .inr (6, [.ref tb, .int ts])), (tb, .inl (cB, 1200, .inl fb))] H := hP
              have hD : va_D A [(rd, .inr (0, [.ref tp, .ref sc, .int xf, .int xp, .int xt, .int y_670, .int y_670, .int z_927, .int xj])), (tp, .inr (6, [.ref tb, .int ts])), (tb, .inl (cB, 1200, .inl fb))] := hD
              refine lv_aload_n hx hb dX1_advance_276 rfl (lv_at hl 2 rfl) ?_
              refine lv_aload_n hx hb dX1_advance_277 rfl (lv_at hl 2 rfl) ?_
              refine va_get (D := (dC, dI)) (ci := 0) (v := .int z_927) (C := RX1) (T := TX1) (N := 9) hx hb hts iX1_advance0_X1 hown hK hP 0 rfl rfl 7 (by decide) (hts (.fieldLink RX1 172 "LuckyTicket$Reader" "value" "I") (List.mem_of_getElem? (i := 4) rfl)) (fun _ h9 => h9) rfl dX1_advance_278 ?_
              refine lv_bipush (v := 59) hx hb dX1_advance_281 (by decide) ?_
              refine cutW (σ := Int32) (pc2 := 309) (st2 := fun v => [.int v, .ref rd]) (cells2 := 0) (slots2 := 0) (fun v H locs ls => ((3 : Int) ≤ v.toInt ∧ v.toInt ≤ 4) ∧ va_P (dC, dI) vwCl [(rd, .inr (0, [.ref tp, .ref sc, .int xf, .int xp, .int xt, .int y_670, .int y_670, .int z_927, .int xj])), (tp, .inr (6, [.ref tb, .int ts])), (tb, .inl (cB, 1200, .inl fb))] H ∧ va_D A [(rd, .inr (0, [.ref tp, .ref sc, .int xf, .int xp, .int xt, .int y_670, .int y_670, .int z_927, .int xj])), (tp, .inr (6, [.ref tb, .int ts])), (tb, .inl (cB, 1200, .inl fb))] ∧ va_S A s.heap H locs ∧ lv_has ls 3 [(2, .int ts), (1, .ref tb), (0, .ref rd)]) (fun v H locs ls hI => ?_) (fun hj_309_931 => ?_)
              ·
                obtain ⟨y_931, rfl⟩ : ∃ z, z = v := ⟨_, rfl⟩
                obtain ⟨b_y_931, hP, hD, hS, hl⟩ := hI
                have b_y_931 : (3 : Int) ≤ y_931.toInt ∧ y_931.toInt ≤ 4 := b_y_931
                have hP : va_P (dC, dI) vwCl [(rd, .inr (0, [.ref tp, .ref sc, .int xf, .int xp, .int xt, .int y_670, .int y_670, .int z_927, .int xj])), (tp, .inr (6, [.ref tb, .int ts])), (tb, .inl (cB, 1200, .inl fb))] H := hP
                have hD : va_D A [(rd, .inr (0, [.ref tp, .ref sc, .int xf, .int xp, .int xt, .int y_670, .int y_670, .int z_927, .int xj])), (tp, .inr (6, [.ref tb, .int ts])), (tb, .inl (cB, 1200, .inl fb))] := hD
                have hl : lv_has ls 3 [(2, .int ts), (1, .ref tb), (0, .ref rd)] := hl
                refine va_put (D := (dC, dI)) (ci := 0) (v := .int y_931) (ty := .int) (C := RX1) (T := TX1) (N := 9) hx hb hts iX1_advance0_X1 tyX1 tyX1_ok nmX1 hown hK hP hD hS 0 rfl rfl 4 (by decide) (hts (.fieldLink RX1 39 "LuckyTicket$Reader" "token" "I") (List.mem_of_getElem? (i := 5) rfl)) (fun _ h9 => h9) rfl (by decide +kernel) rfl rfl (Nat.le_of_ble_eq_true rfl) dX1_advance_309 (fun H locs hP hD hS => ?_)
                have hP : va_P (dC, dI) vwCl [(rd, .inr (0, [.ref tp, .ref sc, .int xf, .int xp, .int y_931, .int y_670, .int y_670, .int z_927, .int xj])), (tp, .inr (6, [.ref tb, .int ts])), (tb, .inl (cB, 1200, .inl fb))] H := hP
                have hD : va_D A [(rd, .inr (0, [.ref tp, .ref sc, .int xf, .int xp, .int y_931, .int y_670, .int y_670, .int z_927, .int xj])), (tp, .inr (6, [.ref tb, .int ts])), (tb, .inl (cB, 1200, .inl fb))] := hD
                refine lv_aload_n hx hb dX1_advance_312 rfl (lv_at hl 2 rfl) ?_
                refine lv_dup hx hb dX1_advance_313 rfl ?_
                refine va_get (D := (dC, dI)) (ci := 0) (v := .int y_670) (C := RX1) (T := TX1) (N := 9) hx hb hts iX1_advance0_X1 hown hK hP 0 rfl rfl 6 (by decide) (hts (.fieldLink RX1 26 "LuckyTicket$Reader" "stop" "I") (List.mem_of_getElem? (i := 2) rfl)) (fun _ h9 => h9) rfl dX1_advance_314 ?_
                refine lv_iconst (v := 1) hx hb dX1_advance_317 (by decide) ?_
                refine lv_iadd hx hb dX1_advance_318 ?_
                refine lv_topi (fun z_932 e_z_932 => ?_)
                obtain ⟨q_z_932, b_z_932⟩ := ti_add (lo := 1) (hi := 1200) e_z_932 rfl (by decide : (1 : Int32).toInt = 1) b_y_670 (by decide : (1 : Int) ≤ (1 : Int32).toInt ∧ (1 : Int32).toInt ≤ 1) (by decide)
                refine va_put (D := (dC, dI)) (ci := 0) (v := .int z_932) (ty := .int) (C := RX1) (T := TX1) (N := 9) hx hb hts iX1_advance0_X1 tyX1 tyX1_ok nmX1 hown hK hP hD hS 0 rfl rfl 6 (by decide) (hts (.fieldLink RX1 26 "LuckyTicket$Reader" "stop" "I") (List.mem_of_getElem? (i := 2) rfl)) (fun _ h9 => h9) rfl (by decide +kernel) rfl rfl (Nat.le_of_ble_eq_true rfl) dX1_advance_319 (fun H locs hP hD hS => ?_)
                have hP : va_P (dC, dI) vwCl [(rd, .inr (0, [.ref tp, .ref sc, .int xf, .int xp, .int y_931, .int y_670, .int z_932, .int z_927, .int xj])), (tp, .inr (6, [.ref tb, .int ts])), (tb, .inl (cB, 1200, .inl fb))] H := hP
                have hD : va_D A [(rd, .inr (0, [.ref tp, .ref sc, .int xf, .int xp, .int y_931, .int y_670, .int z_932, .int z_927, .int xj])), (tp, .inr (6, [.ref tb, .int ts])), (tb, .inl (cB, 1200, .inl fb))] := hD
                have hP9 := hP.sub (ws' := [(rd, .inr (0, [.ref tp, .ref sc, .int xf, .int xp, .int y_931, .int y_670, .int z_932, .int z_927, .int xj])), (tp, .inr (6, [.ref tb, .int ts])), (tb, .inl (cB, 1200, .inl fb))]) [0, 1, 2] rfl
                have hD9 := hD.sub (ws' := [(rd, .inr (0, [.ref tp, .ref sc, .int xf, .int xp, .int y_931, .int y_670, .int z_932, .int z_927, .int xj])), (tp, .inr (6, [.ref tb, .int ts])), (tb, .inl (cB, 1200, .inl fb))]) [0, 1, 2] (by decide) rfl
                have hK9 := hK.sub (tys' := [(cB, .byte)]) [0] rfl
                exact W.vret hx hb hr (fun t ht hW => ⟨⟨(), rfl, trivial, y_931, y_670, z_932, z_927, (rg_w b_y_931 (by decide) (by decide)), (rg_w b_y_670 (by decide) (by decide)), (rg_w b_z_932 (by decide) (by decide)), (by omega), by rw [ht]; exact hP9, va_K.moved hW.alike hK9, hD9⟩, hS.F ht⟩) hS.2.2 dX1_advance_322
              ·
                refine lv_icmp_eq (tgt := 304) hx hb dX1_advance_283 (by decide) (fun c_928 => ?_) (fun c_928 => ?_)
                ·
                  have n_c_928 : (z_927.toInt : Int) = 59 := c_eq rfl (by decide) c_928
                  have b_z_927 : (59 : Int) ≤ z_927.toInt ∧ z_927.toInt ≤ 59 := r_eq1 (ti_rng z_927) (by decide : (59 : Int) ≤ (59 : Int32).toInt ∧ (59 : Int32).toInt ≤ 59) n_c_928 (by decide)
                  refine lv_iconst (v := 3) hx hb dX1_advance_304 (by decide) ?_
                  refine lv_goto (tgt := 309) hx hb dX1_advance_305 (by decide) ?_
                  exact hj_309_931 (3 : Int32) _ _ _ ⟨(show (3 : Int) ≤ (3 : Int32).toInt ∧ (3 : Int32).toInt ≤ 4 from (rg_w (by decide : (3 : Int) ≤ (3 : Int32).toInt ∧ (3 : Int32).toInt ≤ 3) (by decide) (by decide))), hP, hD, hS, lv_sub hl [0, 1, 2] rfl⟩
                ·
                  have n_c_928 : (z_927.toInt : Int) ≠ 59 := c_ne rfl (by decide) c_928
                  refine lv_aload_n hx hb dX1_advance_286 rfl (lv_at hl 2 rfl) ?_
                  refine va_get (D := (dC, dI)) (ci := 0) (v := .int z_927) (C := RX1) (T := TX1) (N := 9) hx hb hts iX1_advance0_X1 hown hK hP 0 rfl rfl 7 (by decide) (hts (.fieldLink RX1 172 "LuckyTicket$Reader" "value" "I") (List.mem_of_getElem? (i := 4) rfl)) (fun _ h9 => h9) rfl dX1_advance_287 ?_
                  refine lv_bipush (v := 40) hx hb dX1_advance_290 (by decide) ?_
                  refine lv_icmp_eq (tgt := 304) hx hb dX1_advance_292 (by decide) (fun c_933 => ?_) (fun c_933 => ?_)
                  ·
                    have n_c_933 : (z_927.toInt : Int) = 40 := c_eq rfl (by decide) c_933
                    have b_z_927 : (40 : Int) ≤ z_927.toInt ∧ z_927.toInt ≤ 40 := r_eq1 (ti_rng z_927) (by decide : (40 : Int) ≤ (40 : Int32).toInt ∧ (40 : Int32).toInt ≤ 40) n_c_933 (by decide)
                    refine lv_iconst (v := 3) hx hb dX1_advance_304 (by decide) ?_
                    refine lv_goto (tgt := 309) hx hb dX1_advance_305 (by decide) ?_
                    exact hj_309_931 (3 : Int32) _ _ _ ⟨(show (3 : Int) ≤ (3 : Int32).toInt ∧ (3 : Int32).toInt ≤ 4 from (rg_w (by decide : (3 : Int) ≤ (3 : Int32).toInt ∧ (3 : Int32).toInt ≤ 3) (by decide) (by decide))), hP, hD, hS, lv_sub hl [0, 1, 2] rfl⟩
                  ·
                    have n_c_933 : (z_927.toInt : Int) ≠ 40 := c_ne rfl (by decide) c_933
                    refine lv_aload_n hx hb dX1_advance_295 rfl (lv_at hl 2 rfl) ?_
                    refine va_get (D := (dC, dI)) (ci := 0) (v := .int z_927) (C := RX1) (T := TX1) (N := 9) hx hb hts iX1_advance0_X1 hown hK hP 0 rfl rfl 7 (by decide) (hts (.fieldLink RX1 172 "LuckyTicket$Reader" "value" "I") (List.mem_of_getElem? (i := 4) rfl)) (fun _ h9 => h9) rfl dX1_advance_296 ?_
                    refine lv_bipush (v := 41) hx hb dX1_advance_299 (by decide) ?_
                    refine lv_icmp_ne (tgt := 308) hx hb dX1_advance_301 (by decide) (fun c_934 => ?_) (fun c_934 => ?_)
                    ·
                      have n_c_934 : (z_927.toInt : Int) ≠ 41 := c_ne rfl (by decide) c_934
                      refine lv_iconst (v := 4) hx hb dX1_advance_308 (by decide) ?_
                      exact hj_309_931 (4 : Int32) _ _ _ ⟨(show (3 : Int) ≤ (4 : Int32).toInt ∧ (4 : Int32).toInt ≤ 4 from (rg_w (by decide : (4 : Int) ≤ (4 : Int32).toInt ∧ (4 : Int32).toInt ≤ 4) (by decide) (by decide))), hP, hD, hS, lv_sub hl [0, 1, 2] rfl⟩
                    ·
                      have n_c_934 : (z_927.toInt : Int) = 41 := c_eq rfl (by decide) c_934
                      have b_z_927 : (41 : Int) ≤ z_927.toInt ∧ z_927.toInt ≤ 41 := r_eq1 (ti_rng z_927) (by decide : (41 : Int) ≤ (41 : Int32).toInt ∧ (41 : Int32).toInt ≤ 41) n_c_934 (by decide)
                      refine lv_iconst (v := 3) hx hb dX1_advance_304 (by decide) ?_
                      refine lv_goto (tgt := 309) hx hb dX1_advance_305 (by decide) ?_
                      exact hj_309_931 (3 : Int32) _ _ _ ⟨(show (3 : Int) ≤ (3 : Int32).toInt ∧ (3 : Int32).toInt ≤ 4 from (rg_w (by decide : (3 : Int) ≤ (3 : Int32).toInt ∧ (3 : Int32).toInt ≤ 3) (by decide) (by decide))), hP, hD, hS, lv_sub hl [0, 1, 2] rfl⟩
            ·
              have n_c_926 : (z_925.toInt : Int) ≤ 57 := c_ngt rfl (by decide) c_926
              have b_z_925 : (-2147483648 : Int) ≤ z_925.toInt ∧ z_925.toInt ≤ 57 := r_le1 (ti_rng z_925) (by decide : (57 : Int) ≤ (57 : Int32).toInt ∧ (57 : Int32).toInt ≤ 57) n_c_926 (by decide)
              refine lv_aload_n hx hb dX1_advance_180 rfl (lv_at hl 2 rfl) ?_
              refine lv_iconst (v := 2) hx hb dX1_advance_181 (by decide) ?_
              refine va_put (D := (dC, dI)) (ci := 0) (v := .int 2) (ty := .int) (C := RX1) (T := TX1) (N := 9) hx hb hts iX1_advance0_X1 tyX1 tyX1_ok nmX1 hown hK hP hD hS 0 rfl rfl 4 (by decide) (hts (.fieldLink RX1 39 "LuckyTicket$Reader" "token" "I") (List.mem_of_getElem? (i := 5) rfl)) (fun _ h9 => h9) rfl (by decide +kernel) rfl rfl (Nat.le_of_ble_eq_true rfl) dX1_advance_182 (fun H locs hP hD hS => ?_)
              have hP : va_P (dC, dI) vwCl [(rd, .inr (0, [.ref tp, .ref sc, .int xf, .int xp, .int 2, .int y_670, .int y_670, .int 0, .int xj])), (tp, .inr (6, [.ref tb, .int ts])), (tb, .inl (cB, 1200, .inl fb))] H := hP
              have hD : va_D A [(rd, .inr (0, [.ref tp, .ref sc, .int xf, .int xp, .int 2, .int y_670, .int y_670, .int 0, .int xj])), (tp, .inr (6, [.ref tb, .int ts])), (tb, .inl (cB, 1200, .inl fb))] := hD
              refine loopW (σ := Int32 × Int32) (fun v => (1200 - v.1.toInt).toNat) (fun v H locs ls => ((0 : Int) ≤ v.1.toInt ∧ v.1.toInt ≤ 1200) ∧ (y_670.toInt ≤ v.1.toInt) ∧ va_P (dC, dI) vwCl [(rd, .inr (0, [.ref tp, .ref sc, .int xf, .int xp, .int 2, .int y_670, .int v.1, .int v.2, .int xj])), (tp, .inr (6, [.ref tb, .int ts])), (tb, .inl (cB, 1200, .inl fb))] H ∧ va_D A [(rd, .inr (0, [.ref tp, .ref sc, .int xf, .int xp, .int 2, .int y_670, .int v.1, .int v.2, .int xj])), (tp, .inr (6, [.ref tb, .int ts])), (tb, .inl (cB, 1200, .inl fb))] ∧ va_S A s.heap H locs ∧ lv_has ls 3 [(2, .int ts), (1, .ref tb), (0, .ref rd)]) (fun v H locs ls hI ih_185_963 => ?_) (y_670, (0 : Int32)) ⟨(show (0 : Int) ≤ y_670.toInt ∧ y_670.toInt ≤ 1200 from (rg_w b_y_670 (by decide) (by decide))), (show y_670.toInt ≤ y_670.toInt from (by have zl : (2 : Int32).toInt = 2 := (by decide); have zl : (0 : Int32).toInt = 0 := (by decide); omega)), hP, hD, hS, lv_sub hl [0, 1, 2] rfl⟩
              obtain ⟨y_946, y_947⟩ := v
              obtain ⟨b_y_946, hss, hP, hD, hS, hl⟩ := hI
              have b_y_946 : (0 : Int) ≤ y_946.toInt ∧ y_946.toInt ≤ 1200 := b_y_946
              have hss : y_670.toInt ≤ y_946.toInt := hss
              have hP : va_P (dC, dI) vwCl [(rd, .inr (0, [.ref tp, .ref sc, .int xf, .int xp, .int 2, .int y_670, .int y_946, .int y_947, .int xj])), (tp, .inr (6, [.ref tb, .int ts])), (tb, .inl (cB, 1200, .inl fb))] H := hP
              have hD : va_D A [(rd, .inr (0, [.ref tp, .ref sc, .int xf, .int xp, .int 2, .int y_670, .int y_946, .int y_947, .int xj])), (tp, .inr (6, [.ref tb, .int ts])), (tb, .inl (cB, 1200, .inl fb))] := hD
              have hl : lv_has ls 3 [(2, .int ts), (1, .ref tb), (0, .ref rd)] := hl
              refine lv_aload_n hx hb dX1_advance_185 rfl (lv_at hl 2 rfl) ?_
              refine va_get (D := (dC, dI)) (ci := 0) (v := .int y_946) (C := RX1) (T := TX1) (N := 9) hx hb hts iX1_advance0_X1 hown hK hP 0 rfl rfl 6 (by decide) (hts (.fieldLink RX1 26 "LuckyTicket$Reader" "stop" "I") (List.mem_of_getElem? (i := 2) rfl)) (fun _ h9 => h9) rfl dX1_advance_186 ?_
              refine lv_iload_n hx hb dX1_advance_189 rfl (lv_at hl 0 rfl) ?_
              refine lv_icmp_ge (tgt := 322) hx hb dX1_advance_190 (by decide) (fun c_964 => ?_) (fun c_964 => ?_)
              ·
                have n_c_964 : (ts.toInt : Int) ≤ y_946.toInt := c_ge rfl rfl c_964
                have b_y_946 : (1 : Int) ≤ y_946.toInt ∧ y_946.toInt ≤ 1200 := r_le2 b_ts b_y_946 n_c_964 (by decide)
                have hP9 := hP.sub (ws' := [(rd, .inr (0, [.ref tp, .ref sc, .int xf, .int xp, .int 2, .int y_670, .int y_946, .int y_947, .int xj])), (tp, .inr (6, [.ref tb, .int ts])), (tb, .inl (cB, 1200, .inl fb))]) [0, 1, 2] rfl
                have hD9 := hD.sub (ws' := [(rd, .inr (0, [.ref tp, .ref sc, .int xf, .int xp, .int 2, .int y_670, .int y_946, .int y_947, .int xj])), (tp, .inr (6, [.ref tb, .int ts])), (tb, .inl (cB, 1200, .inl fb))]) [0, 1, 2] (by decide) rfl
                have hK9 := hK.sub (tys' := [(cB, .byte)]) [0] rfl
                exact W.vret hx hb hr (fun t ht hW => ⟨⟨(), rfl, trivial, 2, y_670, y_946, y_947, (rg_w (by decide : (2 : Int) ≤ (2 : Int32).toInt ∧ (2 : Int32).toInt ≤ 2) (by decide) (by decide)), (rg_w b_y_670 (by decide) (by decide)), (rg_w b_y_946 (by decide) (by decide)), (by omega), by rw [ht]; exact hP9, va_K.moved hW.alike hK9, hD9⟩, hS.F ht⟩) hS.2.2 dX1_advance_322
              ·
                have n_c_964 : (y_946.toInt : Int) < ts.toInt := c_nge rfl rfl c_964
                have b_y_946 : (0 : Int) ≤ y_946.toInt ∧ y_946.toInt ≤ 1199 := r_lt1 b_y_946 b_ts n_c_964 (by decide)
                refine lv_aload_n hx hb dX1_advance_193 rfl (lv_at hl 1 rfl) ?_
                refine lv_aload_n hx hb dX1_advance_194 rfl (lv_at hl 2 rfl) ?_
                refine va_get (D := (dC, dI)) (ci := 0) (v := .int y_946) (C := RX1) (T := TX1) (N := 9) hx hb hts iX1_advance0_X1 hown hK hP 0 rfl rfl 6 (by decide) (hts (.fieldLink RX1 26 "LuckyTicket$Reader" "stop" "I") (List.mem_of_getElem? (i := 2) rfl)) (fun _ h9 => h9) rfl dX1_advance_195 ?_
                refine va_bald hx hb hK hP 2 0 rfl rfl (vp_in_b b_y_946 (by decide) (by decide)) dX1_advance_198 ?_
                refine lv_topi (fun z_965 e_z_965 => ?_)
                refine lv_bipush (v := 48) hx hb dX1_advance_199 (by decide) ?_
                refine lv_icmp_lt (tgt := 322) hx hb dX1_advance_201 (by decide) (fun c_966 => ?_) (fun c_966 => ?_)
                ·
                  have n_c_966 : (z_965.toInt : Int) < 48 := c_lt rfl (by decide) c_966
                  have b_z_965 : (-2147483648 : Int) ≤ z_965.toInt ∧ z_965.toInt ≤ 47 := r_lt1 (ti_rng z_965) (by decide : (48 : Int) ≤ (48 : Int32).toInt ∧ (48 : Int32).toInt ≤ 48) n_c_966 (by decide)
                  have hP9 := hP.sub (ws' := [(rd, .inr (0, [.ref tp, .ref sc, .int xf, .int xp, .int 2, .int y_670, .int y_946, .int y_947, .int xj])), (tp, .inr (6, [.ref tb, .int ts])), (tb, .inl (cB, 1200, .inl fb))]) [0, 1, 2] rfl
                  have hD9 := hD.sub (ws' := [(rd, .inr (0, [.ref tp, .ref sc, .int xf, .int xp, .int 2, .int y_670, .int y_946, .int y_947, .int xj])), (tp, .inr (6, [.ref tb, .int ts])), (tb, .inl (cB, 1200, .inl fb))]) [0, 1, 2] (by decide) rfl
                  have hK9 := hK.sub (tys' := [(cB, .byte)]) [0] rfl
                  exact W.vret hx hb hr (fun t ht hW => ⟨⟨(), rfl, trivial, 2, y_670, y_946, y_947, (rg_w (by decide : (2 : Int) ≤ (2 : Int32).toInt ∧ (2 : Int32).toInt ≤ 2) (by decide) (by decide)), (rg_w b_y_670 (by decide) (by decide)), (rg_w b_y_946 (by decide) (by decide)), (by omega), by rw [ht]; exact hP9, va_K.moved hW.alike hK9, hD9⟩, hS.F ht⟩) hS.2.2 dX1_advance_322
                ·
                  have n_c_966 : (48 : Int) ≤ z_965.toInt := c_nlt rfl (by decide) c_966
                  have b_z_965 : (48 : Int) ≤ z_965.toInt ∧ z_965.toInt ≤ 2147483647 := r_le2 (by decide : (48 : Int) ≤ (48 : Int32).toInt ∧ (48 : Int32).toInt ≤ 48) (ti_rng z_965) n_c_966 (by decide)
                  refine lv_aload_n hx hb dX1_advance_204 rfl (lv_at hl 1 rfl) ?_
                  refine lv_aload_n hx hb dX1_advance_205 rfl (lv_at hl 2 rfl) ?_
                  refine va_get (D := (dC, dI)) (ci := 0) (v := .int y_946) (C := RX1) (T := TX1) (N := 9) hx hb hts iX1_advance0_X1 hown hK hP 0 rfl rfl 6 (by decide) (hts (.fieldLink RX1 26 "LuckyTicket$Reader" "stop" "I") (List.mem_of_getElem? (i := 2) rfl)) (fun _ h9 => h9) rfl dX1_advance_206 ?_
                  refine va_bald hx hb hK hP 2 0 rfl rfl (vp_in_b b_y_946 (by decide) (by decide)) dX1_advance_209 ?_
                  refine lv_topi (fun z_967 e_z_967 => ?_)
                  refine lv_bipush (v := 57) hx hb dX1_advance_210 (by decide) ?_
                  refine lv_icmp_gt (tgt := 322) hx hb dX1_advance_212 (by decide) (fun c_968 => ?_) (fun c_968 => ?_)
                  ·
                    have n_c_968 : (57 : Int) < z_967.toInt := c_gt rfl (by decide) c_968
                    have b_z_967 : (58 : Int) ≤ z_967.toInt ∧ z_967.toInt ≤ 2147483647 := r_lt2 (by decide : (57 : Int) ≤ (57 : Int32).toInt ∧ (57 : Int32).toInt ≤ 57) (ti_rng z_967) n_c_968 (by decide)
                    have hP9 := hP.sub (ws' := [(rd, .inr (0, [.ref tp, .ref sc, .int xf, .int xp, .int 2, .int y_670, .int y_946, .int y_947, .int xj])), (tp, .inr (6, [.ref tb, .int ts])), (tb, .inl (cB, 1200, .inl fb))]) [0, 1, 2] rfl
                    have hD9 := hD.sub (ws' := [(rd, .inr (0, [.ref tp, .ref sc, .int xf, .int xp, .int 2, .int y_670, .int y_946, .int y_947, .int xj])), (tp, .inr (6, [.ref tb, .int ts])), (tb, .inl (cB, 1200, .inl fb))]) [0, 1, 2] (by decide) rfl
                    have hK9 := hK.sub (tys' := [(cB, .byte)]) [0] rfl
                    exact W.vret hx hb hr (fun t ht hW => ⟨⟨(), rfl, trivial, 2, y_670, y_946, y_947, (rg_w (by decide : (2 : Int) ≤ (2 : Int32).toInt ∧ (2 : Int32).toInt ≤ 2) (by decide) (by decide)), (rg_w b_y_670 (by decide) (by decide)), (rg_w b_y_946 (by decide) (by decide)), (by omega), by rw [ht]; exact hP9, va_K.moved hW.alike hK9, hD9⟩, hS.F ht⟩) hS.2.2 dX1_advance_322
                  ·
                    have n_c_968 : (z_967.toInt : Int) ≤ 57 := c_ngt rfl (by decide) c_968
                    have b_z_967 : (-2147483648 : Int) ≤ z_967.toInt ∧ z_967.toInt ≤ 57 := r_le1 (ti_rng z_967) (by decide : (57 : Int) ≤ (57 : Int32).toInt ∧ (57 : Int32).toInt ≤ 57) n_c_968 (by decide)
                    refine lv_aload_n hx hb dX1_advance_215 rfl (lv_at hl 2 rfl) ?_
                    refine lv_aload_n hx hb dX1_advance_216 rfl (lv_at hl 2 rfl) ?_
                    refine va_get (D := (dC, dI)) (ci := 0) (v := .int y_947) (C := RX1) (T := TX1) (N := 9) hx hb hts iX1_advance0_X1 hown hK hP 0 rfl rfl 7 (by decide) (hts (.fieldLink RX1 172 "LuckyTicket$Reader" "value" "I") (List.mem_of_getElem? (i := 4) rfl)) (fun _ h9 => h9) rfl dX1_advance_217 ?_
                    refine lv_sipush (v := 1000) hx hb dX1_advance_220 (by decide) ?_
                    refine cutW (σ := Int32) (pc2 := 250) (st2 := fun v => [.int v, .ref rd]) (cells2 := 0) (slots2 := 0) (fun v H locs ls => va_P (dC, dI) vwCl [(rd, .inr (0, [.ref tp, .ref sc, .int xf, .int xp, .int 2, .int y_670, .int y_946, .int y_947, .int xj])), (tp, .inr (6, [.ref tb, .int ts])), (tb, .inl (cB, 1200, .inl fb))] H ∧ va_D A [(rd, .inr (0, [.ref tp, .ref sc, .int xf, .int xp, .int 2, .int y_670, .int y_946, .int y_947, .int xj])), (tp, .inr (6, [.ref tb, .int ts])), (tb, .inl (cB, 1200, .inl fb))] ∧ va_S A s.heap H locs ∧ lv_has ls 3 [(2, .int ts), (1, .ref tb), (0, .ref rd)]) (fun v H locs ls hI => ?_) (fun hj_250_974 => ?_)
                    ·
                      obtain ⟨y_974, rfl⟩ : ∃ z, z = v := ⟨_, rfl⟩
                      obtain ⟨hP, hD, hS, hl⟩ := hI
                      have hP : va_P (dC, dI) vwCl [(rd, .inr (0, [.ref tp, .ref sc, .int xf, .int xp, .int 2, .int y_670, .int y_946, .int y_947, .int xj])), (tp, .inr (6, [.ref tb, .int ts])), (tb, .inl (cB, 1200, .inl fb))] H := hP
                      have hD : va_D A [(rd, .inr (0, [.ref tp, .ref sc, .int xf, .int xp, .int 2, .int y_670, .int y_946, .int y_947, .int xj])), (tp, .inr (6, [.ref tb, .int ts])), (tb, .inl (cB, 1200, .inl fb))] := hD
                      have hl : lv_has ls 3 [(2, .int ts), (1, .ref tb), (0, .ref rd)] := hl
                      refine va_put (D := (dC, dI)) (ci := 0) (v := .int y_974) (ty := .int) (C := RX1) (T := TX1) (N := 9) hx hb hts iX1_advance0_X1 tyX1 tyX1_ok nmX1 hown hK hP hD hS 0 rfl rfl 7 (by decide) (hts (.fieldLink RX1 172 "LuckyTicket$Reader" "value" "I") (List.mem_of_getElem? (i := 4) rfl)) (fun _ h9 => h9) rfl (by decide +kernel) rfl rfl (Nat.le_of_ble_eq_true rfl) dX1_advance_250 (fun H locs hP hD hS => ?_)
                      have hP : va_P (dC, dI) vwCl [(rd, .inr (0, [.ref tp, .ref sc, .int xf, .int xp, .int 2, .int y_670, .int y_946, .int y_974, .int xj])), (tp, .inr (6, [.ref tb, .int ts])), (tb, .inl (cB, 1200, .inl fb))] H := hP
                      have hD : va_D A [(rd, .inr (0, [.ref tp, .ref sc, .int xf, .int xp, .int 2, .int y_670, .int y_946, .int y_974, .int xj])), (tp, .inr (6, [.ref tb, .int ts])), (tb, .inl (cB, 1200, .inl fb))] := hD
                      refine lv_aload_n hx hb dX1_advance_253 rfl (lv_at hl 2 rfl) ?_
                      refine lv_dup hx hb dX1_advance_254 rfl ?_
                      refine va_get (D := (dC, dI)) (ci := 0) (v := .int y_946) (C := RX1) (T := TX1) (N := 9) hx hb hts iX1_advance0_X1 hown hK hP 0 rfl rfl 6 (by decide) (hts (.fieldLink RX1 26 "LuckyTicket$Reader" "stop" "I") (List.mem_of_getElem? (i := 2) rfl)) (fun _ h9 => h9) rfl dX1_advance_255 ?_
                      refine lv_iconst (v := 1) hx hb dX1_advance_258 (by decide) ?_
                      refine lv_iadd hx hb dX1_advance_259 ?_
                      refine lv_topi (fun z_975 e_z_975 => ?_)
                      obtain ⟨q_z_975, b_z_975⟩ := ti_add (lo := 1) (hi := 1200) e_z_975 rfl (by decide : (1 : Int32).toInt = 1) b_y_946 (by decide : (1 : Int) ≤ (1 : Int32).toInt ∧ (1 : Int32).toInt ≤ 1) (by decide)
                      refine va_put (D := (dC, dI)) (ci := 0) (v := .int z_975) (ty := .int) (C := RX1) (T := TX1) (N := 9) hx hb hts iX1_advance0_X1 tyX1 tyX1_ok nmX1 hown hK hP hD hS 0 rfl rfl 6 (by decide) (hts (.fieldLink RX1 26 "LuckyTicket$Reader" "stop" "I") (List.mem_of_getElem? (i := 2) rfl)) (fun _ h9 => h9) rfl (by decide +kernel) rfl rfl (Nat.le_of_ble_eq_true rfl) dX1_advance_260 (fun H locs hP hD hS => ?_)
                      have hP : va_P (dC, dI) vwCl [(rd, .inr (0, [.ref tp, .ref sc, .int xf, .int xp, .int 2, .int y_670, .int z_975, .int y_974, .int xj])), (tp, .inr (6, [.ref tb, .int ts])), (tb, .inl (cB, 1200, .inl fb))] H := hP
                      have hD : va_D A [(rd, .inr (0, [.ref tp, .ref sc, .int xf, .int xp, .int 2, .int y_670, .int z_975, .int y_974, .int xj])), (tp, .inr (6, [.ref tb, .int ts])), (tb, .inl (cB, 1200, .inl fb))] := hD
                      refine lv_goto (tgt := 185) hx hb dX1_advance_263 (by decide) ?_
                      exact ih_185_963 (z_975, y_974) _ _ _ ⟨(show (0 : Int) ≤ z_975.toInt ∧ z_975.toInt ≤ 1200 from (rg_w b_z_975 (by decide) (by decide))), (show y_670.toInt ≤ z_975.toInt from (by have zl : (2 : Int32).toInt = 2 := (by decide); omega)), hP, hD, hS, lv_sub hl [0, 1, 2] rfl⟩ (show (1200 - z_975.toInt).toNat < (1200 - y_946.toInt).toNat by omega)
                    ·
                      refine lv_icmp_le (tgt := 233) hx hb dX1_advance_223 (by decide) (fun c_969 => ?_) (fun c_969 => ?_)
                      ·
                        have n_c_969 : (y_947.toInt : Int) ≤ 1000 := c_le rfl (by decide) c_969
                        have b_y_947 : (-2147483648 : Int) ≤ y_947.toInt ∧ y_947.toInt ≤ 1000 := r_le1 (ti_rng y_947) (by decide : (1000 : Int) ≤ (1000 : Int32).toInt ∧ (1000 : Int32).toInt ≤ 1000) n_c_969 (by decide)
                        refine lv_aload_n hx hb dX1_advance_233 rfl (lv_at hl 2 rfl) ?_
                        refine va_get (D := (dC, dI)) (ci := 0) (v := .int y_947) (C := RX1) (T := TX1) (N := 9) hx hb hts iX1_advance0_X1 hown hK hP 0 rfl rfl 7 (by decide) (hts (.fieldLink RX1 172 "LuckyTicket$Reader" "value" "I") (List.mem_of_getElem? (i := 4) rfl)) (fun _ h9 => h9) rfl dX1_advance_234 ?_
                        refine lv_bipush (v := 10) hx hb dX1_advance_237 (by decide) ?_
                        refine lv_imul hx hb dX1_advance_239 ?_
                        refine lv_topi (fun z_976 e_z_976 => ?_)
                        refine lv_aload_n hx hb dX1_advance_240 rfl (lv_at hl 1 rfl) ?_
                        refine lv_aload_n hx hb dX1_advance_241 rfl (lv_at hl 2 rfl) ?_
                        refine va_get (D := (dC, dI)) (ci := 0) (v := .int y_946) (C := RX1) (T := TX1) (N := 9) hx hb hts iX1_advance0_X1 hown hK hP 0 rfl rfl 6 (by decide) (hts (.fieldLink RX1 26 "LuckyTicket$Reader" "stop" "I") (List.mem_of_getElem? (i := 2) rfl)) (fun _ h9 => h9) rfl dX1_advance_242 ?_
                        refine va_bald hx hb hK hP 2 0 rfl rfl (vp_in_b b_y_946 (by decide) (by decide)) dX1_advance_245 ?_
                        refine lv_topi (fun z_977 e_z_977 => ?_)
                        refine lv_iadd hx hb dX1_advance_246 ?_
                        refine lv_topi (fun z_978 e_z_978 => ?_)
                        refine lv_bipush (v := 48) hx hb dX1_advance_247 (by decide) ?_
                        refine lv_isub hx hb dX1_advance_249 ?_
                        refine lv_topi (fun z_979 e_z_979 => ?_)
                        exact hj_250_974 z_979 _ _ _ ⟨hP, hD, hS, lv_sub hl [0, 1, 2] rfl⟩
                      ·
                        have n_c_969 : (1000 : Int) < y_947.toInt := c_nle rfl (by decide) c_969
                        have b_y_947 : (1001 : Int) ≤ y_947.toInt ∧ y_947.toInt ≤ 2147483647 := r_lt2 (by decide : (1000 : Int) ≤ (1000 : Int32).toInt ∧ (1000 : Int32).toInt ≤ 1000) (ti_rng y_947) n_c_969 (by decide)
                        refine lv_aload_n hx hb dX1_advance_226 rfl (lv_at hl 2 rfl) ?_
                        refine va_get (D := (dC, dI)) (ci := 0) (v := .int y_947) (C := RX1) (T := TX1) (N := 9) hx hb hts iX1_advance0_X1 hown hK hP 0 rfl rfl 7 (by decide) (hts (.fieldLink RX1 172 "LuckyTicket$Reader" "value" "I") (List.mem_of_getElem? (i := 4) rfl)) (fun _ h9 => h9) rfl dX1_advance_227 ?_
                        refine lv_goto (tgt := 250) hx hb dX1_advance_230 (by decide) ?_
                        exact hj_250_974 y_947 _ _ _ ⟨hP, hD, hS, lv_sub hl [0, 1, 2] rfl⟩
        ·
          have n_c_914 : (z_913.toInt : Int) ≤ 122 := c_ngt rfl (by decide) c_914
          have b_z_913 : (-2147483648 : Int) ≤ z_913.toInt ∧ z_913.toInt ≤ 122 := r_le1 (ti_rng z_913) (by decide : (122 : Int) ≤ (122 : Int32).toInt ∧ (122 : Int32).toInt ≤ 122) n_c_914 (by decide)
          refine lv_aload_n hx hb dX1_advance_110 rfl (lv_at hl 2 rfl) ?_
          refine lv_iconst (v := 1) hx hb dX1_advance_111 (by decide) ?_
          refine va_put (D := (dC, dI)) (ci := 0) (v := .int 1) (ty := .int) (C := RX1) (T := TX1) (N := 9) hx hb hts iX1_advance0_X1 tyX1 tyX1_ok nmX1 hown hK hP hD hS 0 rfl rfl 4 (by decide) (hts (.fieldLink RX1 39 "LuckyTicket$Reader" "token" "I") (List.mem_of_getElem? (i := 5) rfl)) (fun _ h9 => h9) rfl (by decide +kernel) rfl rfl (Nat.le_of_ble_eq_true rfl) dX1_advance_112 (fun H locs hP hD hS => ?_)
          have hP : va_P (dC, dI) vwCl [(rd, .inr (0, [.ref tp, .ref sc, .int xf, .int xp, .int 1, .int y_670, .int y_670, .int 0, .int xj])), (tp, .inr (6, [.ref tb, .int ts])), (tb, .inl (cB, 1200, .inl fb))] H := hP
          have hD : va_D A [(rd, .inr (0, [.ref tp, .ref sc, .int xf, .int xp, .int 1, .int y_670, .int y_670, .int 0, .int xj])), (tp, .inr (6, [.ref tb, .int ts])), (tb, .inl (cB, 1200, .inl fb))] := hD
          refine loopW (σ := Int32) (fun v => (1200 - v.toInt).toNat) (fun v H locs ls => ((0 : Int) ≤ v.toInt ∧ v.toInt ≤ 1200) ∧ (y_670.toInt ≤ v.toInt) ∧ va_P (dC, dI) vwCl [(rd, .inr (0, [.ref tp, .ref sc, .int xf, .int xp, .int 1, .int y_670, .int v, .int 0, .int xj])), (tp, .inr (6, [.ref tb, .int ts])), (tb, .inl (cB, 1200, .inl fb))] H ∧ va_D A [(rd, .inr (0, [.ref tp, .ref sc, .int xf, .int xp, .int 1, .int y_670, .int v, .int 0, .int xj])), (tp, .inr (6, [.ref tb, .int ts])), (tb, .inl (cB, 1200, .inl fb))] ∧ va_S A s.heap H locs ∧ lv_has ls 3 [(2, .int ts), (1, .ref tb), (0, .ref rd)]) (fun v H locs ls hI ih_115_992 => ?_) y_670 ⟨(show (0 : Int) ≤ y_670.toInt ∧ y_670.toInt ≤ 1200 from (rg_w b_y_670 (by decide) (by decide))), (show y_670.toInt ≤ y_670.toInt from (by have zl : (1 : Int32).toInt = 1 := (by decide); have zl : (0 : Int32).toInt = 0 := (by decide); omega)), hP, hD, hS, lv_sub hl [0, 1, 2] rfl⟩
          obtain ⟨y_986, rfl⟩ : ∃ z, z = v := ⟨_, rfl⟩
          obtain ⟨b_y_986, hss, hP, hD, hS, hl⟩ := hI
          have b_y_986 : (0 : Int) ≤ y_986.toInt ∧ y_986.toInt ≤ 1200 := b_y_986
          have hss : y_670.toInt ≤ y_986.toInt := hss
          have hP : va_P (dC, dI) vwCl [(rd, .inr (0, [.ref tp, .ref sc, .int xf, .int xp, .int 1, .int y_670, .int y_986, .int 0, .int xj])), (tp, .inr (6, [.ref tb, .int ts])), (tb, .inl (cB, 1200, .inl fb))] H := hP
          have hD : va_D A [(rd, .inr (0, [.ref tp, .ref sc, .int xf, .int xp, .int 1, .int y_670, .int y_986, .int 0, .int xj])), (tp, .inr (6, [.ref tb, .int ts])), (tb, .inl (cB, 1200, .inl fb))] := hD
          have hl : lv_has ls 3 [(2, .int ts), (1, .ref tb), (0, .ref rd)] := hl
          refine lv_aload_n hx hb dX1_advance_115 rfl (lv_at hl 2 rfl) ?_
          refine va_get (D := (dC, dI)) (ci := 0) (v := .int y_986) (C := RX1) (T := TX1) (N := 9) hx hb hts iX1_advance0_X1 hown hK hP 0 rfl rfl 6 (by decide) (hts (.fieldLink RX1 26 "LuckyTicket$Reader" "stop" "I") (List.mem_of_getElem? (i := 2) rfl)) (fun _ h9 => h9) rfl dX1_advance_116 ?_
          refine lv_iload_n hx hb dX1_advance_119 rfl (lv_at hl 0 rfl) ?_
          refine lv_icmp_ge (tgt := 322) hx hb dX1_advance_120 (by decide) (fun c_993 => ?_) (fun c_993 => ?_)
          ·
            have n_c_993 : (ts.toInt : Int) ≤ y_986.toInt := c_ge rfl rfl c_993
            have b_y_986 : (1 : Int) ≤ y_986.toInt ∧ y_986.toInt ≤ 1200 := r_le2 b_ts b_y_986 n_c_993 (by decide)
            have hP9 := hP.sub (ws' := [(rd, .inr (0, [.ref tp, .ref sc, .int xf, .int xp, .int 1, .int y_670, .int y_986, .int 0, .int xj])), (tp, .inr (6, [.ref tb, .int ts])), (tb, .inl (cB, 1200, .inl fb))]) [0, 1, 2] rfl
            have hD9 := hD.sub (ws' := [(rd, .inr (0, [.ref tp, .ref sc, .int xf, .int xp, .int 1, .int y_670, .int y_986, .int 0, .int xj])), (tp, .inr (6, [.ref tb, .int ts])), (tb, .inl (cB, 1200, .inl fb))]) [0, 1, 2] (by decide) rfl
            have hK9 := hK.sub (tys' := [(cB, .byte)]) [0] rfl
            exact W.vret hx hb hr (fun t ht hW => ⟨⟨(), rfl, trivial, 1, y_670, y_986, 0, (rg_w (by decide : (1 : Int) ≤ (1 : Int32).toInt ∧ (1 : Int32).toInt ≤ 1) (by decide) (by decide)), (rg_w b_y_670 (by decide) (by decide)), (rg_w b_y_986 (by decide) (by decide)), (by omega), by rw [ht]; exact hP9, va_K.moved hW.alike hK9, hD9⟩, hS.F ht⟩) hS.2.2 dX1_advance_322
          ·
            have n_c_993 : (y_986.toInt : Int) < ts.toInt := c_nge rfl rfl c_993
            have b_y_986 : (0 : Int) ≤ y_986.toInt ∧ y_986.toInt ≤ 1199 := r_lt1 b_y_986 b_ts n_c_993 (by decide)
            refine lv_aload_n hx hb dX1_advance_123 rfl (lv_at hl 1 rfl) ?_
            refine lv_aload_n hx hb dX1_advance_124 rfl (lv_at hl 2 rfl) ?_
            refine va_get (D := (dC, dI)) (ci := 0) (v := .int y_986) (C := RX1) (T := TX1) (N := 9) hx hb hts iX1_advance0_X1 hown hK hP 0 rfl rfl 6 (by decide) (hts (.fieldLink RX1 26 "LuckyTicket$Reader" "stop" "I") (List.mem_of_getElem? (i := 2) rfl)) (fun _ h9 => h9) rfl dX1_advance_125 ?_
            refine va_bald hx hb hK hP 2 0 rfl rfl (vp_in_b b_y_986 (by decide) (by decide)) dX1_advance_128 ?_
            refine lv_topi (fun z_994 e_z_994 => ?_)
            refine lv_bipush (v := 97) hx hb dX1_advance_129 (by decide) ?_
            refine lv_icmp_lt (tgt := 322) hx hb dX1_advance_131 (by decide) (fun c_995 => ?_) (fun c_995 => ?_)
            ·
              have n_c_995 : (z_994.toInt : Int) < 97 := c_lt rfl (by decide) c_995
              have b_z_994 : (-2147483648 : Int) ≤ z_994.toInt ∧ z_994.toInt ≤ 96 := r_lt1 (ti_rng z_994) (by decide : (97 : Int) ≤ (97 : Int32).toInt ∧ (97 : Int32).toInt ≤ 97) n_c_995 (by decide)
              have hP9 := hP.sub (ws' := [(rd, .inr (0, [.ref tp, .ref sc, .int xf, .int xp, .int 1, .int y_670, .int y_986, .int 0, .int xj])), (tp, .inr (6, [.ref tb, .int ts])), (tb, .inl (cB, 1200, .inl fb))]) [0, 1, 2] rfl
              have hD9 := hD.sub (ws' := [(rd, .inr (0, [.ref tp, .ref sc, .int xf, .int xp, .int 1, .int y_670, .int y_986, .int 0, .int xj])), (tp, .inr (6, [.ref tb, .int ts])), (tb, .inl (cB, 1200, .inl fb))]) [0, 1, 2] (by decide) rfl
              have hK9 := hK.sub (tys' := [(cB, .byte)]) [0] rfl
              exact W.vret hx hb hr (fun t ht hW => ⟨⟨(), rfl, trivial, 1, y_670, y_986, 0, (rg_w (by decide : (1 : Int) ≤ (1 : Int32).toInt ∧ (1 : Int32).toInt ≤ 1) (by decide) (by decide)), (rg_w b_y_670 (by decide) (by decide)), (rg_w b_y_986 (by decide) (by decide)), (by omega), by rw [ht]; exact hP9, va_K.moved hW.alike hK9, hD9⟩, hS.F ht⟩) hS.2.2 dX1_advance_322
            ·
              have n_c_995 : (97 : Int) ≤ z_994.toInt := c_nlt rfl (by decide) c_995
              have b_z_994 : (97 : Int) ≤ z_994.toInt ∧ z_994.toInt ≤ 2147483647 := r_le2 (by decide : (97 : Int) ≤ (97 : Int32).toInt ∧ (97 : Int32).toInt ≤ 97) (ti_rng z_994) n_c_995 (by decide)
              refine lv_aload_n hx hb dX1_advance_134 rfl (lv_at hl 1 rfl) ?_
              refine lv_aload_n hx hb dX1_advance_135 rfl (lv_at hl 2 rfl) ?_
              refine va_get (D := (dC, dI)) (ci := 0) (v := .int y_986) (C := RX1) (T := TX1) (N := 9) hx hb hts iX1_advance0_X1 hown hK hP 0 rfl rfl 6 (by decide) (hts (.fieldLink RX1 26 "LuckyTicket$Reader" "stop" "I") (List.mem_of_getElem? (i := 2) rfl)) (fun _ h9 => h9) rfl dX1_advance_136 ?_
              refine va_bald hx hb hK hP 2 0 rfl rfl (vp_in_b b_y_986 (by decide) (by decide)) dX1_advance_139 ?_
              refine lv_topi (fun z_996 e_z_996 => ?_)
              refine lv_bipush (v := 122) hx hb dX1_advance_140 (by decide) ?_
              refine lv_icmp_gt (tgt := 322) hx hb dX1_advance_142 (by decide) (fun c_997 => ?_) (fun c_997 => ?_)
              ·
                have n_c_997 : (122 : Int) < z_996.toInt := c_gt rfl (by decide) c_997
                have b_z_996 : (123 : Int) ≤ z_996.toInt ∧ z_996.toInt ≤ 2147483647 := r_lt2 (by decide : (122 : Int) ≤ (122 : Int32).toInt ∧ (122 : Int32).toInt ≤ 122) (ti_rng z_996) n_c_997 (by decide)
                have hP9 := hP.sub (ws' := [(rd, .inr (0, [.ref tp, .ref sc, .int xf, .int xp, .int 1, .int y_670, .int y_986, .int 0, .int xj])), (tp, .inr (6, [.ref tb, .int ts])), (tb, .inl (cB, 1200, .inl fb))]) [0, 1, 2] rfl
                have hD9 := hD.sub (ws' := [(rd, .inr (0, [.ref tp, .ref sc, .int xf, .int xp, .int 1, .int y_670, .int y_986, .int 0, .int xj])), (tp, .inr (6, [.ref tb, .int ts])), (tb, .inl (cB, 1200, .inl fb))]) [0, 1, 2] (by decide) rfl
                have hK9 := hK.sub (tys' := [(cB, .byte)]) [0] rfl
                exact W.vret hx hb hr (fun t ht hW => ⟨⟨(), rfl, trivial, 1, y_670, y_986, 0, (rg_w (by decide : (1 : Int) ≤ (1 : Int32).toInt ∧ (1 : Int32).toInt ≤ 1) (by decide) (by decide)), (rg_w b_y_670 (by decide) (by decide)), (rg_w b_y_986 (by decide) (by decide)), (by omega), by rw [ht]; exact hP9, va_K.moved hW.alike hK9, hD9⟩, hS.F ht⟩) hS.2.2 dX1_advance_322
              ·
                have n_c_997 : (z_996.toInt : Int) ≤ 122 := c_ngt rfl (by decide) c_997
                have b_z_996 : (-2147483648 : Int) ≤ z_996.toInt ∧ z_996.toInt ≤ 122 := r_le1 (ti_rng z_996) (by decide : (122 : Int) ≤ (122 : Int32).toInt ∧ (122 : Int32).toInt ≤ 122) n_c_997 (by decide)
                refine lv_aload_n hx hb dX1_advance_145 rfl (lv_at hl 2 rfl) ?_
                refine lv_dup hx hb dX1_advance_146 rfl ?_
                refine va_get (D := (dC, dI)) (ci := 0) (v := .int y_986) (C := RX1) (T := TX1) (N := 9) hx hb hts iX1_advance0_X1 hown hK hP 0 rfl rfl 6 (by decide) (hts (.fieldLink RX1 26 "LuckyTicket$Reader" "stop" "I") (List.mem_of_getElem? (i := 2) rfl)) (fun _ h9 => h9) rfl dX1_advance_147 ?_
                refine lv_iconst (v := 1) hx hb dX1_advance_150 (by decide) ?_
                refine lv_iadd hx hb dX1_advance_151 ?_
                refine lv_topi (fun z_998 e_z_998 => ?_)
                obtain ⟨q_z_998, b_z_998⟩ := ti_add (lo := 1) (hi := 1200) e_z_998 rfl (by decide : (1 : Int32).toInt = 1) b_y_986 (by decide : (1 : Int) ≤ (1 : Int32).toInt ∧ (1 : Int32).toInt ≤ 1) (by decide)
                refine va_put (D := (dC, dI)) (ci := 0) (v := .int z_998) (ty := .int) (C := RX1) (T := TX1) (N := 9) hx hb hts iX1_advance0_X1 tyX1 tyX1_ok nmX1 hown hK hP hD hS 0 rfl rfl 6 (by decide) (hts (.fieldLink RX1 26 "LuckyTicket$Reader" "stop" "I") (List.mem_of_getElem? (i := 2) rfl)) (fun _ h9 => h9) rfl (by decide +kernel) rfl rfl (Nat.le_of_ble_eq_true rfl) dX1_advance_152 (fun H locs hP hD hS => ?_)
                have hP : va_P (dC, dI) vwCl [(rd, .inr (0, [.ref tp, .ref sc, .int xf, .int xp, .int 1, .int y_670, .int z_998, .int 0, .int xj])), (tp, .inr (6, [.ref tb, .int ts])), (tb, .inl (cB, 1200, .inl fb))] H := hP
                have hD : va_D A [(rd, .inr (0, [.ref tp, .ref sc, .int xf, .int xp, .int 1, .int y_670, .int z_998, .int 0, .int xj])), (tp, .inr (6, [.ref tb, .int ts])), (tb, .inl (cB, 1200, .inl fb))] := hD
                refine lv_goto (tgt := 115) hx hb dX1_advance_155 (by decide) ?_
                exact ih_115_992 z_998 _ _ _ ⟨(show (0 : Int) ≤ z_998.toInt ∧ z_998.toInt ≤ 1200 from (rg_w b_z_998 (by decide) (by decide))), (show y_670.toInt ≤ z_998.toInt from (by have zl : (1 : Int32).toInt = 1 := (by decide); have zl : (0 : Int32).toInt = 0 := (by decide); omega)), hP, hD, hS, lv_sub hl [0, 1, 2] rfl⟩ (show (1200 - z_998.toInt).toNat < (1200 - y_986.toInt).toNat by omega)
    ·
      have n_c_845 : (ts.toInt : Int) ≤ y_670.toInt := c_nlt rfl rfl c_845
      refine lv_aload_n hx hb dX1_advance_80 rfl (lv_at hl 2 rfl) ?_
      refine lv_iconst (v := 0) hx hb dX1_advance_81 (by decide) ?_
      refine va_put (D := (dC, dI)) (ci := 0) (v := .int 0) (ty := .int) (C := RX1) (T := TX1) (N := 9) hx hb hts iX1_advance0_X1 tyX1 tyX1_ok nmX1 hown hK hP hD hS 0 rfl rfl 4 (by decide) (hts (.fieldLink RX1 39 "LuckyTicket$Reader" "token" "I") (List.mem_of_getElem? (i := 5) rfl)) (fun _ h9 => h9) rfl (by decide +kernel) rfl rfl (Nat.le_of_ble_eq_true rfl) dX1_advance_82 (fun H locs hP hD hS => ?_)
      have hP : va_P (dC, dI) vwCl [(rd, .inr (0, [.ref tp, .ref sc, .int xf, .int xp, .int 0, .int y_670, .int y_670, .int 0, .int xj])), (tp, .inr (6, [.ref tb, .int ts])), (tb, .inl (cB, 1200, .inl fb))] H := hP
      have hD : va_D A [(rd, .inr (0, [.ref tp, .ref sc, .int xf, .int xp, .int 0, .int y_670, .int y_670, .int 0, .int xj])), (tp, .inr (6, [.ref tb, .int ts])), (tb, .inl (cB, 1200, .inl fb))] := hD
      refine lv_goto (tgt := 322) hx hb dX1_advance_85 (by decide) ?_
      have hP9 := hP.sub (ws' := [(rd, .inr (0, [.ref tp, .ref sc, .int xf, .int xp, .int 0, .int y_670, .int y_670, .int 0, .int xj])), (tp, .inr (6, [.ref tb, .int ts])), (tb, .inl (cB, 1200, .inl fb))]) [0, 1, 2] rfl
      have hD9 := hD.sub (ws' := [(rd, .inr (0, [.ref tp, .ref sc, .int xf, .int xp, .int 0, .int y_670, .int y_670, .int 0, .int xj])), (tp, .inr (6, [.ref tb, .int ts])), (tb, .inl (cB, 1200, .inl fb))]) [0, 1, 2] (by decide) rfl
      have hK9 := hK.sub (tys' := [(cB, .byte)]) [0] rfl
      exact W.vret hx hb hr (fun t ht hW => ⟨⟨(), rfl, trivial, 0, y_670, y_670, 0, (rg_w (by decide : (0 : Int) ≤ (0 : Int32).toInt ∧ (0 : Int32).toInt ≤ 0) (by decide) (by decide)), b_y_670, b_y_670, (by omega), by rw [ht]; exact hP9, va_K.moved hW.alike hK9, hD9⟩, hS.F ht⟩) hS.2.2 dX1_advance_322
  ·
    refine lv_icmp_ge (tgt := 59) hx hb dX1_advance_21 (by decide) (fun c_838 => ?_) (fun c_838 => ?_)
    ·
      have n_c_838 : (ts.toInt : Int) ≤ y_670.toInt := c_ge rfl rfl c_838
      exact hj_59_844 () _ _ _ ⟨hP, hD, hS, lv_sub hl [0, 1, 2] rfl⟩
    ·
      have n_c_838 : (y_670.toInt : Int) < ts.toInt := c_nge rfl rfl c_838
      have b_y_670 : (0 : Int) ≤ y_670.toInt ∧ y_670.toInt ≤ 1199 := r_lt1 b_y_670 b_ts n_c_838 (by decide)
      have b_ts : (1 : Int) ≤ ts.toInt ∧ ts.toInt ≤ 1200 := r_lt2 b_y_670 b_ts n_c_838 (by decide)
      refine lv_aload_n hx hb dX1_advance_24 rfl (lv_at hl 1 rfl) ?_
      refine lv_aload_n hx hb dX1_advance_25 rfl (lv_at hl 2 rfl) ?_
      refine va_get (D := (dC, dI)) (ci := 0) (v := .int y_670) (C := RX1) (T := TX1) (N := 9) hx hb hts iX1_advance0_X1 hown hK hP 0 rfl rfl 6 (by decide) (hts (.fieldLink RX1 26 "LuckyTicket$Reader" "stop" "I") (List.mem_of_getElem? (i := 2) rfl)) (fun _ h9 => h9) rfl dX1_advance_26 ?_
      refine va_bald hx hb hK hP 2 0 rfl rfl (vp_in_b b_y_670 (by decide) (by decide)) dX1_advance_29 ?_
      refine lv_topi (fun z_999 e_z_999 => ?_)
      refine lv_bipush (v := 32) hx hb dX1_advance_30 (by decide) ?_
      refine lv_icmp_eq (tgt := 46) hx hb dX1_advance_32 (by decide) (fun c_1000 => ?_) (fun c_1000 => ?_)
      ·
        have n_c_1000 : (z_999.toInt : Int) = 32 := c_eq rfl (by decide) c_1000
        have b_z_999 : (32 : Int) ≤ z_999.toInt ∧ z_999.toInt ≤ 32 := r_eq1 (ti_rng z_999) (by decide : (32 : Int) ≤ (32 : Int32).toInt ∧ (32 : Int32).toInt ≤ 32) n_c_1000 (by decide)
        refine lv_aload_n hx hb dX1_advance_46 rfl (lv_at hl 2 rfl) ?_
        refine lv_dup hx hb dX1_advance_47 rfl ?_
        refine va_get (D := (dC, dI)) (ci := 0) (v := .int y_670) (C := RX1) (T := TX1) (N := 9) hx hb hts iX1_advance0_X1 hown hK hP 0 rfl rfl 6 (by decide) (hts (.fieldLink RX1 26 "LuckyTicket$Reader" "stop" "I") (List.mem_of_getElem? (i := 2) rfl)) (fun _ h9 => h9) rfl dX1_advance_48 ?_
        refine lv_iconst (v := 1) hx hb dX1_advance_51 (by decide) ?_
        refine lv_iadd hx hb dX1_advance_52 ?_
        refine lv_topi (fun z_1001 e_z_1001 => ?_)
        obtain ⟨q_z_1001, b_z_1001⟩ := ti_add (lo := 1) (hi := 1200) e_z_1001 rfl (by decide : (1 : Int32).toInt = 1) b_y_670 (by decide : (1 : Int) ≤ (1 : Int32).toInt ∧ (1 : Int32).toInt ≤ 1) (by decide)
        refine va_put (D := (dC, dI)) (ci := 0) (v := .int z_1001) (ty := .int) (C := RX1) (T := TX1) (N := 9) hx hb hts iX1_advance0_X1 tyX1 tyX1_ok nmX1 hown hK hP hD hS 0 rfl rfl 6 (by decide) (hts (.fieldLink RX1 26 "LuckyTicket$Reader" "stop" "I") (List.mem_of_getElem? (i := 2) rfl)) (fun _ h9 => h9) rfl (by decide +kernel) rfl rfl (Nat.le_of_ble_eq_true rfl) dX1_advance_53 (fun H locs hP hD hS => ?_)
        have hP : va_P (dC, dI) vwCl [(rd, .inr (0, [.ref tp, .ref sc, .int xf, .int xp, .int xt, .int xa, .int z_1001, .int xv, .int xj])), (tp, .inr (6, [.ref tb, .int ts])), (tb, .inl (cB, 1200, .inl fb))] H := hP
        have hD : va_D A [(rd, .inr (0, [.ref tp, .ref sc, .int xf, .int xp, .int xt, .int xa, .int z_1001, .int xv, .int xj])), (tp, .inr (6, [.ref tb, .int ts])), (tb, .inl (cB, 1200, .inl fb))] := hD
        refine lv_goto (tgt := 16) hx hb dX1_advance_56 (by decide) ?_
        exact ih_16_837 z_1001 _ _ _ ⟨(show (0 : Int) ≤ z_1001.toInt ∧ z_1001.toInt ≤ 1200 from (rg_w b_z_1001 (by decide) (by decide))), hP, hD, hS, lv_sub hl [0, 1, 2] rfl⟩ (show (1200 - z_1001.toInt).toNat < (1200 - y_670.toInt).toNat by omega)
      ·
        have n_c_1000 : (z_999.toInt : Int) ≠ 32 := c_ne rfl (by decide) c_1000
        refine lv_aload_n hx hb dX1_advance_35 rfl (lv_at hl 1 rfl) ?_
        refine lv_aload_n hx hb dX1_advance_36 rfl (lv_at hl 2 rfl) ?_
        refine va_get (D := (dC, dI)) (ci := 0) (v := .int y_670) (C := RX1) (T := TX1) (N := 9) hx hb hts iX1_advance0_X1 hown hK hP 0 rfl rfl 6 (by decide) (hts (.fieldLink RX1 26 "LuckyTicket$Reader" "stop" "I") (List.mem_of_getElem? (i := 2) rfl)) (fun _ h9 => h9) rfl dX1_advance_37 ?_
        refine va_bald hx hb hK hP 2 0 rfl rfl (vp_in_b b_y_670 (by decide) (by decide)) dX1_advance_40 ?_
        refine lv_topi (fun z_1002 e_z_1002 => ?_)
        refine lv_bipush (v := 10) hx hb dX1_advance_41 (by decide) ?_
        refine lv_icmp_ne (tgt := 59) hx hb dX1_advance_43 (by decide) (fun c_1003 => ?_) (fun c_1003 => ?_)
        ·
          have n_c_1003 : (z_1002.toInt : Int) ≠ 10 := c_ne rfl (by decide) c_1003
          exact hj_59_844 () _ _ _ ⟨hP, hD, hS, lv_sub hl [0, 1, 2] rfl⟩
        ·
          have n_c_1003 : (z_1002.toInt : Int) = 10 := c_eq rfl (by decide) c_1003
          have b_z_1002 : (10 : Int) ≤ z_1002.toInt ∧ z_1002.toInt ≤ 10 := r_eq1 (ti_rng z_1002) (by decide : (10 : Int) ≤ (10 : Int32).toInt ∧ (10 : Int32).toInt ≤ 10) n_c_1003 (by decide)
          refine lv_aload_n hx hb dX1_advance_46 rfl (lv_at hl 2 rfl) ?_
          refine lv_dup hx hb dX1_advance_47 rfl ?_
          refine va_get (D := (dC, dI)) (ci := 0) (v := .int y_670) (C := RX1) (T := TX1) (N := 9) hx hb hts iX1_advance0_X1 hown hK hP 0 rfl rfl 6 (by decide) (hts (.fieldLink RX1 26 "LuckyTicket$Reader" "stop" "I") (List.mem_of_getElem? (i := 2) rfl)) (fun _ h9 => h9) rfl dX1_advance_48 ?_
          refine lv_iconst (v := 1) hx hb dX1_advance_51 (by decide) ?_
          refine lv_iadd hx hb dX1_advance_52 ?_
          refine lv_topi (fun z_1004 e_z_1004 => ?_)
          obtain ⟨q_z_1004, b_z_1004⟩ := ti_add (lo := 1) (hi := 1200) e_z_1004 rfl (by decide : (1 : Int32).toInt = 1) b_y_670 (by decide : (1 : Int) ≤ (1 : Int32).toInt ∧ (1 : Int32).toInt ≤ 1) (by decide)
          refine va_put (D := (dC, dI)) (ci := 0) (v := .int z_1004) (ty := .int) (C := RX1) (T := TX1) (N := 9) hx hb hts iX1_advance0_X1 tyX1 tyX1_ok nmX1 hown hK hP hD hS 0 rfl rfl 6 (by decide) (hts (.fieldLink RX1 26 "LuckyTicket$Reader" "stop" "I") (List.mem_of_getElem? (i := 2) rfl)) (fun _ h9 => h9) rfl (by decide +kernel) rfl rfl (Nat.le_of_ble_eq_true rfl) dX1_advance_53 (fun H locs hP hD hS => ?_)
          have hP : va_P (dC, dI) vwCl [(rd, .inr (0, [.ref tp, .ref sc, .int xf, .int xp, .int xt, .int xa, .int z_1004, .int xv, .int xj])), (tp, .inr (6, [.ref tb, .int ts])), (tb, .inl (cB, 1200, .inl fb))] H := hP
          have hD : va_D A [(rd, .inr (0, [.ref tp, .ref sc, .int xf, .int xp, .int xt, .int xa, .int z_1004, .int xv, .int xj])), (tp, .inr (6, [.ref tb, .int ts])), (tb, .inl (cB, 1200, .inl fb))] := hD
          refine lv_goto (tgt := 16) hx hb dX1_advance_56 (by decide) ?_
          exact ih_16_837 z_1004 _ _ _ ⟨(show (0 : Int) ≤ z_1004.toInt ∧ z_1004.toInt ≤ 1200 from (rg_w b_z_1004 (by decide) (by decide))), hP, hD, hS, lv_sub hl [0, 1, 2] rfl⟩ (show (1200 - z_1004.toInt).toNat < (1200 - y_670.toInt).toNat by omega)
theorem dX1_readTape_0 : decode cX1_readTape 0 = .ok (.aload_n 0, 1) := by decide +kernel
theorem dX1_readTape_1 : decode cX1_readTape 1 = .ok (.iconst 0, 1) := by decide +kernel
theorem dX1_readTape_2 : decode cX1_readTape 2 = .ok (.putfield 23, 3) := by decide +kernel
theorem dX1_readTape_5 : decode cX1_readTape 5 = .ok (.aload_n 0, 1) := by decide +kernel
theorem dX1_readTape_6 : decode cX1_readTape 6 = .ok (.iconst (-1), 1) := by decide +kernel
theorem dX1_readTape_7 : decode cX1_readTape 7 = .ok (.putfield 9, 3) := by decide +kernel
theorem dX1_readTape_10 : decode cX1_readTape 10 = .ok (.aload_n 0, 1) := by decide +kernel
theorem dX1_readTape_11 : decode cX1_readTape 11 = .ok (.iconst 0, 1) := by decide +kernel
theorem dX1_readTape_12 : decode cX1_readTape 12 = .ok (.putfield 26, 3) := by decide +kernel
theorem dX1_readTape_15 : decode cX1_readTape 15 = .ok (.aload_n 0, 1) := by decide +kernel
theorem dX1_readTape_16 : decode cX1_readTape 16 = .ok (.getfield 19, 3) := by decide +kernel
theorem dX1_readTape_19 : decode cX1_readTape 19 = .ok (.invokevirtual 29, 3) := by decide +kernel
theorem dX1_readTape_22 : decode cX1_readTape 22 = .ok (.aload_n 0, 1) := by decide +kernel
theorem dX1_readTape_23 : decode cX1_readTape 23 = .ok (.invokevirtual 34, 3) := by decide +kernel
theorem dX1_readTape_26 : decode cX1_readTape 26 = .ok (.iconst 0, 1) := by decide +kernel
theorem dX1_readTape_27 : decode cX1_readTape 27 = .ok (.istore_n 1, 1) := by decide +kernel
theorem dX1_readTape_28 : decode cX1_readTape 28 = .ok (.iload_n 1, 1) := by decide +kernel
theorem dX1_readTape_29 : decode cX1_readTape 29 = .ok (.sipush 1200, 3) := by decide +kernel
theorem dX1_readTape_32 : decode cX1_readTape 32 = .ok (.if_icmp .ge 75, 3) := by decide +kernel
theorem dX1_readTape_35 : decode cX1_readTape 35 = .ok (.aload_n 0, 1) := by decide +kernel
theorem dX1_readTape_36 : decode cX1_readTape 36 = .ok (.getfield 23, 3) := by decide +kernel
theorem dX1_readTape_39 : decode cX1_readTape 39 = .ok (.ifCond .ne 68, 3) := by decide +kernel
theorem dX1_readTape_42 : decode cX1_readTape 42 = .ok (.aload_n 0, 1) := by decide +kernel
theorem dX1_readTape_43 : decode cX1_readTape 43 = .ok (.getfield 39, 3) := by decide +kernel
theorem dX1_readTape_46 : decode cX1_readTape 46 = .ok (.ifCond .eq 61, 3) := by decide +kernel
theorem dX1_readTape_49 : decode cX1_readTape 49 = .ok (.aload_n 0, 1) := by decide +kernel
theorem dX1_readTape_50 : decode cX1_readTape 50 = .ok (.getfield 19, 3) := by decide +kernel
theorem dX1_readTape_53 : decode cX1_readTape 53 = .ok (.getfield 42, 3) := by decide +kernel
theorem dX1_readTape_56 : decode cX1_readTape 56 = .ok (.ifCond .ne 10, 3) := by decide +kernel
theorem dX1_readTape_59 : decode cX1_readTape 59 = .ok (.aload_n 0, 1) := by decide +kernel
theorem dX1_readTape_60 : decode cX1_readTape 60 = .ok (.invokevirtual 45, 3) := by decide +kernel
theorem dX1_readTape_63 : decode cX1_readTape 63 = .ok (.goto 19, 3) := by decide +kernel
theorem dX1_readTape_66 : decode cX1_readTape 66 = .ok (.aload_n 0, 1) := by decide +kernel
theorem dX1_readTape_67 : decode cX1_readTape 67 = .ok (.invokevirtual 48, 3) := by decide +kernel
theorem dX1_readTape_70 : decode cX1_readTape 70 = .ok (.aload_n 0, 1) := by decide +kernel
theorem dX1_readTape_71 : decode cX1_readTape 71 = .ok (.iconst 0, 1) := by decide +kernel
theorem dX1_readTape_72 : decode cX1_readTape 72 = .ok (.invokevirtual 51, 3) := by decide +kernel
theorem dX1_readTape_75 : decode cX1_readTape 75 = .ok (.aload_n 0, 1) := by decide +kernel
theorem dX1_readTape_76 : decode cX1_readTape 76 = .ok (.getfield 19, 3) := by decide +kernel
theorem dX1_readTape_79 : decode cX1_readTape 79 = .ok (.invokevirtual 55, 3) := by decide +kernel
theorem dX1_readTape_82 : decode cX1_readTape 82 = .ok (.aload_n 0, 1) := by decide +kernel
theorem dX1_readTape_83 : decode cX1_readTape 83 = .ok (.bipush 59, 2) := by decide +kernel
theorem dX1_readTape_85 : decode cX1_readTape 85 = .ok (.invokevirtual 58, 3) := by decide +kernel
theorem dX1_readTape_88 : decode cX1_readTape 88 = .ok (.aload_n 0, 1) := by decide +kernel
theorem dX1_readTape_89 : decode cX1_readTape 89 = .ok (.getfield 19, 3) := by decide +kernel
theorem dX1_readTape_92 : decode cX1_readTape 92 = .ok (.dup, 1) := by decide +kernel
theorem dX1_readTape_93 : decode cX1_readTape 93 = .ok (.getfield 42, 3) := by decide +kernel
theorem dX1_readTape_96 : decode cX1_readTape 96 = .ok (.iconst 1, 1) := by decide +kernel
theorem dX1_readTape_97 : decode cX1_readTape 97 = .ok (.iadd, 1) := by decide +kernel
theorem dX1_readTape_98 : decode cX1_readTape 98 = .ok (.putfield 42, 3) := by decide +kernel
theorem dX1_readTape_101 : decode cX1_readTape 101 = .ok (.iinc 1 1, 3) := by decide +kernel
theorem dX1_readTape_104 : decode cX1_readTape 104 = .ok (.goto (-76), 3) := by decide +kernel
theorem dX1_readTape_107 : decode cX1_readTape 107 = .ok (.return_, 1) := by decide +kernel
theorem hd_yX1_readTape : yX1_readTape.cls = RX1 ∧ yX1_readTape.cls ≠ "java/lang/invoke/MethodHandle" ∧ yX1_readTape.cls ≠ "java/lang/invoke/VarHandle" ∧ (parseMethodDescriptor yX1_readTape.desc).map (fun d => d.parameters.length) = some 0 := by decide +kernel
def uX1_readTape : List Cond := List.cons (.code yX1_readTape cX1_readTape 2 none) (HAppend.hAppend ([.fieldLink RX1 23 "LuckyTicket$Reader" "fault" "I", .fieldLink RX1 9 "LuckyTicket$Reader" "faultPlace" "I", .fieldLink RX1 26 "LuckyTicket$Reader" "stop" "I", .fieldLink RX1 19 "LuckyTicket$Reader" "script" "LLuckyTicket$Script;", .methodLink RX1 29 yX4_clear, .instanceMethod yX4_clear, .selects RX4 yX4_clear yX4_clear, .initialized RX4, .methodLink RX1 34 yX1_advance, .instanceMethod yX1_advance, .selects RX1 yX1_advance yX1_advance, .initialized RX1, .fieldLink RX1 39 "LuckyTicket$Reader" "token" "I", .methodLink RX1 45 yX1_readMeasures, .instanceMethod yX1_readMeasures, .selects RX1 yX1_readMeasures yX1_readMeasures, .methodLink RX1 58 yX1_passSign, .instanceMethod yX1_passSign, .selects RX1 yX1_passSign yX1_passSign, .methodLink RX1 48 yX1_passLawWord, .instanceMethod yX1_passLawWord, .selects RX1 yX1_passLawWord yX1_passLawWord, .methodLink RX1 51 yX1_readLaw, .instanceMethod yX1_readLaw, .selects RX1 yX1_readLaw yX1_readLaw, .methodLink RX1 55 yX4_closeLaw, .instanceMethod yX4_closeLaw, .selects RX4 yX4_closeLaw yX4_closeLaw] : List Cond) (HAppend.hAppend uX4_clear (HAppend.hAppend uX1_advance0 (HAppend.hAppend uX1_readMeasures (HAppend.hAppend uX1_passSign (HAppend.hAppend uX1_passLawWord (HAppend.hAppend uX1_readLaw0 (HAppend.hAppend uX4_closeLaw (HAppend.hAppend wsX10 wsX40)))))))))
theorem iX1_readTape_X1 : ∀ w ∈ wsX10, w ∈ uX1_readTape := fun _ h => (List.mem_cons_of_mem _ (List.mem_append_right _ (List.mem_append_right _ (List.mem_append_right _ (List.mem_append_right _ (List.mem_append_right _ (List.mem_append_right _ (List.mem_append_right _ (List.mem_append_right _ (List.mem_append_left _ h))))))))))
theorem iX1_readTape_X4 : ∀ w ∈ wsX40, w ∈ uX1_readTape := fun _ h => (List.mem_cons_of_mem _ (List.mem_append_right _ (List.mem_append_right _ (List.mem_append_right _ (List.mem_append_right _ (List.mem_append_right _ (List.mem_append_right _ (List.mem_append_right _ (List.mem_append_right _ (List.mem_append_right _ h))))))))))
theorem guX1_readTape : GU uX1_readTape := gu_cons (gu_app (by decide +kernel) (gu_ap guX4_clear (gu_ap guX1_advance0 (gu_ap guX1_readMeasures (gu_ap guX1_passSign (gu_ap guX1_passLawWord (gu_ap guX1_readLaw0 (gu_ap guX4_closeLaw (gu_ap gws_X1 gws_X4)))))))))
theorem gX1_readTape__X4_clear_V29 : GoodIn uX1_readTape (wsV RX1 29 RX4 yX4_clear uX4_clear) := gin_V (List.mem_of_getElem? (i := 5) rfl) (List.mem_of_getElem? (i := 6) rfl) (List.mem_of_getElem? (i := 7) rfl) (List.mem_of_getElem? (i := 8) rfl) (fun _ h => (List.mem_cons_of_mem _ (List.mem_append_right _ (List.mem_append_left _ h)))) guX4_clear
theorem gX1_readTape__X1_advance0_V34 : GoodIn uX1_readTape (wsV RX1 34 RX1 yX1_advance uX1_advance0) := gin_V (List.mem_of_getElem? (i := 9) rfl) (List.mem_of_getElem? (i := 10) rfl) (List.mem_of_getElem? (i := 11) rfl) (List.mem_of_getElem? (i := 12) rfl) (fun _ h => (List.mem_cons_of_mem _ (List.mem_append_right _ (List.mem_append_right _ (List.mem_append_left _ h))))) guX1_advance0
theorem gX1_readTape__X1_readMeasures_V45 : GoodIn uX1_readTape (wsV RX1 45 RX1 yX1_readMeasures uX1_readMeasures) := gin_V (List.mem_of_getElem? (i := 14) rfl) (List.mem_of_getElem? (i := 15) rfl) (List.mem_of_getElem? (i := 16) rfl) (List.mem_of_getElem? (i := 12) rfl) (fun _ h => (List.mem_cons_of_mem _ (List.mem_append_right _ (List.mem_append_right _ (List.mem_append_right _ (List.mem_append_left _ h)))))) guX1_readMeasures
theorem gX1_readTape__X1_passSign_V58 : GoodIn uX1_readTape (wsV RX1 58 RX1 yX1_passSign uX1_passSign) := gin_V (List.mem_of_getElem? (i := 17) rfl) (List.mem_of_getElem? (i := 18) rfl) (List.mem_of_getElem? (i := 19) rfl) (List.mem_of_getElem? (i := 12) rfl) (fun _ h => (List.mem_cons_of_mem _ (List.mem_append_right _ (List.mem_append_right _ (List.mem_append_right _ (List.mem_append_right _ (List.mem_append_left _ h))))))) guX1_passSign
theorem gX1_readTape__X1_passLawWord_V48 : GoodIn uX1_readTape (wsV RX1 48 RX1 yX1_passLawWord uX1_passLawWord) := gin_V (List.mem_of_getElem? (i := 20) rfl) (List.mem_of_getElem? (i := 21) rfl) (List.mem_of_getElem? (i := 22) rfl) (List.mem_of_getElem? (i := 12) rfl) (fun _ h => (List.mem_cons_of_mem _ (List.mem_append_right _ (List.mem_append_right _ (List.mem_append_right _ (List.mem_append_right _ (List.mem_append_right _ (List.mem_append_left _ h)))))))) guX1_passLawWord
theorem gX1_readTape__X1_readLaw0_V51 : GoodIn uX1_readTape (wsV RX1 51 RX1 yX1_readLaw uX1_readLaw0) := gin_V (List.mem_of_getElem? (i := 23) rfl) (List.mem_of_getElem? (i := 24) rfl) (List.mem_of_getElem? (i := 25) rfl) (List.mem_of_getElem? (i := 12) rfl) (fun _ h => (List.mem_cons_of_mem _ (List.mem_append_right _ (List.mem_append_right _ (List.mem_append_right _ (List.mem_append_right _ (List.mem_append_right _ (List.mem_append_right _ (List.mem_append_left _ h))))))))) guX1_readLaw0
theorem gX1_readTape__X4_closeLaw_V55 : GoodIn uX1_readTape (wsV RX1 55 RX4 yX4_closeLaw uX4_closeLaw) := gin_V (List.mem_of_getElem? (i := 26) rfl) (List.mem_of_getElem? (i := 27) rfl) (List.mem_of_getElem? (i := 28) rfl) (List.mem_of_getElem? (i := 8) rfl) (fun _ h => (List.mem_cons_of_mem _ (List.mem_append_right _ (List.mem_append_right _ (List.mem_append_right _ (List.mem_append_right _ (List.mem_append_right _ (List.mem_append_right _ (List.mem_append_right _ (List.mem_append_left _ h)))))))))) guX4_closeLaw
set_option maxHeartbeats 4000000 in
set_option maxRecDepth 100000 in
theorem kX1_readTape (l : Launch) (dC : Nat → ClassId) (dI : Nat → Nat → Nat) (rd : Nat) (xf : Int32) (xp : Int32) (xt : Int32) (xa : Int32) (xo : Int32) (xv : Int32) (xj : Int32) (tp : Nat) (tb : Nat) (ts : Int32) (cB : ClassId) (fb : Nat → Int32) (sc : Nat) (sn : Int32) (sb : Int32) (si : Int32) (sw : Int32) (ss : Int32) (en : Nat) (ki : Nat) (on : Nat) (ot : Nat) (cK : ClassId) (fk : Nat → Int32) (cO : ClassId) (fo : Nat → Int64) (cT : ClassId) (ft : Nat → Int64) (cE : ClassId) (fe : Nat → Int32) (n0 : Nat) (sz : Nat) (b_xf : (0 : Int) ≤ xf.toInt ∧ xf.toInt ≤ 3) (b_xp : (-1 : Int) ≤ xp.toInt ∧ xp.toInt ≤ 1200) (b_xt : (0 : Int) ≤ xt.toInt ∧ xt.toInt ≤ 4) (b_xa : (0 : Int) ≤ xa.toInt ∧ xa.toInt ≤ 1200) (b_xo : (0 : Int) ≤ xo.toInt ∧ xo.toInt ≤ 1200) (b_ts : (0 : Int) ≤ ts.toInt ∧ ts.toInt ≤ 1200) (b_sn : (0 : Int) ≤ sn.toInt ∧ sn.toInt ≤ 12) (b_sb : (0 : Int) ≤ sb.toInt ∧ sb.toInt ≤ 16) (b_si : (0 : Int) ≤ si.toInt ∧ si.toInt ≤ 1300) (b_sw : (0 : Int) ≤ sw.toInt ∧ sw.toInt ≤ 9) (b_ss : (0 : Int) ≤ ss.toInt ∧ ss.toInt ≤ 600) (ha_en : rg fe 9 0 600) : Met l yX1_readTape uX1_readTape ({ frames := 28, cells := 0, slots := 0, locals := 633 }) (va_Pc [.ref rd] (hx_ (dC, dI) vwCl [(rd, .inr (0, [.ref tp, .ref sc, .int xf, .int xp, .int xt, .int xa, .int xo, .int xv, .int xj])), (tp, .inr (6, [.ref tb, .int ts])), (tb, .inl (cB, 1200, .inl fb)), (sc, .inr (3, [.int sn, .int sb, .int si, .int sw, .int ss, .ref en, .ref ki, .ref on, .ref ot])), (ki, .inl (cK, 600, .inl fk)), (on, .inl (cO, 600, .inr (.inl fo))), (ot, .inl (cT, 600, .inr (.inl ft))), (en, .inl (cE, 9, .inl fe))] [(cB, .byte), (cK, .int), (cO, .long), (cT, .long), (cE, .int)] sz n0 [])) (va_Qv (fun (_ : Unit) => True) (fun (_ : Unit) t => ∃ (o0_ : Int32) (o1_ : Int32) (o2_ : Int32) (o3_ : Int32) (o4_ : Int32) (o5_ : Int32) (o6_ : Int32) (o7_ : Int32) (o8_ : Int32) (o9_ : Int32) (o10_ : Int32) (o11_ : Int32) (o12_ : Nat → Int32) (o13_ : Nat → Int64) (o14_ : Nat → Int64) (o15_ : Nat → Int32), ((0 : Int) ≤ o0_.toInt ∧ o0_.toInt ≤ 3) ∧ ((-1 : Int) ≤ o1_.toInt ∧ o1_.toInt ≤ 1200) ∧ ((0 : Int) ≤ o2_.toInt ∧ o2_.toInt ≤ 4) ∧ ((0 : Int) ≤ o3_.toInt ∧ o3_.toInt ≤ 1200) ∧ ((0 : Int) ≤ o4_.toInt ∧ o4_.toInt ≤ 1200) ∧ ((0 : Int) ≤ o7_.toInt ∧ o7_.toInt ≤ 12) ∧ ((0 : Int) ≤ o8_.toInt ∧ o8_.toInt ≤ 16) ∧ ((0 : Int) ≤ o9_.toInt ∧ o9_.toInt ≤ 1200) ∧ ((0 : Int) ≤ o10_.toInt ∧ o10_.toInt ≤ 9) ∧ ((0 : Int) ≤ o11_.toInt ∧ o11_.toInt ≤ 600) ∧ (rg o15_ 9 0 600) ∧ (o3_.toInt ≤ o4_.toInt) ∧ (o0_.toInt = 0 → o9_.toInt = 0 ∨ GM o7_ o8_) ∧ va_P (dC, dI) vwCl [(rd, .inr (0, [.ref tp, .ref sc, .int o0_, .int o1_, .int o2_, .int o3_, .int o4_, .int o5_, .int o6_])), (tp, .inr (6, [.ref tb, .int ts])), (tb, .inl (cB, 1200, .inl fb)), (sc, .inr (3, [.int o7_, .int o8_, .int o9_, .int o10_, .int o11_, .ref en, .ref ki, .ref on, .ref ot])), (ki, .inl (cK, 600, .inl o12_)), (on, .inl (cO, 600, .inr (.inl o13_))), (ot, .inl (cT, 600, .inr (.inl o14_))), (en, .inl (cE, 9, .inl o15_))] t.heap ∧ va_K (dC, dI) vwCl [(cB, .byte), (cK, .int), (cO, .long), (cT, .long), (cE, .int)] t ∧ va_D (va_A [(rd, .inr (0, [.ref tp, .ref sc, .int xf, .int xp, .int xt, .int xa, .int xo, .int xv, .int xj])), (tp, .inr (6, [.ref tb, .int ts])), (tb, .inl (cB, 1200, .inl fb)), (sc, .inr (3, [.int sn, .int sb, .int si, .int sw, .int ss, .ref en, .ref ki, .ref on, .ref ot])), (ki, .inl (cK, 600, .inl fk)), (on, .inl (cO, 600, .inr (.inl fo))), (ot, .inl (cT, 600, .inr (.inl ft))), (en, .inl (cE, 9, .inl fe))] sz) [(rd, .inr (0, [.ref tp, .ref sc, .int o0_, .int o1_, .int o2_, .int o3_, .int o4_, .int o5_, .int o6_])), (tp, .inr (6, [.ref tb, .int ts])), (tb, .inl (cB, 1200, .inl fb)), (sc, .inr (3, [.int o7_, .int o8_, .int o9_, .int o10_, .int o11_, .ref en, .ref ki, .ref on, .ref ot])), (ki, .inl (cK, 600, .inl o12_)), (on, .inl (cO, 600, .inr (.inl o13_))), (ot, .inl (cT, 600, .inr (.inl o14_))), (en, .inl (cE, 9, .inl o15_))]) (va_A [(rd, .inr (0, [.ref tp, .ref sc, .int xf, .int xp, .int xt, .int xa, .int xo, .int xv, .int xj])), (tp, .inr (6, [.ref tb, .int ts])), (tb, .inl (cB, 1200, .inl fb)), (sc, .inr (3, [.int sn, .int sb, .int si, .int sw, .int ss, .ref en, .ref ki, .ref on, .ref ot])), (ki, .inl (cK, 600, .inl fk)), (on, .inl (cO, 600, .inr (.inl fo))), (ot, .inl (cT, 600, .inr (.inl ft))), (en, .inl (cE, 9, .inl fe))] sz)) 0 0 (va_A [(rd, .inr (0, [.ref tp, .ref sc, .int xf, .int xp, .int xt, .int xa, .int xo, .int xv, .int xj])), (tp, .inr (6, [.ref tb, .int ts])), (tb, .inl (cB, 1200, .inl fb)), (sc, .inr (3, [.int sn, .int sb, .int si, .int sw, .int ss, .ref en, .ref ki, .ref on, .ref ot])), (ki, .inl (cK, 600, .inl fk)), (on, .inl (cO, 600, .inr (.inl fo))), (ot, .inl (cT, 600, .inr (.inl ft))), (en, .inl (cE, 9, .inl fe))] sz) := by
  refine Met.ofW (cc := cX1_readTape) (maxL := 2) (ret := none) pn_X1 rfl ?_
  intro p e s m args below meth c s₁ B hml hv
  obtain ⟨rfl, ⟨hsz, hP, hK, hD0, hN⟩, hn0, hDn, hX, hTx⟩ := hv
  have hx := B.exec
  have hb := B.bytes
  have hr := B.returns
  have hts := atoms_spec (ws := uX1_readTape) B.pre
  have hown : s.vm.findClass RX1 = some m.cls := hown_of B.named rfl
  have hlocks := B.notSynchronized
  subst hsz
  have hD := hD0.self (sz := s.heap.size)
  have hAn : ∀ q, va_A [(rd, .inr (0, [.ref tp, .ref sc, .int xf, .int xp, .int xt, .int xa, .int xo, .int xv, .int xj])), (tp, .inr (6, [.ref tb, .int ts])), (tb, .inl (cB, 1200, .inl fb)), (sc, .inr (3, [.int sn, .int sb, .int si, .int sw, .int ss, .ref en, .ref ki, .ref on, .ref ot])), (ki, .inl (cK, 600, .inl fk)), (on, .inl (cO, 600, .inr (.inl fo))), (ot, .inl (cT, 600, .inr (.inl ft))), (en, .inl (cE, 9, .inl fe))] s.heap.size q → n0 ≤ q := fun q h => h.elim (fun ⟨k, e, hk⟩ => hDn.2 k (q, e) hk) (fun h => Nat.le_trans hn0 h)
  generalize hAe : va_A [(rd, .inr (0, [.ref tp, .ref sc, .int xf, .int xp, .int xt, .int xa, .int xo, .int xv, .int xj])), (tp, .inr (6, [.ref tb, .int ts])), (tb, .inl (cB, 1200, .inl fb)), (sc, .inr (3, [.int sn, .int sb, .int si, .int sw, .int ss, .ref en, .ref ki, .ref on, .ref ot])), (ki, .inl (cK, 600, .inl fk)), (on, .inl (cO, 600, .inr (.inl fo))), (ot, .inl (cT, 600, .inr (.inl ft))), (en, .inl (cE, 9, .inl fe))] s.heap.size = A at hD hAn ⊢
  have hA : ∀ q : Nat, s.heap.size ≤ q → A q := fun q h => by rw [← hAe]; exact Or.inr h
  have hS : va_S A s.heap s.heap [] := va_S.rf
  have hP : va_P (dC, dI) vwCl [(rd, .inr (0, [.ref tp, .ref sc, .int xf, .int xp, .int xt, .int xa, .int xo, .int xv, .int xj])), (tp, .inr (6, [.ref tb, .int ts])), (tb, .inl (cB, 1200, .inl fb)), (sc, .inr (3, [.int sn, .int sb, .int si, .int sw, .int ss, .ref en, .ref ki, .ref on, .ref ot])), (ki, .inl (cK, 600, .inl fk)), (on, .inl (cO, 600, .inr (.inl fo))), (ot, .inl (cT, 600, .inr (.inl ft))), (en, .inl (cE, 9, .inl fe))] s.heap := hP
  have hl := lv_entry ([.ref rd]) (n := 2) (Nat.le_of_ble_eq_true rfl)
  rw [lg_entry_eq]
  generalize (lg_sl ([.ref rd]) ++ List.replicate (2 - (lg_sl ([.ref rd])).length) Slot.unset).toArray = ls at hl ⊢
  have hl : lv_has ls 2 [(0, .ref rd)] := hl
  refine lv_aload_n hx hb dX1_readTape_0 rfl (lv_at hl 0 rfl) ?_
  refine lv_iconst (v := 0) hx hb dX1_readTape_1 (by decide) ?_
  refine va_put (D := (dC, dI)) (ci := 0) (v := .int 0) (ty := .int) (C := RX1) (T := TX1) (N := 9) hx hb hts iX1_readTape_X1 tyX1 tyX1_ok nmX1 hown hK hP hD hS 0 rfl rfl 2 (by decide) (hts (.fieldLink RX1 23 "LuckyTicket$Reader" "fault" "I") (List.mem_of_getElem? (i := 1) rfl)) (fun _ h9 => h9) rfl (by decide +kernel) rfl rfl (Nat.le_of_ble_eq_true rfl) dX1_readTape_2 (fun H locs hP hD hS => ?_)
  have hP : va_P (dC, dI) vwCl [(rd, .inr (0, [.ref tp, .ref sc, .int 0, .int xp, .int xt, .int xa, .int xo, .int xv, .int xj])), (tp, .inr (6, [.ref tb, .int ts])), (tb, .inl (cB, 1200, .inl fb)), (sc, .inr (3, [.int sn, .int sb, .int si, .int sw, .int ss, .ref en, .ref ki, .ref on, .ref ot])), (ki, .inl (cK, 600, .inl fk)), (on, .inl (cO, 600, .inr (.inl fo))), (ot, .inl (cT, 600, .inr (.inl ft))), (en, .inl (cE, 9, .inl fe))] H := hP
  have hD : va_D A [(rd, .inr (0, [.ref tp, .ref sc, .int 0, .int xp, .int xt, .int xa, .int xo, .int xv, .int xj])), (tp, .inr (6, [.ref tb, .int ts])), (tb, .inl (cB, 1200, .inl fb)), (sc, .inr (3, [.int sn, .int sb, .int si, .int sw, .int ss, .ref en, .ref ki, .ref on, .ref ot])), (ki, .inl (cK, 600, .inl fk)), (on, .inl (cO, 600, .inr (.inl fo))), (ot, .inl (cT, 600, .inr (.inl ft))), (en, .inl (cE, 9, .inl fe))] := hD
  refine lv_aload_n hx hb dX1_readTape_5 rfl (lv_at hl 0 rfl) ?_
  refine lv_iconst (v := (-1)) hx hb dX1_readTape_6 (by decide) ?_
  refine va_put (D := (dC, dI)) (ci := 0) (v := .int (-1)) (ty := .int) (C := RX1) (T := TX1) (N := 9) hx hb hts iX1_readTape_X1 tyX1 tyX1_ok nmX1 hown hK hP hD hS 0 rfl rfl 3 (by decide) (hts (.fieldLink RX1 9 "LuckyTicket$Reader" "faultPlace" "I") (List.mem_of_getElem? (i := 2) rfl)) (fun _ h9 => h9) rfl (by decide +kernel) rfl rfl (Nat.le_of_ble_eq_true rfl) dX1_readTape_7 (fun H locs hP hD hS => ?_)
  have hP : va_P (dC, dI) vwCl [(rd, .inr (0, [.ref tp, .ref sc, .int 0, .int (-1), .int xt, .int xa, .int xo, .int xv, .int xj])), (tp, .inr (6, [.ref tb, .int ts])), (tb, .inl (cB, 1200, .inl fb)), (sc, .inr (3, [.int sn, .int sb, .int si, .int sw, .int ss, .ref en, .ref ki, .ref on, .ref ot])), (ki, .inl (cK, 600, .inl fk)), (on, .inl (cO, 600, .inr (.inl fo))), (ot, .inl (cT, 600, .inr (.inl ft))), (en, .inl (cE, 9, .inl fe))] H := hP
  have hD : va_D A [(rd, .inr (0, [.ref tp, .ref sc, .int 0, .int (-1), .int xt, .int xa, .int xo, .int xv, .int xj])), (tp, .inr (6, [.ref tb, .int ts])), (tb, .inl (cB, 1200, .inl fb)), (sc, .inr (3, [.int sn, .int sb, .int si, .int sw, .int ss, .ref en, .ref ki, .ref on, .ref ot])), (ki, .inl (cK, 600, .inl fk)), (on, .inl (cO, 600, .inr (.inl fo))), (ot, .inl (cT, 600, .inr (.inl ft))), (en, .inl (cE, 9, .inl fe))] := hD
  refine lv_aload_n hx hb dX1_readTape_10 rfl (lv_at hl 0 rfl) ?_
  refine lv_iconst (v := 0) hx hb dX1_readTape_11 (by decide) ?_
  refine va_put (D := (dC, dI)) (ci := 0) (v := .int 0) (ty := .int) (C := RX1) (T := TX1) (N := 9) hx hb hts iX1_readTape_X1 tyX1 tyX1_ok nmX1 hown hK hP hD hS 0 rfl rfl 6 (by decide) (hts (.fieldLink RX1 26 "LuckyTicket$Reader" "stop" "I") (List.mem_of_getElem? (i := 3) rfl)) (fun _ h9 => h9) rfl (by decide +kernel) rfl rfl (Nat.le_of_ble_eq_true rfl) dX1_readTape_12 (fun H locs hP hD hS => ?_)
  have hP : va_P (dC, dI) vwCl [(rd, .inr (0, [.ref tp, .ref sc, .int 0, .int (-1), .int xt, .int xa, .int 0, .int xv, .int xj])), (tp, .inr (6, [.ref tb, .int ts])), (tb, .inl (cB, 1200, .inl fb)), (sc, .inr (3, [.int sn, .int sb, .int si, .int sw, .int ss, .ref en, .ref ki, .ref on, .ref ot])), (ki, .inl (cK, 600, .inl fk)), (on, .inl (cO, 600, .inr (.inl fo))), (ot, .inl (cT, 600, .inr (.inl ft))), (en, .inl (cE, 9, .inl fe))] H := hP
  have hD : va_D A [(rd, .inr (0, [.ref tp, .ref sc, .int 0, .int (-1), .int xt, .int xa, .int 0, .int xv, .int xj])), (tp, .inr (6, [.ref tb, .int ts])), (tb, .inl (cB, 1200, .inl fb)), (sc, .inr (3, [.int sn, .int sb, .int si, .int sw, .int ss, .ref en, .ref ki, .ref on, .ref ot])), (ki, .inl (cK, 600, .inl fk)), (on, .inl (cO, 600, .inr (.inl fo))), (ot, .inl (cT, 600, .inr (.inl ft))), (en, .inl (cE, 9, .inl fe))] := hD
  refine lv_aload_n hx hb dX1_readTape_15 rfl (lv_at hl 0 rfl) ?_
  refine va_get (D := (dC, dI)) (ci := 0) (v := .ref sc) (C := RX1) (T := TX1) (N := 9) hx hb hts iX1_readTape_X1 hown hK hP 0 rfl rfl 1 (by decide) (hts (.fieldLink RX1 19 "LuckyTicket$Reader" "script" "LLuckyTicket$Script;") (List.mem_of_getElem? (i := 4) rfl)) (fun _ h9 => h9) rfl dX1_readTape_16 ?_
  have hFc := va_free (wc := [(sc, .inr (3, [.int sn, .int sb, .int si, .int sw, .int ss, .ref en, .ref ki, .ref on, .ref ot]))]) hD hS hA [3] rfl
  refine va_callv (va_runV (As := []) (rest := []) ⟨hx, hb, hml, hown, hts⟩ (kX4_clear l dC dI sc sn sb si sw ss en ki on ot (H.size) b_sn b_sb b_si b_sw b_ss) (cwV 0 hts gX1_readTape__X4_clear_V29 rfl rfl rfl hd_yX4_clear ⟨lel 1 28 rfl, lel 20 633 rfl⟩) ⟨hw_fb, rcv_X4 hK hP (q0 := 3) rfl, (hw_use hP hD hK hN [3] rfl (by decide) rfl [] rfl)⟩ rfl rfl hl.1 rfl (lv_room (Nat.le_of_ble_eq_true rfl)) dX1_readTape_19 ⟨lel 0 0 rfl, lel 0 0 rfl⟩) hS (fun q _ h => hFc q h) hFc (fun u_1055 t H1 locs ht hvm hw_r_1054 hB hz1 hk1 hS => ?_)
  obtain ⟨hP1, hK1, hD1⟩ := hB
  rw [ht] at hP1
  have hK1 := va_K.moved hvm.symm hK1
  obtain ⟨hP, hD⟩ := va_join (wr := [(rd, .inr (0, [.ref tp, .ref sc, .int 0, .int (-1), .int xt, .int xa, .int 0, .int xv, .int xj])), (tp, .inr (6, [.ref tb, .int ts])), (tb, .inl (cB, 1200, .inl fb)), (ki, .inl (cK, 600, .inl fk)), (on, .inl (cO, 600, .inr (.inl fo))), (ot, .inl (cT, 600, .inr (.inl ft))), (en, .inl (cE, 9, .inl fe))]) (w1 := [(sc, .inr (3, [.int 0, .int 0, .int 0, .int 0, .int 0, .ref en, .ref ki, .ref on, .ref ot]))]) hP hD [3] [0, 1, 2, 4, 5, 6, 7] rfl rfl (by decide) (by decide) hk1 hFc hP1 hD1
  have hK := (hK.sub (tys' := [(cB, .byte), (cK, .int), (cO, .long), (cT, .long), (cE, .int)]) [0, 1, 2, 3, 4] rfl).app hK1
  generalize H1 = H at hP hS ⊢
  have hP := hP.sub (ws' := [(rd, .inr (0, [.ref tp, .ref sc, .int 0, .int (-1), .int xt, .int xa, .int 0, .int xv, .int xj])), (tp, .inr (6, [.ref tb, .int ts])), (tb, .inl (cB, 1200, .inl fb)), (sc, .inr (3, [.int 0, .int 0, .int 0, .int 0, .int 0, .ref en, .ref ki, .ref on, .ref ot])), (ki, .inl (cK, 600, .inl fk)), (on, .inl (cO, 600, .inr (.inl fo))), (ot, .inl (cT, 600, .inr (.inl ft))), (en, .inl (cE, 9, .inl fe))]) [0, 1, 2, 7, 3, 4, 5, 6] rfl
  have hD := hD.sub (ws' := [(rd, .inr (0, [.ref tp, .ref sc, .int 0, .int (-1), .int xt, .int xa, .int 0, .int xv, .int xj])), (tp, .inr (6, [.ref tb, .int ts])), (tb, .inl (cB, 1200, .inl fb)), (sc, .inr (3, [.int 0, .int 0, .int 0, .int 0, .int 0, .ref en, .ref ki, .ref on, .ref ot])), (ki, .inl (cK, 600, .inl fk)), (on, .inl (cO, 600, .inr (.inl fo))), (ot, .inl (cT, 600, .inr (.inl ft))), (en, .inl (cE, 9, .inl fe))]) [0, 1, 2, 7, 3, 4, 5, 6] (by decide) rfl
  have hP : va_P (dC, dI) vwCl [(rd, .inr (0, [.ref tp, .ref sc, .int 0, .int (-1), .int xt, .int xa, .int 0, .int xv, .int xj])), (tp, .inr (6, [.ref tb, .int ts])), (tb, .inl (cB, 1200, .inl fb)), (sc, .inr (3, [.int 0, .int 0, .int 0, .int 0, .int 0, .ref en, .ref ki, .ref on, .ref ot])), (ki, .inl (cK, 600, .inl fk)), (on, .inl (cO, 600, .inr (.inl fo))), (ot, .inl (cT, 600, .inr (.inl ft))), (en, .inl (cE, 9, .inl fe))] H := hP
  have hD : va_D A [(rd, .inr (0, [.ref tp, .ref sc, .int 0, .int (-1), .int xt, .int xa, .int 0, .int xv, .int xj])), (tp, .inr (6, [.ref tb, .int ts])), (tb, .inl (cB, 1200, .inl fb)), (sc, .inr (3, [.int 0, .int 0, .int 0, .int 0, .int 0, .ref en, .ref ki, .ref on, .ref ot])), (ki, .inl (cK, 600, .inl fk)), (on, .inl (cO, 600, .inr (.inl fo))), (ot, .inl (cT, 600, .inr (.inl ft))), (en, .inl (cE, 9, .inl fe))] := hD
  have hK : va_K (dC, dI) vwCl [(cB, .byte), (cK, .int), (cO, .long), (cT, .long), (cE, .int)] s := hK
  refine lv_aload_n hx hb dX1_readTape_22 rfl (lv_at hl 0 rfl) ?_
  have hFc := va_free (wc := [(rd, .inr (0, [.ref tp, .ref sc, .int 0, .int (-1), .int xt, .int xa, .int 0, .int xv, .int xj])), (tp, .inr (6, [.ref tb, .int ts])), (tb, .inl (cB, 1200, .inl fb))]) hD hS hA [0, 1, 2] rfl
  refine va_callv (va_runV (As := []) (rest := []) ⟨hx, hb, hml, hown, hts⟩ (kX1_advance0 l dC dI rd 0 (-1) xt xa 0 xv xj tp tb ts cB fb sc (H.size) (rg_w (by decide : (0 : Int) ≤ (0 : Int32).toInt ∧ (0 : Int32).toInt ≤ 0) (by decide) (by decide)) (rg_w (by decide : (-1 : Int) ≤ ((-1) : Int32).toInt ∧ ((-1) : Int32).toInt ≤ -1) (by decide) (by decide)) b_xt b_xa (rg_w (by decide : (0 : Int) ≤ (0 : Int32).toInt ∧ (0 : Int32).toInt ≤ 0) (by decide) (by decide)) b_ts) (cwV 0 hts gX1_readTape__X1_advance0_V34 rfl rfl rfl hd_yX1_advance ⟨lel 1 28 rfl, lel 22 633 rfl⟩) ⟨hw_fb, rcv_X1 hK hP (q0 := 0) rfl, (hw_use hP hD hK hN [0, 1, 2] rfl (by decide) rfl [0] rfl)⟩ rfl rfl hl.1 rfl (lv_room (Nat.le_of_ble_eq_true rfl)) dX1_readTape_23 ⟨lel 0 0 rfl, lel 0 0 rfl⟩) hS (fun q _ h => hFc q h) hFc (fun u_1057 t H1 locs ht hvm hw_r_1056 hB hz1 hk1 hS => ?_)
  obtain ⟨o0_1058, o1_1059, o2_1060, o3_1061, b_o0_1058, b_o1_1059, b_o2_1060, hf_1062, hP1, hK1, hD1⟩ := hB
  rw [ht] at hP1
  have hK1 := va_K.moved hvm.symm hK1
  obtain ⟨hP, hD⟩ := va_join (wr := [(sc, .inr (3, [.int 0, .int 0, .int 0, .int 0, .int 0, .ref en, .ref ki, .ref on, .ref ot])), (ki, .inl (cK, 600, .inl fk)), (on, .inl (cO, 600, .inr (.inl fo))), (ot, .inl (cT, 600, .inr (.inl ft))), (en, .inl (cE, 9, .inl fe))]) (w1 := [(rd, .inr (0, [.ref tp, .ref sc, .int 0, .int (-1), .int o0_1058, .int o1_1059, .int o2_1060, .int o3_1061, .int xj])), (tp, .inr (6, [.ref tb, .int ts])), (tb, .inl (cB, 1200, .inl fb))]) hP hD [0, 1, 2] [3, 4, 5, 6, 7] rfl rfl (by decide) (by decide) hk1 hFc hP1 hD1
  have hK := (hK.sub (tys' := [(cK, .int), (cO, .long), (cT, .long), (cE, .int)]) [1, 2, 3, 4] rfl).app hK1
  generalize H1 = H at hP hS ⊢
  have hP := hP.sub (ws' := [(rd, .inr (0, [.ref tp, .ref sc, .int 0, .int (-1), .int o0_1058, .int o1_1059, .int o2_1060, .int o3_1061, .int xj])), (tp, .inr (6, [.ref tb, .int ts])), (tb, .inl (cB, 1200, .inl fb)), (sc, .inr (3, [.int 0, .int 0, .int 0, .int 0, .int 0, .ref en, .ref ki, .ref on, .ref ot])), (ki, .inl (cK, 600, .inl fk)), (on, .inl (cO, 600, .inr (.inl fo))), (ot, .inl (cT, 600, .inr (.inl ft))), (en, .inl (cE, 9, .inl fe))]) [5, 6, 7, 0, 1, 2, 3, 4] rfl
  have hD := hD.sub (ws' := [(rd, .inr (0, [.ref tp, .ref sc, .int 0, .int (-1), .int o0_1058, .int o1_1059, .int o2_1060, .int o3_1061, .int xj])), (tp, .inr (6, [.ref tb, .int ts])), (tb, .inl (cB, 1200, .inl fb)), (sc, .inr (3, [.int 0, .int 0, .int 0, .int 0, .int 0, .ref en, .ref ki, .ref on, .ref ot])), (ki, .inl (cK, 600, .inl fk)), (on, .inl (cO, 600, .inr (.inl fo))), (ot, .inl (cT, 600, .inr (.inl ft))), (en, .inl (cE, 9, .inl fe))]) [5, 6, 7, 0, 1, 2, 3, 4] (by decide) rfl
  have hK := hK.sub (tys' := [(cB, .byte), (cK, .int), (cO, .long), (cT, .long), (cE, .int)]) [4, 0, 1, 2, 3] rfl
  have hP : va_P (dC, dI) vwCl [(rd, .inr (0, [.ref tp, .ref sc, .int 0, .int (-1), .int o0_1058, .int o1_1059, .int o2_1060, .int o3_1061, .int xj])), (tp, .inr (6, [.ref tb, .int ts])), (tb, .inl (cB, 1200, .inl fb)), (sc, .inr (3, [.int 0, .int 0, .int 0, .int 0, .int 0, .ref en, .ref ki, .ref on, .ref ot])), (ki, .inl (cK, 600, .inl fk)), (on, .inl (cO, 600, .inr (.inl fo))), (ot, .inl (cT, 600, .inr (.inl ft))), (en, .inl (cE, 9, .inl fe))] H := hP
  have hD : va_D A [(rd, .inr (0, [.ref tp, .ref sc, .int 0, .int (-1), .int o0_1058, .int o1_1059, .int o2_1060, .int o3_1061, .int xj])), (tp, .inr (6, [.ref tb, .int ts])), (tb, .inl (cB, 1200, .inl fb)), (sc, .inr (3, [.int 0, .int 0, .int 0, .int 0, .int 0, .ref en, .ref ki, .ref on, .ref ot])), (ki, .inl (cK, 600, .inl fk)), (on, .inl (cO, 600, .inr (.inl fo))), (ot, .inl (cT, 600, .inr (.inl ft))), (en, .inl (cE, 9, .inl fe))] := hD
  have hK : va_K (dC, dI) vwCl [(cB, .byte), (cK, .int), (cO, .long), (cT, .long), (cE, .int)] s := hK
  refine lv_iconst (v := 0) hx hb dX1_readTape_26 (by decide) ?_
  refine lv_istore_n (lv' := [(1, .int 0), (0, .ref rd)]) hx hb dX1_readTape_27 rfl hl (by decide) rfl (fun ls hl => ?_)
  refine loopW (σ := Int32 × Int32 × Int32 × Int32 × Int32 × Int32 × Int32 × Int32 × Int32 × Int32 × Int32 × Int32 × Int32 × (Nat → Int32) × (Nat → Int64) × (Nat → Int64) × (Nat → Int32)) (fun v => (1200 - v.1.toInt).toNat) (fun v H locs ls => ((0 : Int) ≤ v.1.toInt ∧ v.1.toInt ≤ 1200) ∧ ((0 : Int) ≤ v.2.1.toInt ∧ v.2.1.toInt ≤ 3) ∧ ((-1 : Int) ≤ v.2.2.1.toInt ∧ v.2.2.1.toInt ≤ 1200) ∧ ((0 : Int) ≤ v.2.2.2.1.toInt ∧ v.2.2.2.1.toInt ≤ 4) ∧ ((0 : Int) ≤ v.2.2.2.2.1.toInt ∧ v.2.2.2.2.1.toInt ≤ 1200) ∧ ((0 : Int) ≤ v.2.2.2.2.2.1.toInt ∧ v.2.2.2.2.2.1.toInt ≤ 1200) ∧ ((0 : Int) ≤ v.2.2.2.2.2.2.2.1.toInt ∧ v.2.2.2.2.2.2.2.1.toInt ≤ 12) ∧ ((0 : Int) ≤ v.2.2.2.2.2.2.2.2.1.toInt ∧ v.2.2.2.2.2.2.2.2.1.toInt ≤ 16) ∧ ((0 : Int) ≤ v.2.2.2.2.2.2.2.2.2.1.toInt ∧ v.2.2.2.2.2.2.2.2.2.1.toInt ≤ 1200) ∧ ((0 : Int) ≤ v.2.2.2.2.2.2.2.2.2.2.2.1.toInt ∧ v.2.2.2.2.2.2.2.2.2.2.2.1.toInt ≤ 9) ∧ ((0 : Int) ≤ v.2.2.2.2.2.2.2.2.2.2.2.2.1.toInt ∧ v.2.2.2.2.2.2.2.2.2.2.2.2.1.toInt ≤ 600) ∧ (rg v.2.2.2.2.2.2.2.2.2.2.2.2.2.2.2.2 9 0 600) ∧ (v.2.2.2.2.1.toInt ≤ v.2.2.2.2.2.1.toInt) ∧ (v.2.2.2.2.2.2.2.2.2.1.toInt ≤ v.1.toInt) ∧ (v.2.1.toInt = 0 → v.2.2.2.2.2.2.2.2.2.1.toInt = 0 ∨ GM v.2.2.2.2.2.2.2.1 v.2.2.2.2.2.2.2.2.1) ∧ va_P (dC, dI) vwCl [(rd, .inr (0, [.ref tp, .ref sc, .int v.2.1, .int v.2.2.1, .int v.2.2.2.1, .int v.2.2.2.2.1, .int v.2.2.2.2.2.1, .int v.2.2.2.2.2.2.1, .int v.2.2.2.2.2.2.2.2.2.2.1])), (tp, .inr (6, [.ref tb, .int ts])), (tb, .inl (cB, 1200, .inl fb)), (sc, .inr (3, [.int v.2.2.2.2.2.2.2.1, .int v.2.2.2.2.2.2.2.2.1, .int v.2.2.2.2.2.2.2.2.2.1, .int v.2.2.2.2.2.2.2.2.2.2.2.1, .int v.2.2.2.2.2.2.2.2.2.2.2.2.1, .ref en, .ref ki, .ref on, .ref ot])), (ki, .inl (cK, 600, .inl v.2.2.2.2.2.2.2.2.2.2.2.2.2.1)), (on, .inl (cO, 600, .inr (.inl v.2.2.2.2.2.2.2.2.2.2.2.2.2.2.1))), (ot, .inl (cT, 600, .inr (.inl v.2.2.2.2.2.2.2.2.2.2.2.2.2.2.2.1))), (en, .inl (cE, 9, .inl v.2.2.2.2.2.2.2.2.2.2.2.2.2.2.2.2))] H ∧ va_D A [(rd, .inr (0, [.ref tp, .ref sc, .int v.2.1, .int v.2.2.1, .int v.2.2.2.1, .int v.2.2.2.2.1, .int v.2.2.2.2.2.1, .int v.2.2.2.2.2.2.1, .int v.2.2.2.2.2.2.2.2.2.2.1])), (tp, .inr (6, [.ref tb, .int ts])), (tb, .inl (cB, 1200, .inl fb)), (sc, .inr (3, [.int v.2.2.2.2.2.2.2.1, .int v.2.2.2.2.2.2.2.2.1, .int v.2.2.2.2.2.2.2.2.2.1, .int v.2.2.2.2.2.2.2.2.2.2.2.1, .int v.2.2.2.2.2.2.2.2.2.2.2.2.1, .ref en, .ref ki, .ref on, .ref ot])), (ki, .inl (cK, 600, .inl v.2.2.2.2.2.2.2.2.2.2.2.2.2.1)), (on, .inl (cO, 600, .inr (.inl v.2.2.2.2.2.2.2.2.2.2.2.2.2.2.1))), (ot, .inl (cT, 600, .inr (.inl v.2.2.2.2.2.2.2.2.2.2.2.2.2.2.2.1))), (en, .inl (cE, 9, .inl v.2.2.2.2.2.2.2.2.2.2.2.2.2.2.2.2))] ∧ va_S A s.heap H locs ∧ lv_has ls 2 [(1, .int v.1), (0, .ref rd)]) (fun v H locs ls hI ih_28_1995 => ?_) ((0 : Int32), (0 : Int32), (-1 : Int32), o0_1058, o1_1059, o2_1060, o3_1061, (0 : Int32), (0 : Int32), (0 : Int32), xj, (0 : Int32), (0 : Int32), fk, fo, ft, fe) ⟨(show (0 : Int) ≤ (0 : Int32).toInt ∧ (0 : Int32).toInt ≤ 1200 from (rg_w (by decide : (0 : Int) ≤ (0 : Int32).toInt ∧ (0 : Int32).toInt ≤ 0) (by decide) (by decide))), (show (0 : Int) ≤ (0 : Int32).toInt ∧ (0 : Int32).toInt ≤ 3 from (rg_w (by decide : (0 : Int) ≤ (0 : Int32).toInt ∧ (0 : Int32).toInt ≤ 0) (by decide) (by decide))), (show (-1 : Int) ≤ (-1 : Int32).toInt ∧ (-1 : Int32).toInt ≤ 1200 from (rg_w (by decide : (-1 : Int) ≤ ((-1) : Int32).toInt ∧ ((-1) : Int32).toInt ≤ -1) (by decide) (by decide))), (show (0 : Int) ≤ o0_1058.toInt ∧ o0_1058.toInt ≤ 4 from b_o0_1058), (show (0 : Int) ≤ o1_1059.toInt ∧ o1_1059.toInt ≤ 1200 from b_o1_1059), (show (0 : Int) ≤ o2_1060.toInt ∧ o2_1060.toInt ≤ 1200 from b_o2_1060), (show (0 : Int) ≤ (0 : Int32).toInt ∧ (0 : Int32).toInt ≤ 12 from (rg_w (by decide : (0 : Int) ≤ (0 : Int32).toInt ∧ (0 : Int32).toInt ≤ 0) (by decide) (by decide))), (show (0 : Int) ≤ (0 : Int32).toInt ∧ (0 : Int32).toInt ≤ 16 from (rg_w (by decide : (0 : Int) ≤ (0 : Int32).toInt ∧ (0 : Int32).toInt ≤ 0) (by decide) (by decide))), (show (0 : Int) ≤ (0 : Int32).toInt ∧ (0 : Int32).toInt ≤ 1200 from (rg_w (by decide : (0 : Int) ≤ (0 : Int32).toInt ∧ (0 : Int32).toInt ≤ 0) (by decide) (by decide))), (show (0 : Int) ≤ (0 : Int32).toInt ∧ (0 : Int32).toInt ≤ 9 from (rg_w (by decide : (0 : Int) ≤ (0 : Int32).toInt ∧ (0 : Int32).toInt ≤ 0) (by decide) (by decide))), (show (0 : Int) ≤ (0 : Int32).toInt ∧ (0 : Int32).toInt ≤ 600 from (rg_w (by decide : (0 : Int) ≤ (0 : Int32).toInt ∧ (0 : Int32).toInt ≤ 0) (by decide) (by decide))), (show rg fe 9 0 600 from ha_en), (show o1_1059.toInt ≤ o2_1060.toInt from (by have zl : (0 : Int32).toInt = 0 := (by decide); have zl : ((-1) : Int32).toInt = -1 := (by decide); omega)), (show (0 : Int32).toInt ≤ (0 : Int32).toInt from (by have zl : (0 : Int32).toInt = 0 := (by decide); have zl : ((-1) : Int32).toInt = -1 := (by decide); omega)), (show (0 : Int32).toInt = 0 → (0 : Int32).toInt = 0 ∨ GM (0 : Int32) (0 : Int32) from (fun _ => Or.inl (by decide))), hP, hD, hS, lv_sub hl [0, 1] rfl⟩
  obtain ⟨y_1091, y_1092, y_1093, y_1094, y_1095, y_1096, y_1097, y_1098, y_1099, y_1100, y_1212, y_1213, y_1214, f_1215, f_1216, f_1217, f_1218⟩ := v
  obtain ⟨b_y_1091, b_y_1092, b_y_1093, b_y_1094, b_y_1095, b_y_1096, b_y_1098, b_y_1099, b_y_1100, b_y_1213, b_y_1214, ha_f_1218, hrs, hli, hgm, hP, hD, hS, hl⟩ := hI
  have b_y_1091 : (0 : Int) ≤ y_1091.toInt ∧ y_1091.toInt ≤ 1200 := b_y_1091
  have b_y_1092 : (0 : Int) ≤ y_1092.toInt ∧ y_1092.toInt ≤ 3 := b_y_1092
  have b_y_1093 : (-1 : Int) ≤ y_1093.toInt ∧ y_1093.toInt ≤ 1200 := b_y_1093
  have b_y_1094 : (0 : Int) ≤ y_1094.toInt ∧ y_1094.toInt ≤ 4 := b_y_1094
  have b_y_1095 : (0 : Int) ≤ y_1095.toInt ∧ y_1095.toInt ≤ 1200 := b_y_1095
  have b_y_1096 : (0 : Int) ≤ y_1096.toInt ∧ y_1096.toInt ≤ 1200 := b_y_1096
  have b_y_1098 : (0 : Int) ≤ y_1098.toInt ∧ y_1098.toInt ≤ 12 := b_y_1098
  have b_y_1099 : (0 : Int) ≤ y_1099.toInt ∧ y_1099.toInt ≤ 16 := b_y_1099
  have b_y_1100 : (0 : Int) ≤ y_1100.toInt ∧ y_1100.toInt ≤ 1200 := b_y_1100
  have b_y_1213 : (0 : Int) ≤ y_1213.toInt ∧ y_1213.toInt ≤ 9 := b_y_1213
  have b_y_1214 : (0 : Int) ≤ y_1214.toInt ∧ y_1214.toInt ≤ 600 := b_y_1214
  have ha_f_1218 : rg f_1218 9 0 600 := ha_f_1218
  have hrs : y_1095.toInt ≤ y_1096.toInt := hrs
  have hli : y_1100.toInt ≤ y_1091.toInt := hli
  have hgm : y_1092.toInt = 0 → y_1100.toInt = 0 ∨ GM y_1098 y_1099 := hgm
  have hP : va_P (dC, dI) vwCl [(rd, .inr (0, [.ref tp, .ref sc, .int y_1092, .int y_1093, .int y_1094, .int y_1095, .int y_1096, .int y_1097, .int y_1212])), (tp, .inr (6, [.ref tb, .int ts])), (tb, .inl (cB, 1200, .inl fb)), (sc, .inr (3, [.int y_1098, .int y_1099, .int y_1100, .int y_1213, .int y_1214, .ref en, .ref ki, .ref on, .ref ot])), (ki, .inl (cK, 600, .inl f_1215)), (on, .inl (cO, 600, .inr (.inl f_1216))), (ot, .inl (cT, 600, .inr (.inl f_1217))), (en, .inl (cE, 9, .inl f_1218))] H := hP
  have hD : va_D A [(rd, .inr (0, [.ref tp, .ref sc, .int y_1092, .int y_1093, .int y_1094, .int y_1095, .int y_1096, .int y_1097, .int y_1212])), (tp, .inr (6, [.ref tb, .int ts])), (tb, .inl (cB, 1200, .inl fb)), (sc, .inr (3, [.int y_1098, .int y_1099, .int y_1100, .int y_1213, .int y_1214, .ref en, .ref ki, .ref on, .ref ot])), (ki, .inl (cK, 600, .inl f_1215)), (on, .inl (cO, 600, .inr (.inl f_1216))), (ot, .inl (cT, 600, .inr (.inl f_1217))), (en, .inl (cE, 9, .inl f_1218))] := hD
  have hl : lv_has ls 2 [(1, .int y_1091), (0, .ref rd)] := hl
  refine lv_iload_n hx hb dX1_readTape_28 rfl (lv_at hl 0 rfl) ?_
  refine lv_sipush (v := 1200) hx hb dX1_readTape_29 (by decide) ?_
  refine lv_icmp_ge (tgt := 107) hx hb dX1_readTape_32 (by decide) (fun c_1996 => ?_) (fun c_1996 => ?_)
  ·
    have n_c_1996 : (1200 : Int) ≤ y_1091.toInt := c_ge rfl (by decide) c_1996
    have b_y_1091 : (1200 : Int) ≤ y_1091.toInt ∧ y_1091.toInt ≤ 1200 := r_le2 (by decide : (1200 : Int) ≤ (1200 : Int32).toInt ∧ (1200 : Int32).toInt ≤ 1200) b_y_1091 n_c_1996 (by decide)
    have hP9 := hP.sub (ws' := [(rd, .inr (0, [.ref tp, .ref sc, .int y_1092, .int y_1093, .int y_1094, .int y_1095, .int y_1096, .int y_1097, .int y_1212])), (tp, .inr (6, [.ref tb, .int ts])), (tb, .inl (cB, 1200, .inl fb)), (sc, .inr (3, [.int y_1098, .int y_1099, .int y_1100, .int y_1213, .int y_1214, .ref en, .ref ki, .ref on, .ref ot])), (ki, .inl (cK, 600, .inl f_1215)), (on, .inl (cO, 600, .inr (.inl f_1216))), (ot, .inl (cT, 600, .inr (.inl f_1217))), (en, .inl (cE, 9, .inl f_1218))]) [0, 1, 2, 3, 4, 5, 6, 7] rfl
    have hD9 := hD.sub (ws' := [(rd, .inr (0, [.ref tp, .ref sc, .int y_1092, .int y_1093, .int y_1094, .int y_1095, .int y_1096, .int y_1097, .int y_1212])), (tp, .inr (6, [.ref tb, .int ts])), (tb, .inl (cB, 1200, .inl fb)), (sc, .inr (3, [.int y_1098, .int y_1099, .int y_1100, .int y_1213, .int y_1214, .ref en, .ref ki, .ref on, .ref ot])), (ki, .inl (cK, 600, .inl f_1215)), (on, .inl (cO, 600, .inr (.inl f_1216))), (ot, .inl (cT, 600, .inr (.inl f_1217))), (en, .inl (cE, 9, .inl f_1218))]) [0, 1, 2, 3, 4, 5, 6, 7] (by decide) rfl
    have hK9 := hK.sub (tys' := [(cB, .byte), (cK, .int), (cO, .long), (cT, .long), (cE, .int)]) [0, 1, 2, 3, 4] rfl
    exact W.vret hx hb hr (fun t ht hW => ⟨⟨(), rfl, trivial, y_1092, y_1093, y_1094, y_1095, y_1096, y_1097, y_1212, y_1098, y_1099, y_1100, y_1213, y_1214, f_1215, f_1216, f_1217, f_1218, b_y_1092, b_y_1093, b_y_1094, b_y_1095, b_y_1096, b_y_1098, b_y_1099, b_y_1100, b_y_1213, b_y_1214, ha_f_1218, (by omega), (hgm), by rw [ht]; exact hP9, va_K.moved hW.alike hK9, hD9⟩, hS.F ht⟩) hS.2.2 dX1_readTape_107
  ·
    have n_c_1996 : (y_1091.toInt : Int) < 1200 := c_nge rfl (by decide) c_1996
    have b_y_1091 : (0 : Int) ≤ y_1091.toInt ∧ y_1091.toInt ≤ 1199 := r_lt1 b_y_1091 (by decide : (1200 : Int) ≤ (1200 : Int32).toInt ∧ (1200 : Int32).toInt ≤ 1200) n_c_1996 (by decide)
    refine lv_aload_n hx hb dX1_readTape_35 rfl (lv_at hl 1 rfl) ?_
    refine va_get (D := (dC, dI)) (ci := 0) (v := .int y_1092) (C := RX1) (T := TX1) (N := 9) hx hb hts iX1_readTape_X1 hown hK hP 0 rfl rfl 2 (by decide) (hts (.fieldLink RX1 23 "LuckyTicket$Reader" "fault" "I") (List.mem_of_getElem? (i := 1) rfl)) (fun _ h9 => h9) rfl dX1_readTape_36 ?_
    refine lv_if_ne (tgt := 107) hx hb dX1_readTape_39 (by decide) (fun c_1997 => ?_) (fun c_1997 => ?_)
    ·
      have n_c_1997 : (y_1092.toInt : Int) ≠ 0 := c_ne rfl (by decide) c_1997
      have b_y_1092 : (1 : Int) ≤ y_1092.toInt ∧ y_1092.toInt ≤ 3 := r_ne1 b_y_1092 (by decide : (0 : Int) ≤ (0 : Int32).toInt ∧ (0 : Int32).toInt ≤ 0) n_c_1997 (by decide)
      have hP9 := hP.sub (ws' := [(rd, .inr (0, [.ref tp, .ref sc, .int y_1092, .int y_1093, .int y_1094, .int y_1095, .int y_1096, .int y_1097, .int y_1212])), (tp, .inr (6, [.ref tb, .int ts])), (tb, .inl (cB, 1200, .inl fb)), (sc, .inr (3, [.int y_1098, .int y_1099, .int y_1100, .int y_1213, .int y_1214, .ref en, .ref ki, .ref on, .ref ot])), (ki, .inl (cK, 600, .inl f_1215)), (on, .inl (cO, 600, .inr (.inl f_1216))), (ot, .inl (cT, 600, .inr (.inl f_1217))), (en, .inl (cE, 9, .inl f_1218))]) [0, 1, 2, 3, 4, 5, 6, 7] rfl
      have hD9 := hD.sub (ws' := [(rd, .inr (0, [.ref tp, .ref sc, .int y_1092, .int y_1093, .int y_1094, .int y_1095, .int y_1096, .int y_1097, .int y_1212])), (tp, .inr (6, [.ref tb, .int ts])), (tb, .inl (cB, 1200, .inl fb)), (sc, .inr (3, [.int y_1098, .int y_1099, .int y_1100, .int y_1213, .int y_1214, .ref en, .ref ki, .ref on, .ref ot])), (ki, .inl (cK, 600, .inl f_1215)), (on, .inl (cO, 600, .inr (.inl f_1216))), (ot, .inl (cT, 600, .inr (.inl f_1217))), (en, .inl (cE, 9, .inl f_1218))]) [0, 1, 2, 3, 4, 5, 6, 7] (by decide) rfl
      have hK9 := hK.sub (tys' := [(cB, .byte), (cK, .int), (cO, .long), (cT, .long), (cE, .int)]) [0, 1, 2, 3, 4] rfl
      exact W.vret hx hb hr (fun t ht hW => ⟨⟨(), rfl, trivial, y_1092, y_1093, y_1094, y_1095, y_1096, y_1097, y_1212, y_1098, y_1099, y_1100, y_1213, y_1214, f_1215, f_1216, f_1217, f_1218, (rg_w b_y_1092 (by decide) (by decide)), b_y_1093, b_y_1094, b_y_1095, b_y_1096, b_y_1098, b_y_1099, b_y_1100, b_y_1213, b_y_1214, ha_f_1218, (by omega), (hgm), by rw [ht]; exact hP9, va_K.moved hW.alike hK9, hD9⟩, hS.F ht⟩) hS.2.2 dX1_readTape_107
    ·
      have n_c_1997 : (y_1092.toInt : Int) = 0 := c_eq rfl (by decide) c_1997
      have b_y_1092 : (0 : Int) ≤ y_1092.toInt ∧ y_1092.toInt ≤ 0 := r_eq1 b_y_1092 (by decide : (0 : Int) ≤ (0 : Int32).toInt ∧ (0 : Int32).toInt ≤ 0) n_c_1997 (by decide)
      refine lv_aload_n hx hb dX1_readTape_42 rfl (lv_at hl 1 rfl) ?_
      refine va_get (D := (dC, dI)) (ci := 0) (v := .int y_1094) (C := RX1) (T := TX1) (N := 9) hx hb hts iX1_readTape_X1 hown hK hP 0 rfl rfl 4 (by decide) (hts (.fieldLink RX1 39 "LuckyTicket$Reader" "token" "I") (List.mem_of_getElem? (i := 13) rfl)) (fun _ h9 => h9) rfl dX1_readTape_43 ?_
      refine lv_if_eq (tgt := 107) hx hb dX1_readTape_46 (by decide) (fun c_1998 => ?_) (fun c_1998 => ?_)
      ·
        have n_c_1998 : (y_1094.toInt : Int) = 0 := c_eq rfl (by decide) c_1998
        have b_y_1094 : (0 : Int) ≤ y_1094.toInt ∧ y_1094.toInt ≤ 0 := r_eq1 b_y_1094 (by decide : (0 : Int) ≤ (0 : Int32).toInt ∧ (0 : Int32).toInt ≤ 0) n_c_1998 (by decide)
        have hP9 := hP.sub (ws' := [(rd, .inr (0, [.ref tp, .ref sc, .int y_1092, .int y_1093, .int y_1094, .int y_1095, .int y_1096, .int y_1097, .int y_1212])), (tp, .inr (6, [.ref tb, .int ts])), (tb, .inl (cB, 1200, .inl fb)), (sc, .inr (3, [.int y_1098, .int y_1099, .int y_1100, .int y_1213, .int y_1214, .ref en, .ref ki, .ref on, .ref ot])), (ki, .inl (cK, 600, .inl f_1215)), (on, .inl (cO, 600, .inr (.inl f_1216))), (ot, .inl (cT, 600, .inr (.inl f_1217))), (en, .inl (cE, 9, .inl f_1218))]) [0, 1, 2, 3, 4, 5, 6, 7] rfl
        have hD9 := hD.sub (ws' := [(rd, .inr (0, [.ref tp, .ref sc, .int y_1092, .int y_1093, .int y_1094, .int y_1095, .int y_1096, .int y_1097, .int y_1212])), (tp, .inr (6, [.ref tb, .int ts])), (tb, .inl (cB, 1200, .inl fb)), (sc, .inr (3, [.int y_1098, .int y_1099, .int y_1100, .int y_1213, .int y_1214, .ref en, .ref ki, .ref on, .ref ot])), (ki, .inl (cK, 600, .inl f_1215)), (on, .inl (cO, 600, .inr (.inl f_1216))), (ot, .inl (cT, 600, .inr (.inl f_1217))), (en, .inl (cE, 9, .inl f_1218))]) [0, 1, 2, 3, 4, 5, 6, 7] (by decide) rfl
        have hK9 := hK.sub (tys' := [(cB, .byte), (cK, .int), (cO, .long), (cT, .long), (cE, .int)]) [0, 1, 2, 3, 4] rfl
        exact W.vret hx hb hr (fun t ht hW => ⟨⟨(), rfl, trivial, y_1092, y_1093, y_1094, y_1095, y_1096, y_1097, y_1212, y_1098, y_1099, y_1100, y_1213, y_1214, f_1215, f_1216, f_1217, f_1218, (rg_w b_y_1092 (by decide) (by decide)), b_y_1093, (rg_w b_y_1094 (by decide) (by decide)), b_y_1095, b_y_1096, b_y_1098, b_y_1099, b_y_1100, b_y_1213, b_y_1214, ha_f_1218, (by omega), (hgm), by rw [ht]; exact hP9, va_K.moved hW.alike hK9, hD9⟩, hS.F ht⟩) hS.2.2 dX1_readTape_107
      ·
        have n_c_1998 : (y_1094.toInt : Int) ≠ 0 := c_ne rfl (by decide) c_1998
        have b_y_1094 : (1 : Int) ≤ y_1094.toInt ∧ y_1094.toInt ≤ 4 := r_ne1 b_y_1094 (by decide : (0 : Int) ≤ (0 : Int32).toInt ∧ (0 : Int32).toInt ≤ 0) n_c_1998 (by decide)
        refine lv_aload_n hx hb dX1_readTape_49 rfl (lv_at hl 1 rfl) ?_
        refine va_get (D := (dC, dI)) (ci := 0) (v := .ref sc) (C := RX1) (T := TX1) (N := 9) hx hb hts iX1_readTape_X1 hown hK hP 0 rfl rfl 1 (by decide) (hts (.fieldLink RX1 19 "LuckyTicket$Reader" "script" "LLuckyTicket$Script;") (List.mem_of_getElem? (i := 4) rfl)) (fun _ h9 => h9) rfl dX1_readTape_50 ?_
        refine va_getN (own := RX1) (index := 42) (ref := RX4) (host := RX9) (D := (dC, dI)) (ci := 3) (v := .int y_1100) (C := RX4) (T := TX4) (N := 9) hx hb hts iX1_readTape_X4 hown hK hP 3 rfl rfl 2 (by decide) (va_Nw.use rfl (hN _ (List.mem_of_getElem? (i := 8) rfl))) (fun _ h9 => h9) rfl dX1_readTape_53 ?_
        refine cutW (σ := Int32 × Int32 × Int32 × Int32 × Int32 × Int32 × Int32 × Int32 × Int32 × Int32 × Int32 × (Nat → Int32) × (Nat → Int64) × (Nat → Int64) × (Nat → Int32)) (pc2 := 82) (st2 := fun v => []) (cells2 := 0) (slots2 := 0) (fun v H locs ls => ((0 : Int) ≤ v.1.toInt ∧ v.1.toInt ≤ 3) ∧ ((-1 : Int) ≤ v.2.1.toInt ∧ v.2.1.toInt ≤ 1200) ∧ ((0 : Int) ≤ v.2.2.1.toInt ∧ v.2.2.1.toInt ≤ 4) ∧ ((0 : Int) ≤ v.2.2.2.1.toInt ∧ v.2.2.2.1.toInt ≤ 1200) ∧ ((0 : Int) ≤ v.2.2.2.2.1.toInt ∧ v.2.2.2.2.1.toInt ≤ 1200) ∧ ((0 : Int) ≤ v.2.2.2.2.2.2.2.1.toInt ∧ v.2.2.2.2.2.2.2.1.toInt ≤ 12) ∧ ((0 : Int) ≤ v.2.2.2.2.2.2.2.2.1.toInt ∧ v.2.2.2.2.2.2.2.2.1.toInt ≤ 16) ∧ ((0 : Int) ≤ v.2.2.2.2.2.2.2.2.2.1.toInt ∧ v.2.2.2.2.2.2.2.2.2.1.toInt ≤ 9) ∧ ((0 : Int) ≤ v.2.2.2.2.2.2.2.2.2.2.1.toInt ∧ v.2.2.2.2.2.2.2.2.2.2.1.toInt ≤ 600) ∧ (rg v.2.2.2.2.2.2.2.2.2.2.2.2.2.2 9 0 600) ∧ (v.1.toInt = 0 → GM v.2.2.2.2.2.2.2.1 v.2.2.2.2.2.2.2.2.1) ∧ (y_1100.toInt ≤ y_1091.toInt) ∧ (v.2.2.2.1.toInt ≤ v.2.2.2.2.1.toInt) ∧ va_P (dC, dI) vwCl [(rd, .inr (0, [.ref tp, .ref sc, .int v.1, .int v.2.1, .int v.2.2.1, .int v.2.2.2.1, .int v.2.2.2.2.1, .int v.2.2.2.2.2.1, .int v.2.2.2.2.2.2.1])), (tp, .inr (6, [.ref tb, .int ts])), (tb, .inl (cB, 1200, .inl fb)), (sc, .inr (3, [.int v.2.2.2.2.2.2.2.1, .int v.2.2.2.2.2.2.2.2.1, .int y_1100, .int v.2.2.2.2.2.2.2.2.2.1, .int v.2.2.2.2.2.2.2.2.2.2.1, .ref en, .ref ki, .ref on, .ref ot])), (ki, .inl (cK, 600, .inl v.2.2.2.2.2.2.2.2.2.2.2.1)), (on, .inl (cO, 600, .inr (.inl v.2.2.2.2.2.2.2.2.2.2.2.2.1))), (ot, .inl (cT, 600, .inr (.inl v.2.2.2.2.2.2.2.2.2.2.2.2.2.1))), (en, .inl (cE, 9, .inl v.2.2.2.2.2.2.2.2.2.2.2.2.2.2))] H ∧ va_D A [(rd, .inr (0, [.ref tp, .ref sc, .int v.1, .int v.2.1, .int v.2.2.1, .int v.2.2.2.1, .int v.2.2.2.2.1, .int v.2.2.2.2.2.1, .int v.2.2.2.2.2.2.1])), (tp, .inr (6, [.ref tb, .int ts])), (tb, .inl (cB, 1200, .inl fb)), (sc, .inr (3, [.int v.2.2.2.2.2.2.2.1, .int v.2.2.2.2.2.2.2.2.1, .int y_1100, .int v.2.2.2.2.2.2.2.2.2.1, .int v.2.2.2.2.2.2.2.2.2.2.1, .ref en, .ref ki, .ref on, .ref ot])), (ki, .inl (cK, 600, .inl v.2.2.2.2.2.2.2.2.2.2.2.1)), (on, .inl (cO, 600, .inr (.inl v.2.2.2.2.2.2.2.2.2.2.2.2.1))), (ot, .inl (cT, 600, .inr (.inl v.2.2.2.2.2.2.2.2.2.2.2.2.2.1))), (en, .inl (cE, 9, .inl v.2.2.2.2.2.2.2.2.2.2.2.2.2.2))] ∧ va_S A s.heap H locs ∧ lv_has ls 2 [(1, .int y_1091), (0, .ref rd)]) (fun v H locs ls hI => ?_) (fun hj_82_2054 => ?_)
        ·
          obtain ⟨y_2040, y_2041, y_2042, y_2043, y_2044, y_2045, y_2046, y_2047, y_2048, y_2049, y_2050, f_2051, f_2052, f_2053, f_2054⟩ := v
          obtain ⟨b_y_2040, b_y_2041, b_y_2042, b_y_2043, b_y_2044, b_y_2047, b_y_2048, b_y_2049, b_y_2050, ha_f_2054, hgj, hlj, hrj, hP, hD, hS, hl⟩ := hI
          have b_y_2040 : (0 : Int) ≤ y_2040.toInt ∧ y_2040.toInt ≤ 3 := b_y_2040
          have b_y_2041 : (-1 : Int) ≤ y_2041.toInt ∧ y_2041.toInt ≤ 1200 := b_y_2041
          have b_y_2042 : (0 : Int) ≤ y_2042.toInt ∧ y_2042.toInt ≤ 4 := b_y_2042
          have b_y_2043 : (0 : Int) ≤ y_2043.toInt ∧ y_2043.toInt ≤ 1200 := b_y_2043
          have b_y_2044 : (0 : Int) ≤ y_2044.toInt ∧ y_2044.toInt ≤ 1200 := b_y_2044
          have b_y_2047 : (0 : Int) ≤ y_2047.toInt ∧ y_2047.toInt ≤ 12 := b_y_2047
          have b_y_2048 : (0 : Int) ≤ y_2048.toInt ∧ y_2048.toInt ≤ 16 := b_y_2048
          have b_y_2049 : (0 : Int) ≤ y_2049.toInt ∧ y_2049.toInt ≤ 9 := b_y_2049
          have b_y_2050 : (0 : Int) ≤ y_2050.toInt ∧ y_2050.toInt ≤ 600 := b_y_2050
          have ha_f_2054 : rg f_2054 9 0 600 := ha_f_2054
          have hgj : y_2040.toInt = 0 → GM y_2047 y_2048 := hgj
          have hlj : y_1100.toInt ≤ y_1091.toInt := hlj
          have hrj : y_2043.toInt ≤ y_2044.toInt := hrj
          have hP : va_P (dC, dI) vwCl [(rd, .inr (0, [.ref tp, .ref sc, .int y_2040, .int y_2041, .int y_2042, .int y_2043, .int y_2044, .int y_2045, .int y_2046])), (tp, .inr (6, [.ref tb, .int ts])), (tb, .inl (cB, 1200, .inl fb)), (sc, .inr (3, [.int y_2047, .int y_2048, .int y_1100, .int y_2049, .int y_2050, .ref en, .ref ki, .ref on, .ref ot])), (ki, .inl (cK, 600, .inl f_2051)), (on, .inl (cO, 600, .inr (.inl f_2052))), (ot, .inl (cT, 600, .inr (.inl f_2053))), (en, .inl (cE, 9, .inl f_2054))] H := hP
          have hD : va_D A [(rd, .inr (0, [.ref tp, .ref sc, .int y_2040, .int y_2041, .int y_2042, .int y_2043, .int y_2044, .int y_2045, .int y_2046])), (tp, .inr (6, [.ref tb, .int ts])), (tb, .inl (cB, 1200, .inl fb)), (sc, .inr (3, [.int y_2047, .int y_2048, .int y_1100, .int y_2049, .int y_2050, .ref en, .ref ki, .ref on, .ref ot])), (ki, .inl (cK, 600, .inl f_2051)), (on, .inl (cO, 600, .inr (.inl f_2052))), (ot, .inl (cT, 600, .inr (.inl f_2053))), (en, .inl (cE, 9, .inl f_2054))] := hD
          have hl : lv_has ls 2 [(1, .int y_1091), (0, .ref rd)] := hl
          refine lv_aload_n hx hb dX1_readTape_82 rfl (lv_at hl 1 rfl) ?_
          refine lv_bipush (v := 59) hx hb dX1_readTape_83 (by decide) ?_
          have hFc := va_free (wc := [(rd, .inr (0, [.ref tp, .ref sc, .int y_2040, .int y_2041, .int y_2042, .int y_2043, .int y_2044, .int y_2045, .int y_2046])), (tp, .inr (6, [.ref tb, .int ts])), (tb, .inl (cB, 1200, .inl fb))]) hD hS hA [0, 1, 2] rfl
          refine va_callv (va_runV (As := [.int 59]) (rest := []) ⟨hx, hb, hml, hown, hts⟩ (kX1_passSign l dC dI rd y_2040 y_2041 y_2042 y_2043 y_2044 y_2045 y_2046 tp tb ts cB fb sc 59 (H.size) b_y_2040 b_y_2041 b_y_2042 b_y_2043 b_y_2044 b_ts (by omega)) (cwV 1 hts gX1_readTape__X1_passSign_V58 rfl rfl rfl hd_yX1_passSign ⟨lel 2 28 rfl, lel 43 633 rfl⟩) ⟨hw_fb, rcv_X1 hK hP (q0 := 0) rfl, (hw_use hP hD hK hN [0, 1, 2] rfl (by decide) rfl [0] rfl)⟩ rfl rfl hl.1 rfl (lv_room (Nat.le_of_ble_eq_true rfl)) dX1_readTape_85 ⟨lel 0 0 rfl, lel 0 0 rfl⟩) hS (fun q _ h => hFc q h) hFc (fun u_2056 t H1 locs ht hvm hw_r_2055 hB hz1 hk1 hS => ?_)
          obtain ⟨o0_2057, o1_2058, o2_2059, o3_2060, o4_2061, o5_2062, b_o0_2057, b_o1_2058, b_o2_2059, b_o3_2060, b_o4_2061, hf_2063, hf_2064, hP1, hK1, hD1⟩ := hB
          rw [ht] at hP1
          have hK1 := va_K.moved hvm.symm hK1
          obtain ⟨hP, hD⟩ := va_join (wr := [(sc, .inr (3, [.int y_2047, .int y_2048, .int y_1100, .int y_2049, .int y_2050, .ref en, .ref ki, .ref on, .ref ot])), (ki, .inl (cK, 600, .inl f_2051)), (on, .inl (cO, 600, .inr (.inl f_2052))), (ot, .inl (cT, 600, .inr (.inl f_2053))), (en, .inl (cE, 9, .inl f_2054))]) (w1 := [(rd, .inr (0, [.ref tp, .ref sc, .int o0_2057, .int o1_2058, .int o2_2059, .int o3_2060, .int o4_2061, .int o5_2062, .int y_2046])), (tp, .inr (6, [.ref tb, .int ts])), (tb, .inl (cB, 1200, .inl fb))]) hP hD [0, 1, 2] [3, 4, 5, 6, 7] rfl rfl (by decide) (by decide) hk1 hFc hP1 hD1
          have hK := (hK.sub (tys' := [(cK, .int), (cO, .long), (cT, .long), (cE, .int)]) [1, 2, 3, 4] rfl).app hK1
          generalize H1 = H at hP hS ⊢
          have hP := hP.sub (ws' := [(rd, .inr (0, [.ref tp, .ref sc, .int o0_2057, .int o1_2058, .int o2_2059, .int o3_2060, .int o4_2061, .int o5_2062, .int y_2046])), (tp, .inr (6, [.ref tb, .int ts])), (tb, .inl (cB, 1200, .inl fb)), (sc, .inr (3, [.int y_2047, .int y_2048, .int y_1100, .int y_2049, .int y_2050, .ref en, .ref ki, .ref on, .ref ot])), (ki, .inl (cK, 600, .inl f_2051)), (on, .inl (cO, 600, .inr (.inl f_2052))), (ot, .inl (cT, 600, .inr (.inl f_2053))), (en, .inl (cE, 9, .inl f_2054))]) [5, 6, 7, 0, 1, 2, 3, 4] rfl
          have hD := hD.sub (ws' := [(rd, .inr (0, [.ref tp, .ref sc, .int o0_2057, .int o1_2058, .int o2_2059, .int o3_2060, .int o4_2061, .int o5_2062, .int y_2046])), (tp, .inr (6, [.ref tb, .int ts])), (tb, .inl (cB, 1200, .inl fb)), (sc, .inr (3, [.int y_2047, .int y_2048, .int y_1100, .int y_2049, .int y_2050, .ref en, .ref ki, .ref on, .ref ot])), (ki, .inl (cK, 600, .inl f_2051)), (on, .inl (cO, 600, .inr (.inl f_2052))), (ot, .inl (cT, 600, .inr (.inl f_2053))), (en, .inl (cE, 9, .inl f_2054))]) [5, 6, 7, 0, 1, 2, 3, 4] (by decide) rfl
          have hK := hK.sub (tys' := [(cB, .byte), (cK, .int), (cO, .long), (cT, .long), (cE, .int)]) [4, 0, 1, 2, 3] rfl
          have hP : va_P (dC, dI) vwCl [(rd, .inr (0, [.ref tp, .ref sc, .int o0_2057, .int o1_2058, .int o2_2059, .int o3_2060, .int o4_2061, .int o5_2062, .int y_2046])), (tp, .inr (6, [.ref tb, .int ts])), (tb, .inl (cB, 1200, .inl fb)), (sc, .inr (3, [.int y_2047, .int y_2048, .int y_1100, .int y_2049, .int y_2050, .ref en, .ref ki, .ref on, .ref ot])), (ki, .inl (cK, 600, .inl f_2051)), (on, .inl (cO, 600, .inr (.inl f_2052))), (ot, .inl (cT, 600, .inr (.inl f_2053))), (en, .inl (cE, 9, .inl f_2054))] H := hP
          have hD : va_D A [(rd, .inr (0, [.ref tp, .ref sc, .int o0_2057, .int o1_2058, .int o2_2059, .int o3_2060, .int o4_2061, .int o5_2062, .int y_2046])), (tp, .inr (6, [.ref tb, .int ts])), (tb, .inl (cB, 1200, .inl fb)), (sc, .inr (3, [.int y_2047, .int y_2048, .int y_1100, .int y_2049, .int y_2050, .ref en, .ref ki, .ref on, .ref ot])), (ki, .inl (cK, 600, .inl f_2051)), (on, .inl (cO, 600, .inr (.inl f_2052))), (ot, .inl (cT, 600, .inr (.inl f_2053))), (en, .inl (cE, 9, .inl f_2054))] := hD
          have hK : va_K (dC, dI) vwCl [(cB, .byte), (cK, .int), (cO, .long), (cT, .long), (cE, .int)] s := hK
          refine lv_aload_n hx hb dX1_readTape_88 rfl (lv_at hl 1 rfl) ?_
          refine va_get (D := (dC, dI)) (ci := 0) (v := .ref sc) (C := RX1) (T := TX1) (N := 9) hx hb hts iX1_readTape_X1 hown hK hP 0 rfl rfl 1 (by decide) (hts (.fieldLink RX1 19 "LuckyTicket$Reader" "script" "LLuckyTicket$Script;") (List.mem_of_getElem? (i := 4) rfl)) (fun _ h9 => h9) rfl dX1_readTape_89 ?_
          refine lv_dup hx hb dX1_readTape_92 rfl ?_
          refine va_getN (own := RX1) (index := 42) (ref := RX4) (host := RX9) (D := (dC, dI)) (ci := 3) (v := .int y_1100) (C := RX4) (T := TX4) (N := 9) hx hb hts iX1_readTape_X4 hown hK hP 3 rfl rfl 2 (by decide) (va_Nw.use rfl (hN _ (List.mem_of_getElem? (i := 8) rfl))) (fun _ h9 => h9) rfl dX1_readTape_93 ?_
          refine lv_iconst (v := 1) hx hb dX1_readTape_96 (by decide) ?_
          refine lv_iadd hx hb dX1_readTape_97 ?_
          refine lv_topi (fun z_2065 e_z_2065 => ?_)
          obtain ⟨q_z_2065, b_z_2065⟩ := ti_add (lo := 1) (hi := 1201) e_z_2065 rfl (by decide : (1 : Int32).toInt = 1) b_y_1100 (by decide : (1 : Int) ≤ (1 : Int32).toInt ∧ (1 : Int32).toInt ≤ 1) (by decide)
          refine va_putN (own := RX1) (index := 42) (ref := RX4) (host := RX9) (D := (dC, dI)) (ci := 3) (v := .int z_2065) (ty := .int) (C := RX4) (T := TX4) (N := 9) hx hb hts iX1_readTape_X4 tyX4 tyX4_ok nmX4 hown hK hP hD hS 3 rfl rfl 2 (by decide) (va_Nw.use rfl (hN _ (List.mem_of_getElem? (i := 8) rfl))) (fun _ h9 => h9) rfl (by decide +kernel) rfl rfl (Nat.le_of_ble_eq_true rfl) dX1_readTape_98 (fun H locs hP hD hS => ?_)
          have hP : va_P (dC, dI) vwCl [(rd, .inr (0, [.ref tp, .ref sc, .int o0_2057, .int o1_2058, .int o2_2059, .int o3_2060, .int o4_2061, .int o5_2062, .int y_2046])), (tp, .inr (6, [.ref tb, .int ts])), (tb, .inl (cB, 1200, .inl fb)), (sc, .inr (3, [.int y_2047, .int y_2048, .int z_2065, .int y_2049, .int y_2050, .ref en, .ref ki, .ref on, .ref ot])), (ki, .inl (cK, 600, .inl f_2051)), (on, .inl (cO, 600, .inr (.inl f_2052))), (ot, .inl (cT, 600, .inr (.inl f_2053))), (en, .inl (cE, 9, .inl f_2054))] H := hP
          have hD : va_D A [(rd, .inr (0, [.ref tp, .ref sc, .int o0_2057, .int o1_2058, .int o2_2059, .int o3_2060, .int o4_2061, .int o5_2062, .int y_2046])), (tp, .inr (6, [.ref tb, .int ts])), (tb, .inl (cB, 1200, .inl fb)), (sc, .inr (3, [.int y_2047, .int y_2048, .int z_2065, .int y_2049, .int y_2050, .ref en, .ref ki, .ref on, .ref ot])), (ki, .inl (cK, 600, .inl f_2051)), (on, .inl (cO, 600, .inr (.inl f_2052))), (ot, .inl (cT, 600, .inr (.inl f_2053))), (en, .inl (cE, 9, .inl f_2054))] := hD
          obtain ⟨z_2066, e_z_2066⟩ : ∃ y : Int32, y = y_1091 + 1 := ⟨_, rfl⟩
          refine lv_iinc (v := z_2066) (lv' := [(1, .int z_2066), (0, .ref rd)]) hx hb dX1_readTape_101 hl (k := 0) rfl (by rw [e_z_2066]; rfl) (by decide) rfl (fun ls hl => ?_)
          obtain ⟨q_z_2066, b_z_2066⟩ := ti_add (lo := 1) (hi := 1200) e_z_2066 rfl (by decide : (1 : Int32).toInt = 1) b_y_1091 (by decide : (1 : Int) ≤ (1 : Int32).toInt ∧ (1 : Int32).toInt ≤ 1) (by decide)
          refine lv_goto (tgt := 28) hx hb dX1_readTape_104 (by decide) ?_
          exact ih_28_1995 (z_2066, o0_2057, o1_2058, o2_2059, o3_2060, o4_2061, o5_2062, y_2047, y_2048, z_2065, y_2046, y_2049, y_2050, f_2051, f_2052, f_2053, f_2054) _ _ _ ⟨(show (0 : Int) ≤ z_2066.toInt ∧ z_2066.toInt ≤ 1200 from (rg_w b_z_2066 (by decide) (by decide))), (show (0 : Int) ≤ o0_2057.toInt ∧ o0_2057.toInt ≤ 3 from b_o0_2057), (show (-1 : Int) ≤ o1_2058.toInt ∧ o1_2058.toInt ≤ 1200 from b_o1_2058), (show (0 : Int) ≤ o2_2059.toInt ∧ o2_2059.toInt ≤ 4 from b_o2_2059), (show (0 : Int) ≤ o3_2060.toInt ∧ o3_2060.toInt ≤ 1200 from b_o3_2060), (show (0 : Int) ≤ o4_2061.toInt ∧ o4_2061.toInt ≤ 1200 from b_o4_2061), (show (0 : Int) ≤ y_2047.toInt ∧ y_2047.toInt ≤ 12 from b_y_2047), (show (0 : Int) ≤ y_2048.toInt ∧ y_2048.toInt ≤ 16 from b_y_2048), (show (0 : Int) ≤ z_2065.toInt ∧ z_2065.toInt ≤ 1200 from ⟨by omega, by omega⟩), (show (0 : Int) ≤ y_2049.toInt ∧ y_2049.toInt ≤ 9 from b_y_2049), (show (0 : Int) ≤ y_2050.toInt ∧ y_2050.toInt ≤ 600 from b_y_2050), (show rg f_2054 9 0 600 from ha_f_2054), (show o3_2060.toInt ≤ o4_2061.toInt from (by omega)), (show z_2065.toInt ≤ z_2066.toInt from (by omega)), (show o0_2057.toInt = 0 → z_2065.toInt = 0 ∨ GM y_2047 y_2048 from (fun h9 => Or.inr (hgj (by omega)))), hP, hD, hS, lv_sub hl [0, 1] rfl⟩ (show (1200 - z_2066.toInt).toNat < (1200 - y_1091.toInt).toNat by omega)
        ·
          refine lv_if_ne (tgt := 66) hx hb dX1_readTape_56 (by decide) (fun c_1999 => ?_) (fun c_1999 => ?_)
          ·
            have n_c_1999 : (y_1100.toInt : Int) ≠ 0 := c_ne rfl (by decide) c_1999
            have b_y_1100 : (1 : Int) ≤ y_1100.toInt ∧ y_1100.toInt ≤ 1200 := r_ne1 b_y_1100 (by decide : (0 : Int) ≤ (0 : Int32).toInt ∧ (0 : Int32).toInt ≤ 0) n_c_1999 (by decide)
            refine lv_aload_n hx hb dX1_readTape_66 rfl (lv_at hl 1 rfl) ?_
            have hFc := va_free (wc := [(rd, .inr (0, [.ref tp, .ref sc, .int y_1092, .int y_1093, .int y_1094, .int y_1095, .int y_1096, .int y_1097, .int y_1212])), (tp, .inr (6, [.ref tb, .int ts])), (tb, .inl (cB, 1200, .inl fb)), (sc, .inr (3, [.int y_1098, .int y_1099, .int y_1100, .int y_1213, .int y_1214, .ref en, .ref ki, .ref on, .ref ot])), (ki, .inl (cK, 600, .inl f_1215)), (on, .inl (cO, 600, .inr (.inl f_1216))), (ot, .inl (cT, 600, .inr (.inl f_1217)))]) hD hS hA [0, 1, 2, 3, 4, 5, 6] rfl
            refine va_callv (va_runV (As := []) (rest := []) ⟨hx, hb, hml, hown, hts⟩ (kX1_passLawWord l dC dI rd y_1092 y_1093 y_1094 y_1095 y_1096 y_1097 y_1212 tp tb ts cB fb sc y_1098 y_1099 y_1100 y_1213 y_1214 en ki on ot cK f_1215 cO f_1216 cT f_1217 n0 (H.size) (rg_w b_y_1092 (by decide) (by decide)) b_y_1093 (rg_w b_y_1094 (by decide) (by decide)) b_y_1095 b_y_1096 b_ts b_y_1098 b_y_1099 (rg_w b_y_1100 (by decide) (by decide)) b_y_1213 b_y_1214 (by omega)) (cwV 0 hts gX1_readTape__X1_passLawWord_V48 rfl rfl rfl hd_yX1_passLawWord ⟨lel 7 28 rfl, lel 148 633 rfl⟩) ⟨hx_fb, rcv_X1 hK hP (q0 := 0) rfl, (hx_use hP hD hK hN hX hS hAn hn0 [0, 1, 2, 3, 4, 5, 6] rfl (by decide) rfl [0, 1, 2, 3] rfl tts_0)⟩ rfl rfl hl.1 rfl (lv_room (Nat.le_of_ble_eq_true rfl)) dX1_readTape_67 ⟨lel 0 0 rfl, lel 0 0 rfl⟩) hS (fun q _ h => hFc q h) hFc (fun u_2068 t H1 locs ht hvm hw_r_2067 hB hz1 hk1 hS => ?_)
            obtain ⟨o0_2069, o1_2070, o2_2071, o3_2072, o4_2073, o5_2074, b_o0_2069, b_o1_2070, b_o2_2071, b_o3_2072, b_o4_2073, hf_2075, hP1, hK1, hD1⟩ := hB
            rw [ht] at hP1
            have hK1 := va_K.moved hvm.symm hK1
            obtain ⟨hP, hD⟩ := va_join (wr := [(en, .inl (cE, 9, .inl f_1218))]) (w1 := [(rd, .inr (0, [.ref tp, .ref sc, .int o0_2069, .int o1_2070, .int o2_2071, .int o3_2072, .int o4_2073, .int o5_2074, .int 0])), (tp, .inr (6, [.ref tb, .int ts])), (tb, .inl (cB, 1200, .inl fb)), (sc, .inr (3, [.int y_1098, .int y_1099, .int y_1100, .int y_1213, .int y_1214, .ref en, .ref ki, .ref on, .ref ot])), (ki, .inl (cK, 600, .inl f_1215)), (on, .inl (cO, 600, .inr (.inl f_1216))), (ot, .inl (cT, 600, .inr (.inl f_1217)))]) hP hD [0, 1, 2, 3, 4, 5, 6] [7] rfl rfl (by decide) (by decide) hk1 hFc hP1 hD1
            have hK := (hK.sub (tys' := [(cE, .int)]) [4] rfl).app hK1
            generalize H1 = H at hP hS ⊢
            have hP := hP.sub (ws' := [(rd, .inr (0, [.ref tp, .ref sc, .int o0_2069, .int o1_2070, .int o2_2071, .int o3_2072, .int o4_2073, .int o5_2074, .int 0])), (tp, .inr (6, [.ref tb, .int ts])), (tb, .inl (cB, 1200, .inl fb)), (sc, .inr (3, [.int y_1098, .int y_1099, .int y_1100, .int y_1213, .int y_1214, .ref en, .ref ki, .ref on, .ref ot])), (ki, .inl (cK, 600, .inl f_1215)), (on, .inl (cO, 600, .inr (.inl f_1216))), (ot, .inl (cT, 600, .inr (.inl f_1217))), (en, .inl (cE, 9, .inl f_1218))]) [1, 2, 3, 4, 5, 6, 7, 0] rfl
            have hD := hD.sub (ws' := [(rd, .inr (0, [.ref tp, .ref sc, .int o0_2069, .int o1_2070, .int o2_2071, .int o3_2072, .int o4_2073, .int o5_2074, .int 0])), (tp, .inr (6, [.ref tb, .int ts])), (tb, .inl (cB, 1200, .inl fb)), (sc, .inr (3, [.int y_1098, .int y_1099, .int y_1100, .int y_1213, .int y_1214, .ref en, .ref ki, .ref on, .ref ot])), (ki, .inl (cK, 600, .inl f_1215)), (on, .inl (cO, 600, .inr (.inl f_1216))), (ot, .inl (cT, 600, .inr (.inl f_1217))), (en, .inl (cE, 9, .inl f_1218))]) [1, 2, 3, 4, 5, 6, 7, 0] (by decide) rfl
            have hK := hK.sub (tys' := [(cB, .byte), (cK, .int), (cO, .long), (cT, .long), (cE, .int)]) [1, 2, 3, 4, 0] rfl
            have hP : va_P (dC, dI) vwCl [(rd, .inr (0, [.ref tp, .ref sc, .int o0_2069, .int o1_2070, .int o2_2071, .int o3_2072, .int o4_2073, .int o5_2074, .int 0])), (tp, .inr (6, [.ref tb, .int ts])), (tb, .inl (cB, 1200, .inl fb)), (sc, .inr (3, [.int y_1098, .int y_1099, .int y_1100, .int y_1213, .int y_1214, .ref en, .ref ki, .ref on, .ref ot])), (ki, .inl (cK, 600, .inl f_1215)), (on, .inl (cO, 600, .inr (.inl f_1216))), (ot, .inl (cT, 600, .inr (.inl f_1217))), (en, .inl (cE, 9, .inl f_1218))] H := hP
            have hD : va_D A [(rd, .inr (0, [.ref tp, .ref sc, .int o0_2069, .int o1_2070, .int o2_2071, .int o3_2072, .int o4_2073, .int o5_2074, .int 0])), (tp, .inr (6, [.ref tb, .int ts])), (tb, .inl (cB, 1200, .inl fb)), (sc, .inr (3, [.int y_1098, .int y_1099, .int y_1100, .int y_1213, .int y_1214, .ref en, .ref ki, .ref on, .ref ot])), (ki, .inl (cK, 600, .inl f_1215)), (on, .inl (cO, 600, .inr (.inl f_1216))), (ot, .inl (cT, 600, .inr (.inl f_1217))), (en, .inl (cE, 9, .inl f_1218))] := hD
            have hK : va_K (dC, dI) vwCl [(cB, .byte), (cK, .int), (cO, .long), (cT, .long), (cE, .int)] s := hK
            refine lv_aload_n hx hb dX1_readTape_70 rfl (lv_at hl 1 rfl) ?_
            refine lv_iconst (v := 0) hx hb dX1_readTape_71 (by decide) ?_
            have hFc := va_free (wc := [(rd, .inr (0, [.ref tp, .ref sc, .int o0_2069, .int o1_2070, .int o2_2071, .int o3_2072, .int o4_2073, .int o5_2074, .int 0])), (tp, .inr (6, [.ref tb, .int ts])), (tb, .inl (cB, 1200, .inl fb)), (sc, .inr (3, [.int y_1098, .int y_1099, .int y_1100, .int y_1213, .int y_1214, .ref en, .ref ki, .ref on, .ref ot])), (ki, .inl (cK, 600, .inl f_1215)), (on, .inl (cO, 600, .inr (.inl f_1216))), (ot, .inl (cT, 600, .inr (.inl f_1217)))]) hD hS hA [0, 1, 2, 3, 4, 5, 6] rfl
            refine va_callv (va_runV (As := [.int 0]) (rest := []) ⟨hx, hb, hml, hown, hts⟩ (kX1_readLaw0 l dC dI rd o0_2069 o1_2070 o2_2071 o3_2072 o4_2073 o5_2074 0 tp tb ts cB fb sc y_1098 y_1099 y_1100 y_1213 y_1214 en ki on ot cK f_1215 cO f_1216 cT f_1217 n0 (H.size) b_o0_2069 b_o1_2070 b_o2_2071 b_o3_2072 b_o4_2073 b_ts b_y_1098 b_y_1099 (rg_w b_y_1100 (by decide) (by decide)) b_y_1213 b_y_1214 (by omega)) (cwV 1 hts gX1_readTape__X1_readLaw0_V51 rfl rfl rfl hd_yX1_readLaw ⟨lel 28 28 rfl, lel 633 633 rfl⟩) ⟨hx_fb, rcv_X1 hK hP (q0 := 0) rfl, (hx_use hP hD hK hN hX hS hAn hn0 [0, 1, 2, 3, 4, 5, 6] rfl (by decide) rfl [0, 1, 2, 3] rfl tts_0)⟩ rfl rfl hl.1 rfl (lv_room (Nat.le_of_ble_eq_true rfl)) dX1_readTape_72 ⟨lel 0 0 rfl, lel 0 0 rfl⟩) hS (fun q _ h => hFc q h) hFc (fun u_2077 t H1 locs ht hvm hw_r_2076 hB hz1 hk1 hS => ?_)
            obtain ⟨o0_2078, o1_2079, o2_2080, o3_2081, o4_2082, o5_2083, o6_2084, o7_2085, o8_2086, o9_2087, o10_2088, b_o0_2078, b_o1_2079, b_o2_2080, b_o3_2081, b_o4_2082, b_o7_2085, hf_2089, hP1, hK1, hD1⟩ := hB
            rw [ht] at hP1
            have hK1 := va_K.moved hvm.symm hK1
            obtain ⟨hP, hD⟩ := va_join (wr := [(en, .inl (cE, 9, .inl f_1218))]) (w1 := [(rd, .inr (0, [.ref tp, .ref sc, .int o0_2078, .int o1_2079, .int o2_2080, .int o3_2081, .int o4_2082, .int o5_2083, .int o6_2084])), (tp, .inr (6, [.ref tb, .int ts])), (tb, .inl (cB, 1200, .inl fb)), (sc, .inr (3, [.int y_1098, .int y_1099, .int y_1100, .int y_1213, .int o7_2085, .ref en, .ref ki, .ref on, .ref ot])), (ki, .inl (cK, 600, .inl o8_2086)), (on, .inl (cO, 600, .inr (.inl o9_2087))), (ot, .inl (cT, 600, .inr (.inl o10_2088)))]) hP hD [0, 1, 2, 3, 4, 5, 6] [7] rfl rfl (by decide) (by decide) hk1 hFc hP1 hD1
            have hK := (hK.sub (tys' := [(cE, .int)]) [4] rfl).app hK1
            generalize H1 = H at hP hS ⊢
            have hP := hP.sub (ws' := [(rd, .inr (0, [.ref tp, .ref sc, .int o0_2078, .int o1_2079, .int o2_2080, .int o3_2081, .int o4_2082, .int o5_2083, .int o6_2084])), (tp, .inr (6, [.ref tb, .int ts])), (tb, .inl (cB, 1200, .inl fb)), (sc, .inr (3, [.int y_1098, .int y_1099, .int y_1100, .int y_1213, .int o7_2085, .ref en, .ref ki, .ref on, .ref ot])), (ki, .inl (cK, 600, .inl o8_2086)), (on, .inl (cO, 600, .inr (.inl o9_2087))), (ot, .inl (cT, 600, .inr (.inl o10_2088))), (en, .inl (cE, 9, .inl f_1218))]) [1, 2, 3, 4, 5, 6, 7, 0] rfl
            have hD := hD.sub (ws' := [(rd, .inr (0, [.ref tp, .ref sc, .int o0_2078, .int o1_2079, .int o2_2080, .int o3_2081, .int o4_2082, .int o5_2083, .int o6_2084])), (tp, .inr (6, [.ref tb, .int ts])), (tb, .inl (cB, 1200, .inl fb)), (sc, .inr (3, [.int y_1098, .int y_1099, .int y_1100, .int y_1213, .int o7_2085, .ref en, .ref ki, .ref on, .ref ot])), (ki, .inl (cK, 600, .inl o8_2086)), (on, .inl (cO, 600, .inr (.inl o9_2087))), (ot, .inl (cT, 600, .inr (.inl o10_2088))), (en, .inl (cE, 9, .inl f_1218))]) [1, 2, 3, 4, 5, 6, 7, 0] (by decide) rfl
            have hK := hK.sub (tys' := [(cB, .byte), (cK, .int), (cO, .long), (cT, .long), (cE, .int)]) [1, 2, 3, 4, 0] rfl
            have hP : va_P (dC, dI) vwCl [(rd, .inr (0, [.ref tp, .ref sc, .int o0_2078, .int o1_2079, .int o2_2080, .int o3_2081, .int o4_2082, .int o5_2083, .int o6_2084])), (tp, .inr (6, [.ref tb, .int ts])), (tb, .inl (cB, 1200, .inl fb)), (sc, .inr (3, [.int y_1098, .int y_1099, .int y_1100, .int y_1213, .int o7_2085, .ref en, .ref ki, .ref on, .ref ot])), (ki, .inl (cK, 600, .inl o8_2086)), (on, .inl (cO, 600, .inr (.inl o9_2087))), (ot, .inl (cT, 600, .inr (.inl o10_2088))), (en, .inl (cE, 9, .inl f_1218))] H := hP
            have hD : va_D A [(rd, .inr (0, [.ref tp, .ref sc, .int o0_2078, .int o1_2079, .int o2_2080, .int o3_2081, .int o4_2082, .int o5_2083, .int o6_2084])), (tp, .inr (6, [.ref tb, .int ts])), (tb, .inl (cB, 1200, .inl fb)), (sc, .inr (3, [.int y_1098, .int y_1099, .int y_1100, .int y_1213, .int o7_2085, .ref en, .ref ki, .ref on, .ref ot])), (ki, .inl (cK, 600, .inl o8_2086)), (on, .inl (cO, 600, .inr (.inl o9_2087))), (ot, .inl (cT, 600, .inr (.inl o10_2088))), (en, .inl (cE, 9, .inl f_1218))] := hD
            have hK : va_K (dC, dI) vwCl [(cB, .byte), (cK, .int), (cO, .long), (cT, .long), (cE, .int)] s := hK
            refine lv_aload_n hx hb dX1_readTape_75 rfl (lv_at hl 1 rfl) ?_
            refine va_get (D := (dC, dI)) (ci := 0) (v := .ref sc) (C := RX1) (T := TX1) (N := 9) hx hb hts iX1_readTape_X1 hown hK hP 0 rfl rfl 1 (by decide) (hts (.fieldLink RX1 19 "LuckyTicket$Reader" "script" "LLuckyTicket$Script;") (List.mem_of_getElem? (i := 4) rfl)) (fun _ h9 => h9) rfl dX1_readTape_76 ?_
            have hFc := va_free (wc := [(sc, .inr (3, [.int y_1098, .int y_1099, .int y_1100, .int y_1213, .int o7_2085, .ref en, .ref ki, .ref on, .ref ot])), (en, .inl (cE, 9, .inl f_1218))]) hD hS hA [3, 7] rfl
            refine va_callv (va_runV (As := []) (rest := []) ⟨hx, hb, hml, hown, hts⟩ (kX4_closeLaw l dC dI sc y_1098 y_1099 y_1100 y_1213 o7_2085 en ki on ot cE f_1218 (H.size) b_y_1098 b_y_1099 (rg_w b_y_1100 (by decide) (by decide)) b_y_1213 b_o7_2085 ha_f_1218) (cwV 0 hts gX1_readTape__X4_closeLaw_V55 rfl rfl rfl hd_yX4_closeLaw ⟨lel 1 28 rfl, lel 20 633 rfl⟩) ⟨hw_fb, rcv_X4 hK hP (q0 := 3) rfl, (hw_use hP hD hK hN [3, 7] rfl (by decide) rfl [4] rfl)⟩ rfl rfl hl.1 rfl (lv_room (Nat.le_of_ble_eq_true rfl)) dX1_readTape_79 ⟨lel 0 0 rfl, lel 0 0 rfl⟩) hS (fun q _ h => hFc q h) hFc (fun u_2091 t H1 locs ht hvm hw_r_2090 hB hz1 hk1 hS => ?_)
            obtain ⟨o0_2092, o1_2093, b_o0_2092, ha_2094, hP1, hK1, hD1⟩ := hB
            rw [ht] at hP1
            have hK1 := va_K.moved hvm.symm hK1
            obtain ⟨hP, hD⟩ := va_join (wr := [(rd, .inr (0, [.ref tp, .ref sc, .int o0_2078, .int o1_2079, .int o2_2080, .int o3_2081, .int o4_2082, .int o5_2083, .int o6_2084])), (tp, .inr (6, [.ref tb, .int ts])), (tb, .inl (cB, 1200, .inl fb)), (ki, .inl (cK, 600, .inl o8_2086)), (on, .inl (cO, 600, .inr (.inl o9_2087))), (ot, .inl (cT, 600, .inr (.inl o10_2088)))]) (w1 := [(sc, .inr (3, [.int y_1098, .int y_1099, .int y_1100, .int o0_2092, .int o7_2085, .ref en, .ref ki, .ref on, .ref ot])), (en, .inl (cE, 9, .inl o1_2093))]) hP hD [3, 7] [0, 1, 2, 4, 5, 6] rfl rfl (by decide) (by decide) hk1 hFc hP1 hD1
            have hK := (hK.sub (tys' := [(cB, .byte), (cK, .int), (cO, .long), (cT, .long)]) [0, 1, 2, 3] rfl).app hK1
            generalize H1 = H at hP hS ⊢
            have hP := hP.sub (ws' := [(rd, .inr (0, [.ref tp, .ref sc, .int o0_2078, .int o1_2079, .int o2_2080, .int o3_2081, .int o4_2082, .int o5_2083, .int o6_2084])), (tp, .inr (6, [.ref tb, .int ts])), (tb, .inl (cB, 1200, .inl fb)), (sc, .inr (3, [.int y_1098, .int y_1099, .int y_1100, .int o0_2092, .int o7_2085, .ref en, .ref ki, .ref on, .ref ot])), (ki, .inl (cK, 600, .inl o8_2086)), (on, .inl (cO, 600, .inr (.inl o9_2087))), (ot, .inl (cT, 600, .inr (.inl o10_2088))), (en, .inl (cE, 9, .inl o1_2093))]) [0, 1, 2, 6, 3, 4, 5, 7] rfl
            have hD := hD.sub (ws' := [(rd, .inr (0, [.ref tp, .ref sc, .int o0_2078, .int o1_2079, .int o2_2080, .int o3_2081, .int o4_2082, .int o5_2083, .int o6_2084])), (tp, .inr (6, [.ref tb, .int ts])), (tb, .inl (cB, 1200, .inl fb)), (sc, .inr (3, [.int y_1098, .int y_1099, .int y_1100, .int o0_2092, .int o7_2085, .ref en, .ref ki, .ref on, .ref ot])), (ki, .inl (cK, 600, .inl o8_2086)), (on, .inl (cO, 600, .inr (.inl o9_2087))), (ot, .inl (cT, 600, .inr (.inl o10_2088))), (en, .inl (cE, 9, .inl o1_2093))]) [0, 1, 2, 6, 3, 4, 5, 7] (by decide) rfl
            have hP : va_P (dC, dI) vwCl [(rd, .inr (0, [.ref tp, .ref sc, .int o0_2078, .int o1_2079, .int o2_2080, .int o3_2081, .int o4_2082, .int o5_2083, .int o6_2084])), (tp, .inr (6, [.ref tb, .int ts])), (tb, .inl (cB, 1200, .inl fb)), (sc, .inr (3, [.int y_1098, .int y_1099, .int y_1100, .int o0_2092, .int o7_2085, .ref en, .ref ki, .ref on, .ref ot])), (ki, .inl (cK, 600, .inl o8_2086)), (on, .inl (cO, 600, .inr (.inl o9_2087))), (ot, .inl (cT, 600, .inr (.inl o10_2088))), (en, .inl (cE, 9, .inl o1_2093))] H := hP
            have hD : va_D A [(rd, .inr (0, [.ref tp, .ref sc, .int o0_2078, .int o1_2079, .int o2_2080, .int o3_2081, .int o4_2082, .int o5_2083, .int o6_2084])), (tp, .inr (6, [.ref tb, .int ts])), (tb, .inl (cB, 1200, .inl fb)), (sc, .inr (3, [.int y_1098, .int y_1099, .int y_1100, .int o0_2092, .int o7_2085, .ref en, .ref ki, .ref on, .ref ot])), (ki, .inl (cK, 600, .inl o8_2086)), (on, .inl (cO, 600, .inr (.inl o9_2087))), (ot, .inl (cT, 600, .inr (.inl o10_2088))), (en, .inl (cE, 9, .inl o1_2093))] := hD
            have hK : va_K (dC, dI) vwCl [(cB, .byte), (cK, .int), (cO, .long), (cT, .long), (cE, .int)] s := hK
            exact hj_82_2054 (o0_2078, o1_2079, o2_2080, o3_2081, o4_2082, o5_2083, o6_2084, y_1098, y_1099, o0_2092, o7_2085, o8_2086, o9_2087, o10_2088, o1_2093) _ _ _ ⟨(show (0 : Int) ≤ o0_2078.toInt ∧ o0_2078.toInt ≤ 3 from b_o0_2078), (show (-1 : Int) ≤ o1_2079.toInt ∧ o1_2079.toInt ≤ 1200 from b_o1_2079), (show (0 : Int) ≤ o2_2080.toInt ∧ o2_2080.toInt ≤ 4 from b_o2_2080), (show (0 : Int) ≤ o3_2081.toInt ∧ o3_2081.toInt ≤ 1200 from b_o3_2081), (show (0 : Int) ≤ o4_2082.toInt ∧ o4_2082.toInt ≤ 1200 from b_o4_2082), (show (0 : Int) ≤ y_1098.toInt ∧ y_1098.toInt ≤ 12 from b_y_1098), (show (0 : Int) ≤ y_1099.toInt ∧ y_1099.toInt ≤ 16 from b_y_1099), (show (0 : Int) ≤ o0_2092.toInt ∧ o0_2092.toInt ≤ 9 from (rg_w b_o0_2092 (by decide) (by decide))), (show (0 : Int) ≤ o7_2085.toInt ∧ o7_2085.toInt ≤ 600 from b_o7_2085), (show rg o1_2093 9 0 600 from ha_2094), (show o0_2078.toInt = 0 → GM y_1098 y_1099 from (by first | assumption | exact fun _ => (hgm (by omega)).resolve_left (by omega))), (show y_1100.toInt ≤ y_1091.toInt from (by omega)), (show o3_2081.toInt ≤ o4_2082.toInt from (by omega)), hP, hD, hS, lv_sub hl [0, 1] rfl⟩
          ·
            have n_c_1999 : (y_1100.toInt : Int) = 0 := c_eq rfl (by decide) c_1999
            have b_y_1100 : (0 : Int) ≤ y_1100.toInt ∧ y_1100.toInt ≤ 0 := r_eq1 b_y_1100 (by decide : (0 : Int) ≤ (0 : Int32).toInt ∧ (0 : Int32).toInt ≤ 0) n_c_1999 (by decide)
            refine lv_aload_n hx hb dX1_readTape_59 rfl (lv_at hl 1 rfl) ?_
            have hFc := va_free (wc := [(rd, .inr (0, [.ref tp, .ref sc, .int y_1092, .int y_1093, .int y_1094, .int y_1095, .int y_1096, .int y_1097, .int y_1212])), (tp, .inr (6, [.ref tb, .int ts])), (tb, .inl (cB, 1200, .inl fb)), (sc, .inr (3, [.int y_1098, .int y_1099, .int y_1100, .int y_1213, .int y_1214, .ref en, .ref ki, .ref on, .ref ot])), (ki, .inl (cK, 600, .inl f_1215)), (on, .inl (cO, 600, .inr (.inl f_1216))), (ot, .inl (cT, 600, .inr (.inl f_1217)))]) hD hS hA [0, 1, 2, 3, 4, 5, 6] rfl
            refine va_callv (va_runV (As := []) (rest := []) ⟨hx, hb, hml, hown, hts⟩ (kX1_readMeasures l dC dI rd y_1092 y_1093 y_1094 y_1095 y_1096 y_1097 y_1212 tp tb ts cB fb sc y_1098 y_1099 y_1100 y_1213 y_1214 en ki on ot cK f_1215 cO f_1216 cT f_1217 n0 (H.size) (rg_w b_y_1092 (by decide) (by decide)) b_y_1093 (rg_w b_y_1094 (by decide) (by decide)) b_y_1095 b_y_1096 b_ts b_y_1098 b_y_1099 (rg_w b_y_1100 (by decide) (by decide)) b_y_1213 b_y_1214 (by omega)) (cwV 0 hts gX1_readTape__X1_readMeasures_V45 rfl rfl rfl hd_yX1_readMeasures ⟨lel 7 28 rfl, lel 148 633 rfl⟩) ⟨hx_fb, rcv_X1 hK hP (q0 := 0) rfl, (hx_use hP hD hK hN hX hS hAn hn0 [0, 1, 2, 3, 4, 5, 6] rfl (by decide) rfl [0, 1, 2, 3] rfl tts_0)⟩ rfl rfl hl.1 rfl (lv_room (Nat.le_of_ble_eq_true rfl)) dX1_readTape_60 ⟨lel 0 0 rfl, lel 0 0 rfl⟩) hS (fun q _ h => hFc q h) hFc (fun u_2096 t H1 locs ht hvm hw_r_2095 hB hz1 hk1 hS => ?_)
            obtain ⟨o0_2097, o1_2098, o2_2099, o3_2100, o4_2101, o5_2102, o6_2103, o7_2104, b_o0_2097, b_o1_2098, b_o2_2099, b_o3_2100, b_o4_2101, b_o6_2103, b_o7_2104, hf_2105, hf_2106, hP1, hK1, hD1⟩ := hB
            rw [ht] at hP1
            have hK1 := va_K.moved hvm.symm hK1
            obtain ⟨hP, hD⟩ := va_join (wr := [(en, .inl (cE, 9, .inl f_1218))]) (w1 := [(rd, .inr (0, [.ref tp, .ref sc, .int o0_2097, .int o1_2098, .int o2_2099, .int o3_2100, .int o4_2101, .int o5_2102, .int y_1212])), (tp, .inr (6, [.ref tb, .int ts])), (tb, .inl (cB, 1200, .inl fb)), (sc, .inr (3, [.int o6_2103, .int o7_2104, .int y_1100, .int y_1213, .int y_1214, .ref en, .ref ki, .ref on, .ref ot])), (ki, .inl (cK, 600, .inl f_1215)), (on, .inl (cO, 600, .inr (.inl f_1216))), (ot, .inl (cT, 600, .inr (.inl f_1217)))]) hP hD [0, 1, 2, 3, 4, 5, 6] [7] rfl rfl (by decide) (by decide) hk1 hFc hP1 hD1
            have hK := (hK.sub (tys' := [(cE, .int)]) [4] rfl).app hK1
            generalize H1 = H at hP hS ⊢
            have hP := hP.sub (ws' := [(rd, .inr (0, [.ref tp, .ref sc, .int o0_2097, .int o1_2098, .int o2_2099, .int o3_2100, .int o4_2101, .int o5_2102, .int y_1212])), (tp, .inr (6, [.ref tb, .int ts])), (tb, .inl (cB, 1200, .inl fb)), (sc, .inr (3, [.int o6_2103, .int o7_2104, .int y_1100, .int y_1213, .int y_1214, .ref en, .ref ki, .ref on, .ref ot])), (ki, .inl (cK, 600, .inl f_1215)), (on, .inl (cO, 600, .inr (.inl f_1216))), (ot, .inl (cT, 600, .inr (.inl f_1217))), (en, .inl (cE, 9, .inl f_1218))]) [1, 2, 3, 4, 5, 6, 7, 0] rfl
            have hD := hD.sub (ws' := [(rd, .inr (0, [.ref tp, .ref sc, .int o0_2097, .int o1_2098, .int o2_2099, .int o3_2100, .int o4_2101, .int o5_2102, .int y_1212])), (tp, .inr (6, [.ref tb, .int ts])), (tb, .inl (cB, 1200, .inl fb)), (sc, .inr (3, [.int o6_2103, .int o7_2104, .int y_1100, .int y_1213, .int y_1214, .ref en, .ref ki, .ref on, .ref ot])), (ki, .inl (cK, 600, .inl f_1215)), (on, .inl (cO, 600, .inr (.inl f_1216))), (ot, .inl (cT, 600, .inr (.inl f_1217))), (en, .inl (cE, 9, .inl f_1218))]) [1, 2, 3, 4, 5, 6, 7, 0] (by decide) rfl
            have hK := hK.sub (tys' := [(cB, .byte), (cK, .int), (cO, .long), (cT, .long), (cE, .int)]) [1, 2, 3, 4, 0] rfl
            have hP : va_P (dC, dI) vwCl [(rd, .inr (0, [.ref tp, .ref sc, .int o0_2097, .int o1_2098, .int o2_2099, .int o3_2100, .int o4_2101, .int o5_2102, .int y_1212])), (tp, .inr (6, [.ref tb, .int ts])), (tb, .inl (cB, 1200, .inl fb)), (sc, .inr (3, [.int o6_2103, .int o7_2104, .int y_1100, .int y_1213, .int y_1214, .ref en, .ref ki, .ref on, .ref ot])), (ki, .inl (cK, 600, .inl f_1215)), (on, .inl (cO, 600, .inr (.inl f_1216))), (ot, .inl (cT, 600, .inr (.inl f_1217))), (en, .inl (cE, 9, .inl f_1218))] H := hP
            have hD : va_D A [(rd, .inr (0, [.ref tp, .ref sc, .int o0_2097, .int o1_2098, .int o2_2099, .int o3_2100, .int o4_2101, .int o5_2102, .int y_1212])), (tp, .inr (6, [.ref tb, .int ts])), (tb, .inl (cB, 1200, .inl fb)), (sc, .inr (3, [.int o6_2103, .int o7_2104, .int y_1100, .int y_1213, .int y_1214, .ref en, .ref ki, .ref on, .ref ot])), (ki, .inl (cK, 600, .inl f_1215)), (on, .inl (cO, 600, .inr (.inl f_1216))), (ot, .inl (cT, 600, .inr (.inl f_1217))), (en, .inl (cE, 9, .inl f_1218))] := hD
            have hK : va_K (dC, dI) vwCl [(cB, .byte), (cK, .int), (cO, .long), (cT, .long), (cE, .int)] s := hK
            refine lv_goto (tgt := 82) hx hb dX1_readTape_63 (by decide) ?_
            exact hj_82_2054 (o0_2097, o1_2098, o2_2099, o3_2100, o4_2101, o5_2102, y_1212, o6_2103, o7_2104, y_1213, y_1214, f_1215, f_1216, f_1217, f_1218) _ _ _ ⟨(show (0 : Int) ≤ o0_2097.toInt ∧ o0_2097.toInt ≤ 3 from b_o0_2097), (show (-1 : Int) ≤ o1_2098.toInt ∧ o1_2098.toInt ≤ 1200 from b_o1_2098), (show (0 : Int) ≤ o2_2099.toInt ∧ o2_2099.toInt ≤ 4 from b_o2_2099), (show (0 : Int) ≤ o3_2100.toInt ∧ o3_2100.toInt ≤ 1200 from b_o3_2100), (show (0 : Int) ≤ o4_2101.toInt ∧ o4_2101.toInt ≤ 1200 from b_o4_2101), (show (0 : Int) ≤ o6_2103.toInt ∧ o6_2103.toInt ≤ 12 from b_o6_2103), (show (0 : Int) ≤ o7_2104.toInt ∧ o7_2104.toInt ≤ 16 from b_o7_2104), (show (0 : Int) ≤ y_1213.toInt ∧ y_1213.toInt ≤ 9 from b_y_1213), (show (0 : Int) ≤ y_1214.toInt ∧ y_1214.toInt ≤ 600 from b_y_1214), (show rg f_1218 9 0 600 from ha_f_1218), (show o0_2097.toInt = 0 → GM o6_2103 o7_2104 from (by first | assumption | exact fun _ => (hgm (by omega)).resolve_left (by omega))), (show y_1100.toInt ≤ y_1091.toInt from (by omega)), (show o3_2100.toInt ≤ o4_2101.toInt from (by omega)), hP, hD, hS, lv_sub hl [0, 1] rfl⟩
