def uX2_lineCountF : List Cond := List.cons (.code yX2_lineCount cX2_lineCount 1 (some .int)) (HAppend.hAppend ([.fieldLink RX2 29 "LuckyTicket$Roll" "base" "I", .fieldLink RX2 42 "LuckyTicket$Roll" "tickets" "I"] : List Cond) wsX20)
theorem iX2_lineCountF_X2 : ∀ w ∈ wsX20, w ∈ uX2_lineCountF := fun _ h => (List.mem_cons_of_mem _ (List.mem_append_right _ h))
theorem guX2_lineCountF : GU uX2_lineCountF := gu_cons (gu_app (by decide +kernel) gws_X2)
set_option maxHeartbeats 4000000 in
set_option maxRecDepth 100000 in
theorem kX2_lineCountF (l : Launch) (dC : Nat → ClassId) (dI : Nat → Nat → Nat) (cu : Nat) (ln : Int32) (bs : Int32) (tk : Int32) (lw : Int32) (li : Int32) (fa : Nat) (lu : Nat) (b_ln : (0 : Int) ≤ ln.toInt ∧ ln.toInt ≤ 12) (b_bs : (0 : Int) ≤ bs.toInt ∧ bs.toInt ≤ 16) (b_tk : (0 : Int) ≤ tk.toInt ∧ tk.toInt ≤ 20000) (b_lw : (0 : Int) ≤ lw.toInt ∧ lw.toInt ≤ 9) : Met l yX2_lineCount uX2_lineCountF ({ frames := 0, cells := 0, slots := 0, locals := 0 }) (va_Pc [.ref cu] (pw (dC, dI) vwCl [(cu, .inr (1, [.int ln, .int bs, .int tk, .int lw, .int li, .ref fa, .ref lu]))] [])) (vp_Si (fun r => ((0 : Int) ≤ r.toInt ∧ r.toInt ≤ 10000) ∧ (r.toInt = 0 ∨ (2 ≤ bs.toInt ∧ r.toInt = tk.toInt / bs.toInt)))) 0 0 (fun _ => False) := by
  refine Met.ofW (cc := cX2_lineCount) (maxL := 1) (ret := (some .int)) pn_X2 rfl ?_
  intro p e s m args below meth c s₁ B hml hv
  obtain ⟨rfl, hP, hK, hN⟩ := hv
  have hx := B.exec
  have hb := B.bytes
  have hr := B.returns
  have hts := atoms_spec (ws := uX2_lineCountF) B.pre
  have hown : s.vm.findClass RX2 = some m.cls := hown_of B.named rfl
  have hlocks := B.notSynchronized
  have hl := lv_entry ([.ref cu]) (n := 1) (Nat.le_of_ble_eq_true rfl)
  rw [lg_entry_eq]
  generalize (lg_sl ([.ref cu]) ++ List.replicate (1 - (lg_sl ([.ref cu])).length) Slot.unset).toArray = ls at hl ⊢
  have hl : lv_has ls 1 [(0, .ref cu)] := hl
  refine lv_aload_n hx hb dX2_lineCount_0 rfl (lv_at hl 0 rfl) ?_
  refine va_get (D := (dC, dI)) (ci := 1) (v := .int bs) (C := RX2) (T := TX2) (N := 7) hx hb hts iX2_lineCountF_X2 hown hK hP 0 rfl rfl 1 (by decide) (hts (.fieldLink RX2 29 "LuckyTicket$Roll" "base" "I") (List.mem_of_getElem? (i := 1) rfl)) (fun _ h9 => h9) rfl dX2_lineCount_1 ?_
  refine lv_iconst (v := 1) hx hb dX2_lineCount_4 (by decide) ?_
  refine lv_icmp_le (tgt := 20) hx hb dX2_lineCount_5 (by decide) (fun c_3 => ?_) (fun c_3 => ?_)
  ·
    have n_c_3 : (bs.toInt : Int) ≤ 1 := c_le rfl (by decide) c_3
    have b_bs : (0 : Int) ≤ bs.toInt ∧ bs.toInt ≤ 1 := r_le1 b_bs (by decide : (1 : Int) ≤ (1 : Int32).toInt ∧ (1 : Int32).toInt ≤ 1) n_c_3 (by decide)
    refine lv_iconst (v := 0) hx hb dX2_lineCount_20 (by decide) ?_
    exact W.iret (v := 0) hx hb hr (fun t ht hW => ⟨0, rfl, ⟨(rg_w (by decide : (0 : Int) ≤ (0 : Int32).toInt ∧ (0 : Int32).toInt ≤ 0) (by decide) (by decide)), (Or.inl (by decide))⟩, ht⟩) t_nil dX2_lineCount_21
  ·
    have n_c_3 : (1 : Int) < bs.toInt := c_nle rfl (by decide) c_3
    have b_bs : (2 : Int) ≤ bs.toInt ∧ bs.toInt ≤ 16 := r_lt2 (by decide : (1 : Int) ≤ (1 : Int32).toInt ∧ (1 : Int32).toInt ≤ 1) b_bs n_c_3 (by decide)
    refine lv_aload_n hx hb dX2_lineCount_8 rfl (lv_at hl 0 rfl) ?_
    refine va_get (D := (dC, dI)) (ci := 1) (v := .int tk) (C := RX2) (T := TX2) (N := 7) hx hb hts iX2_lineCountF_X2 hown hK hP 0 rfl rfl 2 (by decide) (hts (.fieldLink RX2 42 "LuckyTicket$Roll" "tickets" "I") (List.mem_of_getElem? (i := 2) rfl)) (fun _ h9 => h9) rfl dX2_lineCount_9 ?_
    refine lv_aload_n hx hb dX2_lineCount_12 rfl (lv_at hl 0 rfl) ?_
    refine va_get (D := (dC, dI)) (ci := 1) (v := .int bs) (C := RX2) (T := TX2) (N := 7) hx hb hts iX2_lineCountF_X2 hown hK hP 0 rfl rfl 1 (by decide) (hts (.fieldLink RX2 29 "LuckyTicket$Roll" "base" "I") (List.mem_of_getElem? (i := 1) rfl)) (fun _ h9 => h9) rfl dX2_lineCount_13 ?_
    refine lv_idiv hx hb dX2_lineCount_16 (ti_ne b_bs (by decide)) ?_
    refine lv_topi (fun z_4 e_z_4 => ?_)
    obtain ⟨q_z_4, b_z_4⟩ := ti_div (hi := 10000) e_z_4 rfl rfl b_tk b_bs (by decide)
    refine lv_goto (tgt := 21) hx hb dX2_lineCount_17 (by decide) ?_
    exact W.iret (v := z_4) hx hb hr (fun t ht hW => ⟨z_4, rfl, ⟨b_z_4, (Or.inr ⟨by omega, by omega⟩)⟩, ht⟩) t_nil dX2_lineCount_21
theorem dX5_prepare_0 : decode cX5_prepare 0 = .ok (.aload_n 0, 1) := by decide +kernel
theorem dX5_prepare_1 : decode cX5_prepare 1 = .ok (.getfield 9, 3) := by decide +kernel
theorem dX5_prepare_4 : decode cX5_prepare 4 = .ok (.arraylength, 1) := by decide +kernel
theorem dX5_prepare_5 : decode cX5_prepare 5 = .ok (.aload_n 1, 1) := by decide +kernel
theorem dX5_prepare_6 : decode cX5_prepare 6 = .ok (.getfield 22, 3) := by decide +kernel
theorem dX5_prepare_9 : decode cX5_prepare 9 = .ok (.if_icmp .ge 26, 3) := by decide +kernel
theorem dX5_prepare_12 : decode cX5_prepare 12 = .ok (.aload_n 0, 1) := by decide +kernel
theorem dX5_prepare_13 : decode cX5_prepare 13 = .ok (.aload_n 1, 1) := by decide +kernel
theorem dX5_prepare_14 : decode cX5_prepare 14 = .ok (.getfield 22, 3) := by decide +kernel
theorem dX5_prepare_17 : decode cX5_prepare 17 = .ok (.newarray .int, 2) := by decide +kernel
theorem dX5_prepare_19 : decode cX5_prepare 19 = .ok (.putfield 9, 3) := by decide +kernel
theorem dX5_prepare_22 : decode cX5_prepare 22 = .ok (.aload_n 0, 1) := by decide +kernel
theorem dX5_prepare_23 : decode cX5_prepare 23 = .ok (.aload_n 1, 1) := by decide +kernel
theorem dX5_prepare_24 : decode cX5_prepare 24 = .ok (.getfield 22, 3) := by decide +kernel
theorem dX5_prepare_27 : decode cX5_prepare 27 = .ok (.newarray .int, 2) := by decide +kernel
theorem dX5_prepare_29 : decode cX5_prepare 29 = .ok (.putfield 15, 3) := by decide +kernel
theorem dX5_prepare_32 : decode cX5_prepare 32 = .ok (.goto 11, 3) := by decide +kernel
theorem dX5_prepare_35 : decode cX5_prepare 35 = .ok (.aload_n 0, 1) := by decide +kernel
theorem dX5_prepare_36 : decode cX5_prepare 36 = .ok (.getfield 15, 3) := by decide +kernel
theorem dX5_prepare_39 : decode cX5_prepare 39 = .ok (.iconst 0, 1) := by decide +kernel
theorem dX5_prepare_40 : decode cX5_prepare 40 = .ok (.invokestatic 28, 3) := by decide +kernel
theorem dX5_prepare_43 : decode cX5_prepare 43 = .ok (.aload_n 1, 1) := by decide +kernel
theorem dX5_prepare_44 : decode cX5_prepare 44 = .ok (.getfield 34, 3) := by decide +kernel
theorem dX5_prepare_47 : decode cX5_prepare 47 = .ok (.aload_n 1, 1) := by decide +kernel
theorem dX5_prepare_48 : decode cX5_prepare 48 = .ok (.invokevirtual 37, 3) := by decide +kernel
theorem dX5_prepare_51 : decode cX5_prepare 51 = .ok (.imul, 1) := by decide +kernel
theorem dX5_prepare_52 : decode cX5_prepare 52 = .ok (.istore_n 2, 1) := by decide +kernel
theorem dX5_prepare_53 : decode cX5_prepare 53 = .ok (.aload_n 0, 1) := by decide +kernel
theorem dX5_prepare_54 : decode cX5_prepare 54 = .ok (.getfield 18, 3) := by decide +kernel
theorem dX5_prepare_57 : decode cX5_prepare 57 = .ok (.arraylength, 1) := by decide +kernel
theorem dX5_prepare_58 : decode cX5_prepare 58 = .ok (.iload_n 2, 1) := by decide +kernel
theorem dX5_prepare_59 : decode cX5_prepare 59 = .ok (.if_icmp .ge 13, 3) := by decide +kernel
theorem dX5_prepare_62 : decode cX5_prepare 62 = .ok (.aload_n 0, 1) := by decide +kernel
theorem dX5_prepare_63 : decode cX5_prepare 63 = .ok (.iload_n 2, 1) := by decide +kernel
theorem dX5_prepare_64 : decode cX5_prepare 64 = .ok (.newarray .byte, 2) := by decide +kernel
theorem dX5_prepare_66 : decode cX5_prepare 66 = .ok (.putfield 18, 3) := by decide +kernel
theorem dX5_prepare_69 : decode cX5_prepare 69 = .ok (.goto 11, 3) := by decide +kernel
theorem dX5_prepare_72 : decode cX5_prepare 72 = .ok (.aload_n 0, 1) := by decide +kernel
theorem dX5_prepare_73 : decode cX5_prepare 73 = .ok (.getfield 18, 3) := by decide +kernel
theorem dX5_prepare_76 : decode cX5_prepare 76 = .ok (.iconst 0, 1) := by decide +kernel
theorem dX5_prepare_77 : decode cX5_prepare 77 = .ok (.invokestatic 41, 3) := by decide +kernel
theorem dX5_prepare_80 : decode cX5_prepare 80 = .ok (.return_, 1) := by decide +kernel
theorem hd_yX5_prepare : yX5_prepare.cls = RX5 ∧ yX5_prepare.cls ≠ "java/lang/invoke/MethodHandle" ∧ yX5_prepare.cls ≠ "java/lang/invoke/VarHandle" ∧ (parseMethodDescriptor yX5_prepare.desc).map (fun d => d.parameters.length) = some 1 := by decide +kernel
def uX5_prepare : List Cond := List.cons (.code yX5_prepare cX5_prepare 3 none) (HAppend.hAppend ([.fieldLink RX5 9 "LuckyTicket$Search" "queue" "[I", .fieldLink RX5 15 "LuckyTicket$Search" "far" "[I", .methodLink RX5 28 yJ7_fill_53178, .static yJ7_fill_53178, .initialized RJ7, .methodLink RX5 37 yX2_lineCount, .instanceMethod yX2_lineCount, .selects RX2 yX2_lineCount yX2_lineCount, .initialized RX2, .fieldLink RX5 18 "LuckyTicket$Search" "gone" "[B", .methodLink RX5 41 yJ7_fill_031fb, .static yJ7_fill_031fb, .arrayClass .byte, .arrayClass .int] : List Cond) (HAppend.hAppend uJ7_fill_53178 (HAppend.hAppend uX2_lineCountF (HAppend.hAppend uJ7_fill_031fb (HAppend.hAppend wsX50 wsX20)))))
theorem iX5_prepare_X5 : ∀ w ∈ wsX50, w ∈ uX5_prepare := fun _ h => (List.mem_cons_of_mem _ (List.mem_append_right _ (List.mem_append_right _ (List.mem_append_right _ (List.mem_append_right _ (List.mem_append_left _ h))))))
theorem iX5_prepare_X2 : ∀ w ∈ wsX20, w ∈ uX5_prepare := fun _ h => (List.mem_cons_of_mem _ (List.mem_append_right _ (List.mem_append_right _ (List.mem_append_right _ (List.mem_append_right _ (List.mem_append_right _ h))))))
theorem guX5_prepare : GU uX5_prepare := gu_cons (gu_app (by decide +kernel) (gu_ap guJ7_fill_53178 (gu_ap guX2_lineCountF (gu_ap guJ7_fill_031fb (gu_ap gws_X5 gws_X2)))))
theorem gX5_prepare__J7_fill_53178_S28 : GoodIn uX5_prepare (va_wsS RX5 28 yJ7_fill_53178 uJ7_fill_53178) := gin_S (List.mem_of_getElem? (i := 3) rfl) (List.mem_of_getElem? (i := 4) rfl) (List.mem_of_getElem? (i := 5) rfl) (fun _ h => (List.mem_cons_of_mem _ (List.mem_append_right _ (List.mem_append_left _ h)))) guJ7_fill_53178
theorem gX5_prepare__X2_lineCountF_V37 : GoodIn uX5_prepare (wsV RX5 37 RX2 yX2_lineCount uX2_lineCountF) := gin_V (List.mem_of_getElem? (i := 6) rfl) (List.mem_of_getElem? (i := 7) rfl) (List.mem_of_getElem? (i := 8) rfl) (List.mem_of_getElem? (i := 9) rfl) (fun _ h => (List.mem_cons_of_mem _ (List.mem_append_right _ (List.mem_append_right _ (List.mem_append_left _ h))))) guX2_lineCountF
theorem gX5_prepare__J7_fill_031fb_S41 : GoodIn uX5_prepare (va_wsS RX5 41 yJ7_fill_031fb uJ7_fill_031fb) := gin_S (List.mem_of_getElem? (i := 11) rfl) (List.mem_of_getElem? (i := 12) rfl) (List.mem_of_getElem? (i := 5) rfl) (fun _ h => (List.mem_cons_of_mem _ (List.mem_append_right _ (List.mem_append_right _ (List.mem_append_right _ (List.mem_append_left _ h)))))) guJ7_fill_031fb
set_option maxHeartbeats 4000000 in
set_option maxRecDepth 100000 in
theorem kX5_prepare (l : Launch) (dC : Nat → ClassId) (dI : Nat → Nat → Nat) (se : Nat) (qa : Nat) (qf : Nat) (qg : Nat) (cQ : ClassId) (nq : Nat) (fq : Nat → Int32) (cR : ClassId) (nr : Nat) (fr : Nat → Int32) (cH : ClassId) (ng : Nat) (fh : Nat → Int32) (cu : Nat) (ln : Int32) (bs : Int32) (tk : Int32) (lw : Int32) (li : Int32) (fa : Nat) (lu : Nat) (cc : Nat) (sz : Nat) (b_ln : (0 : Int) ≤ ln.toInt ∧ ln.toInt ≤ 12) (b_bs : (0 : Int) ≤ bs.toInt ∧ bs.toInt ≤ 16) (b_tk : (0 : Int) ≤ tk.toInt ∧ tk.toInt ≤ 20000) (b_lw : (0 : Int) ≤ lw.toInt ∧ lw.toInt ≤ 9) (hnr : nr = nq) (hq1 : nq ≤ 20000) (hq3 : ng ≤ 200000) (hrk : RK ln bs tk) : Met l yX5_prepare uX5_prepare ({ frames := 1, cells := 3, slots := 170000, locals := 23 }) (va_Pc [.ref se, .ref cu] (hg (dC, dI) vwCl [(se, .inr (4, [.ref qa, .ref qf, .ref qg])), (qa, .inl (cQ, nq, .inl fq)), (qf, .inl (cR, nr, .inl fr)), (qg, .inl (cH, ng, .inl fh)), (cu, .inr (1, [.int ln, .int bs, .int tk, .int lw, .int li, .ref fa, .ref lu]))] [(cQ, .int), (cR, .int), (cH, .byte)] sz cc (2 * pot nq + potg ng))) (va_Qv (fun (_ : Unit) => True) (fun (_ : Unit) t => ∃ (o0_ : Nat) (o1_ : ClassId) (o2_ : Nat) (o3_ : Nat → Int32) (o4_ : Nat) (o5_ : ClassId) (o6_ : Nat) (o7_ : Nat → Int32) (o8_ : Nat) (o9_ : ClassId) (o10_ : Nat) (o11_ : Nat → Int32), (o6_ = o2_) ∧ (o2_ ≤ 20000) ∧ (o10_ ≤ 200000) ∧ (tot t.heap + (2 * pot o2_ + potg o10_) ≤ cc) ∧ va_P (dC, dI) vwCl [(se, .inr (4, [.ref o0_, .ref o4_, .ref o8_])), (o0_, .inl (o1_, o2_, .inl o3_)), (o4_, .inl (o5_, o6_, .inl o7_)), (o8_, .inl (o9_, o10_, .inl o11_)), (cu, .inr (1, [.int ln, .int bs, .int tk, .int lw, .int li, .ref fa, .ref lu]))] t.heap ∧ va_K (dC, dI) vwCl [(o1_, .int), (o5_, .int), (o9_, .byte)] t ∧ va_D (va_A [(se, .inr (4, [.ref qa, .ref qf, .ref qg])), (qa, .inl (cQ, nq, .inl fq)), (qf, .inl (cR, nr, .inl fr)), (qg, .inl (cH, ng, .inl fh)), (cu, .inr (1, [.int ln, .int bs, .int tk, .int lw, .int li, .ref fa, .ref lu]))] sz) [(se, .inr (4, [.ref o0_, .ref o4_, .ref o8_])), (o0_, .inl (o1_, o2_, .inl o3_)), (o4_, .inl (o5_, o6_, .inl o7_)), (o8_, .inl (o9_, o10_, .inl o11_)), (cu, .inr (1, [.int ln, .int bs, .int tk, .int lw, .int li, .ref fa, .ref lu]))]) (va_A [(se, .inr (4, [.ref qa, .ref qf, .ref qg])), (qa, .inl (cQ, nq, .inl fq)), (qf, .inl (cR, nr, .inl fr)), (qg, .inl (cH, ng, .inl fh)), (cu, .inr (1, [.int ln, .int bs, .int tk, .int lw, .int li, .ref fa, .ref lu]))] sz)) 3 170000 (va_A [(se, .inr (4, [.ref qa, .ref qf, .ref qg])), (qa, .inl (cQ, nq, .inl fq)), (qf, .inl (cR, nr, .inl fr)), (qg, .inl (cH, ng, .inl fh)), (cu, .inr (1, [.int ln, .int bs, .int tk, .int lw, .int li, .ref fa, .ref lu]))] sz) := by
  refine Met.ofW (cc := cX5_prepare) (maxL := 3) (ret := none) pn_X5 rfl ?_
  intro p e s m args below meth c s₁ B hml hv
  obtain ⟨rfl, ⟨hsz, hP, hK, hD0, hN⟩, htot⟩ := hv
  have hx := B.exec
  have hb := B.bytes
  have hr := B.returns
  have hts := atoms_spec (ws := uX5_prepare) B.pre
  have hown : s.vm.findClass RX5 = some m.cls := hown_of B.named rfl
  have hlocks := B.notSynchronized
  subst hsz
  have hD := hD0.self (sz := s.heap.size)
  generalize hAe : va_A [(se, .inr (4, [.ref qa, .ref qf, .ref qg])), (qa, .inl (cQ, nq, .inl fq)), (qf, .inl (cR, nr, .inl fr)), (qg, .inl (cH, ng, .inl fh)), (cu, .inr (1, [.int ln, .int bs, .int tk, .int lw, .int li, .ref fa, .ref lu]))] s.heap.size = A at hD ⊢
  have hA : ∀ q : Nat, s.heap.size ≤ q → A q := fun q h => by rw [← hAe]; exact Or.inr h
  have hS : va_S A s.heap s.heap [] := va_S.rf
  have hP : va_P (dC, dI) vwCl [(se, .inr (4, [.ref qa, .ref qf, .ref qg])), (qa, .inl (cQ, nq, .inl fq)), (qf, .inl (cR, nr, .inl fr)), (qg, .inl (cH, ng, .inl fh)), (cu, .inr (1, [.int ln, .int bs, .int tk, .int lw, .int li, .ref fa, .ref lu]))] s.heap := hP
  have hl := lv_entry ([.ref se, .ref cu]) (n := 3) (Nat.le_of_ble_eq_true rfl)
  rw [lg_entry_eq]
  generalize (lg_sl ([.ref se, .ref cu]) ++ List.replicate (3 - (lg_sl ([.ref se, .ref cu])).length) Slot.unset).toArray = ls at hl ⊢
  have hl : lv_has ls 3 [(0, .ref se), (1, .ref cu)] := hl
  refine lv_aload_n hx hb dX5_prepare_0 rfl (lv_at hl 0 rfl) ?_
  refine va_get (D := (dC, dI)) (ci := 4) (v := .ref qa) (C := RX5) (T := TX5) (N := 3) hx hb hts iX5_prepare_X5 hown hK hP 0 rfl rfl 0 (by decide) (hts (.fieldLink RX5 9 "LuckyTicket$Search" "queue" "[I") (List.mem_of_getElem? (i := 1) rfl)) (fun _ h9 => h9) rfl dX5_prepare_1 ?_
  obtain ⟨z_28, e_z_28⟩ : ∃ y : Int32, y = Int32.ofNat nq := ⟨_, rfl⟩
  refine va_alen (v := z_28) hx hb hK hP 1 0 rfl rfl e_z_28.symm dX5_prepare_4 ?_
  obtain ⟨q_z_28, b_z_28⟩ := ti_len (hi := 20000) e_z_28 (by omega) (by decide)
  refine lv_aload_n hx hb dX5_prepare_5 rfl (lv_at hl 1 rfl) ?_
  refine va_getN (own := RX5) (index := 22) (ref := RX2) (host := RX9) (D := (dC, dI)) (ci := 1) (v := .int tk) (C := RX2) (T := TX2) (N := 7) hx hb hts iX5_prepare_X2 hown hK hP 4 rfl rfl 2 (by decide) (va_Nw.use rfl (hN _ (List.mem_of_getElem? (i := 17) rfl))) (fun _ h9 => h9) rfl dX5_prepare_6 ?_
  refine lv_icmp_ge (tgt := 35) hx hb dX5_prepare_9 (by decide) (fun c_29 => ?_) (fun c_29 => ?_)
  ·
    have n_c_29 : (tk.toInt : Int) ≤ z_28.toInt := c_ge rfl rfl c_29
    refine lv_aload_n hx hb dX5_prepare_35 rfl (lv_at hl 0 rfl) ?_
    refine va_get (D := (dC, dI)) (ci := 4) (v := .ref qf) (C := RX5) (T := TX5) (N := 3) hx hb hts iX5_prepare_X5 hown hK hP 0 rfl rfl 1 (by decide) (hts (.fieldLink RX5 15 "LuckyTicket$Search" "far" "[I") (List.mem_of_getElem? (i := 2) rfl)) (fun _ h9 => h9) rfl dX5_prepare_36 ?_
    refine lv_iconst (v := 0) hx hb dX5_prepare_39 (by decide) ?_
    have hFc := va_free (wc := [(qf, .inl (cR, nr, .inl fr))]) hD hS hA [2] rfl
    refine va_callv (va_runS (As := [.ref qf, .int 0]) (rest := []) ⟨hx, hb, hml, hown, hts⟩ (kJ7_fill_53178 l dC dI qf cR nr fr 0 (s.heap.size) (by omega)) (va_cwS 2 hts gX5_prepare__J7_fill_53178_S28 rfl rfl rfl hd_yJ7_fill_53178.2 ⟨lel 1 1 rfl, lel 23 23 rfl⟩) ⟨hw_fb, (hw_use hP hD hK hN [2] rfl (by decide) rfl [1] rfl)⟩ rfl rfl hl.1 rfl (lv_room (Nat.le_of_ble_eq_true rfl)) dX5_prepare_40 ⟨lel 0 3 rfl, lel 0 170000 rfl⟩) hS (fun q _ h => hFc q h) hFc (fun u_31 t H1 locs ht hvm hw_r_30 hB hz1 hk1 hS => ?_)
    obtain ⟨o0_32, hP1, hK1, hD1⟩ := hB
    rw [ht] at hP1
    have hK1 := va_K.moved hvm.symm hK1
    obtain ⟨hP, hD⟩ := va_join (wr := [(se, .inr (4, [.ref qa, .ref qf, .ref qg])), (qa, .inl (cQ, nq, .inl fq)), (qg, .inl (cH, ng, .inl fh)), (cu, .inr (1, [.int ln, .int bs, .int tk, .int lw, .int li, .ref fa, .ref lu]))]) (w1 := [(qf, .inl (cR, nr, .inl o0_32))]) hP hD [2] [0, 1, 3, 4] rfl rfl (by decide) (by decide) hk1 hFc hP1 hD1
    have hK := (hK.sub (tys' := [(cQ, .int), (cH, .byte)]) [0, 2] rfl).app hK1
    generalize H1 = H at hP hS ⊢
    have hP := hP.sub (ws' := [(se, .inr (4, [.ref qa, .ref qf, .ref qg])), (qa, .inl (cQ, nq, .inl fq)), (qf, .inl (cR, nr, .inl o0_32)), (qg, .inl (cH, ng, .inl fh)), (cu, .inr (1, [.int ln, .int bs, .int tk, .int lw, .int li, .ref fa, .ref lu]))]) [0, 1, 4, 2, 3] rfl
    have hD := hD.sub (ws' := [(se, .inr (4, [.ref qa, .ref qf, .ref qg])), (qa, .inl (cQ, nq, .inl fq)), (qf, .inl (cR, nr, .inl o0_32)), (qg, .inl (cH, ng, .inl fh)), (cu, .inr (1, [.int ln, .int bs, .int tk, .int lw, .int li, .ref fa, .ref lu]))]) [0, 1, 4, 2, 3] (by decide) rfl
    have hK := hK.sub (tys' := [(cQ, .int), (cR, .int), (cH, .byte)]) [0, 2, 1] rfl
    have hP : va_P (dC, dI) vwCl [(se, .inr (4, [.ref qa, .ref qf, .ref qg])), (qa, .inl (cQ, nq, .inl fq)), (qf, .inl (cR, nr, .inl o0_32)), (qg, .inl (cH, ng, .inl fh)), (cu, .inr (1, [.int ln, .int bs, .int tk, .int lw, .int li, .ref fa, .ref lu]))] H := hP
    have hD : va_D A [(se, .inr (4, [.ref qa, .ref qf, .ref qg])), (qa, .inl (cQ, nq, .inl fq)), (qf, .inl (cR, nr, .inl o0_32)), (qg, .inl (cH, ng, .inl fh)), (cu, .inr (1, [.int ln, .int bs, .int tk, .int lw, .int li, .ref fa, .ref lu]))] := hD
    have hK : va_K (dC, dI) vwCl [(cQ, .int), (cR, .int), (cH, .byte)] s := hK
    refine lv_aload_n hx hb dX5_prepare_43 rfl (lv_at hl 1 rfl) ?_
    refine va_getN (own := RX5) (index := 34) (ref := RX2) (host := RX9) (D := (dC, dI)) (ci := 1) (v := .int ln) (C := RX2) (T := TX2) (N := 7) hx hb hts iX5_prepare_X2 hown hK hP 4 rfl rfl 0 (by decide) (va_Nw.use rfl (hN _ (List.mem_of_getElem? (i := 13) rfl))) (fun _ h9 => h9) rfl dX5_prepare_44 ?_
    refine lv_aload_n hx hb dX5_prepare_47 rfl (lv_at hl 1 rfl) ?_
    refine vp_callSi (W.runV (As := []) (rest := [.int ln]) ⟨hx, hb, hml, hown, hts⟩ (kX2_lineCountF l dC dI cu ln bs tk lw li fa lu b_ln b_bs b_tk b_lw) (cwV 0 hts gX5_prepare__X2_lineCountF_V37 rfl rfl rfl hd_yX2_lineCount ⟨lel 1 1 rfl, lel 20 23 rfl⟩) ⟨pw_fb, rcv_X2 hK hP (q0 := 4) rfl, (pw_use hP hK hN [4] rfl [] rfl)⟩ rfl rfl hl.1 rfl (lv_room (Nat.le_of_ble_eq_true rfl)) dX5_prepare_48 ⟨lel 0 3 rfl, lel 0 170000 rfl⟩) (fun r_33 h_r_33 => ?_)
    obtain ⟨b_r_33, pr_r_33⟩ := h_r_33
    have b_r_33 : (0 : Int) ≤ r_33.toInt ∧ r_33.toInt ≤ 10000 := b_r_33
    refine lv_imul hx hb dX5_prepare_51 ?_
    refine lv_topi (fun z_34 e_z_34 => ?_)
    obtain ⟨q_z_34, b_z_34⟩ := ti_mul (lo := 0) (hi := 120000) e_z_34 rfl rfl b_ln b_r_33 (by decide)
    refine lv_istore_n (lv' := [(2, .int z_34), (0, .ref se), (1, .ref cu)]) hx hb dX5_prepare_52 rfl hl (by decide) rfl (fun ls hl => ?_)
    refine lv_aload_n hx hb dX5_prepare_53 rfl (lv_at hl 1 rfl) ?_
    refine va_get (D := (dC, dI)) (ci := 4) (v := .ref qg) (C := RX5) (T := TX5) (N := 3) hx hb hts iX5_prepare_X5 hown hK hP 0 rfl rfl 2 (by decide) (hts (.fieldLink RX5 18 "LuckyTicket$Search" "gone" "[B") (List.mem_of_getElem? (i := 10) rfl)) (fun _ h9 => h9) rfl dX5_prepare_54 ?_
    obtain ⟨z_35, e_z_35⟩ : ∃ y : Int32, y = Int32.ofNat ng := ⟨_, rfl⟩
    refine va_alen (v := z_35) hx hb hK hP 3 2 rfl rfl e_z_35.symm dX5_prepare_57 ?_
    obtain ⟨q_z_35, b_z_35⟩ := ti_len (hi := 200000) e_z_35 (by omega) (by decide)
    refine lv_iload_n hx hb dX5_prepare_58 rfl (lv_at hl 0 rfl) ?_
    refine lv_icmp_ge (tgt := 72) hx hb dX5_prepare_59 (by decide) (fun c_36 => ?_) (fun c_36 => ?_)
    ·
      have n_c_36 : (z_34.toInt : Int) ≤ z_35.toInt := c_ge rfl rfl c_36
      refine lv_aload_n hx hb dX5_prepare_72 rfl (lv_at hl 1 rfl) ?_
      refine va_get (D := (dC, dI)) (ci := 4) (v := .ref qg) (C := RX5) (T := TX5) (N := 3) hx hb hts iX5_prepare_X5 hown hK hP 0 rfl rfl 2 (by decide) (hts (.fieldLink RX5 18 "LuckyTicket$Search" "gone" "[B") (List.mem_of_getElem? (i := 10) rfl)) (fun _ h9 => h9) rfl dX5_prepare_73 ?_
      refine lv_iconst (v := 0) hx hb dX5_prepare_76 (by decide) ?_
      have hFc := va_free (wc := [(qg, .inl (cH, ng, .inl fh))]) hD hS hA [3] rfl
      refine va_callv (va_runS (As := [.ref qg, .int 0]) (rest := []) ⟨hx, hb, hml, hown, hts⟩ (kJ7_fill_031fb l dC dI qg cH ng fh 0 (H.size) (by omega)) (va_cwS 2 hts gX5_prepare__J7_fill_031fb_S41 rfl rfl rfl hd_yJ7_fill_031fb.2 ⟨lel 1 1 rfl, lel 23 23 rfl⟩) ⟨hw_fb, (hw_use hP hD hK hN [3] rfl (by decide) rfl [2] rfl)⟩ rfl rfl hl.1 rfl (lv_room (Nat.le_of_ble_eq_true rfl)) dX5_prepare_77 ⟨lel 0 3 rfl, lel 0 170000 rfl⟩) hS (fun q _ h => hFc q h) hFc (fun u_38 t H1 locs ht hvm hw_r_37 hB hz1 hk1 hS => ?_)
      obtain ⟨o0_39, hP1, hK1, hD1⟩ := hB
      rw [ht] at hP1
      have hK1 := va_K.moved hvm.symm hK1
      obtain ⟨hP, hD⟩ := va_join (wr := [(se, .inr (4, [.ref qa, .ref qf, .ref qg])), (qa, .inl (cQ, nq, .inl fq)), (qf, .inl (cR, nr, .inl o0_32)), (cu, .inr (1, [.int ln, .int bs, .int tk, .int lw, .int li, .ref fa, .ref lu]))]) (w1 := [(qg, .inl (cH, ng, .inl o0_39))]) hP hD [3] [0, 1, 2, 4] rfl rfl (by decide) (by decide) hk1 hFc hP1 hD1
      have hK := (hK.sub (tys' := [(cQ, .int), (cR, .int)]) [0, 1] rfl).app hK1
      generalize H1 = H at hP hS ⊢
      have hP := hP.sub (ws' := [(se, .inr (4, [.ref qa, .ref qf, .ref qg])), (qa, .inl (cQ, nq, .inl fq)), (qf, .inl (cR, nr, .inl o0_32)), (qg, .inl (cH, ng, .inl o0_39)), (cu, .inr (1, [.int ln, .int bs, .int tk, .int lw, .int li, .ref fa, .ref lu]))]) [0, 1, 2, 4, 3] rfl
      have hD := hD.sub (ws' := [(se, .inr (4, [.ref qa, .ref qf, .ref qg])), (qa, .inl (cQ, nq, .inl fq)), (qf, .inl (cR, nr, .inl o0_32)), (qg, .inl (cH, ng, .inl o0_39)), (cu, .inr (1, [.int ln, .int bs, .int tk, .int lw, .int li, .ref fa, .ref lu]))]) [0, 1, 2, 4, 3] (by decide) rfl
      have hP : va_P (dC, dI) vwCl [(se, .inr (4, [.ref qa, .ref qf, .ref qg])), (qa, .inl (cQ, nq, .inl fq)), (qf, .inl (cR, nr, .inl o0_32)), (qg, .inl (cH, ng, .inl o0_39)), (cu, .inr (1, [.int ln, .int bs, .int tk, .int lw, .int li, .ref fa, .ref lu]))] H := hP
      have hD : va_D A [(se, .inr (4, [.ref qa, .ref qf, .ref qg])), (qa, .inl (cQ, nq, .inl fq)), (qf, .inl (cR, nr, .inl o0_32)), (qg, .inl (cH, ng, .inl o0_39)), (cu, .inr (1, [.int ln, .int bs, .int tk, .int lw, .int li, .ref fa, .ref lu]))] := hD
      have hK : va_K (dC, dI) vwCl [(cQ, .int), (cR, .int), (cH, .byte)] s := hK
      have hP9 := hP.sub (ws' := [(se, .inr (4, [.ref qa, .ref qf, .ref qg])), (qa, .inl (cQ, nq, .inl fq)), (qf, .inl (cR, nr, .inl o0_32)), (qg, .inl (cH, ng, .inl o0_39)), (cu, .inr (1, [.int ln, .int bs, .int tk, .int lw, .int li, .ref fa, .ref lu]))]) [0, 1, 2, 3, 4] rfl
      have hD9 := hD.sub (ws' := [(se, .inr (4, [.ref qa, .ref qf, .ref qg])), (qa, .inl (cQ, nq, .inl fq)), (qf, .inl (cR, nr, .inl o0_32)), (qg, .inl (cH, ng, .inl o0_39)), (cu, .inr (1, [.int ln, .int bs, .int tk, .int lw, .int li, .ref fa, .ref lu]))]) [0, 1, 2, 3, 4] (by decide) rfl
      have hK9 := hK.sub (tys' := [(cQ, .int), (cR, .int), (cH, .byte)]) [0, 1, 2] rfl
      refine W.know (fun hkn => ?_)
      have htt9 : tot H + (2 * pot nq + potg ng) ≤ cc := by omega
      refine W.widen (k := 3) (n := 170000) (lel _ _ rfl) (by omega) ?_
      exact W.vret hx hb hr (fun t ht hW => ⟨⟨(), rfl, trivial, qa, cQ, nq, fq, qf, cR, nr, o0_32, qg, cH, ng, o0_39, (by omega), (by omega), (by omega), (by rw [ht]; exact htt9), by rw [ht]; exact hP9, va_K.moved hW.alike hK9, hD9⟩, hS.F ht⟩) hS.2.2 dX5_prepare_80
    ·
      have n_c_36 : (z_35.toInt : Int) < z_34.toInt := c_nge rfl rfl c_36
      have b_z_35 : (0 : Int) ≤ z_35.toInt ∧ z_35.toInt ≤ 119999 := r_lt1 b_z_35 b_z_34 n_c_36 (by decide)
      have b_z_34 : (1 : Int) ≤ z_34.toInt ∧ z_34.toInt ≤ 120000 := r_lt2 b_z_35 b_z_34 n_c_36 (by decide)
      refine lv_aload_n hx hb dX5_prepare_62 rfl (lv_at hl 1 rfl) ?_
      refine lv_iload_n hx hb dX5_prepare_63 rfl (lv_at hl 0 rfl) ?_
      have hcl_q_40 : ((z_34.toNatClampNeg : Nat) : Int) = z_34.toInt := cl_nn (by have q0 := b_z_34; omega)
      have hcm_q_40 : z_34.toNatClampNeg ≤ 120000 := by have q0 := b_z_34; omega
      refine va_newa (atype := .byte) (ty := .byte) (a0 := (z_34.toNatClampNeg, .inl (fun _ => 0))) (N' := z_34.toNatClampNeg) hx hb (hts (.arrayClass .byte) (List.mem_of_getElem? (i := 13) rfl)) rfl hK hP hD hS hA (fun cA => na2_byte cA _) (ti_nn (by have q0 := b_z_34; omega)) rfl (show z_34.toNatClampNeg * 1 ≤ 536870912 from by omega) (lel 1 3 rfl) (show 0 + z_34.toNatClampNeg ≤ (170000 : Nat) from by omega) dX5_prepare_64 (fun q_40 cA_41 H hK hP hD hS => ?_)
      have hP : va_P (dC, dI) vwCl [(se, .inr (4, [.ref qa, .ref qf, .ref qg])), (qa, .inl (cQ, nq, .inl fq)), (qf, .inl (cR, nr, .inl o0_32)), (qg, .inl (cH, ng, .inl fh)), (cu, .inr (1, [.int ln, .int bs, .int tk, .int lw, .int li, .ref fa, .ref lu])), (q_40, .inl (cA_41, z_34.toNatClampNeg, .inl (fun _ => 0)))] H := hP
      have hD : va_D A [(se, .inr (4, [.ref qa, .ref qf, .ref qg])), (qa, .inl (cQ, nq, .inl fq)), (qf, .inl (cR, nr, .inl o0_32)), (qg, .inl (cH, ng, .inl fh)), (cu, .inr (1, [.int ln, .int bs, .int tk, .int lw, .int li, .ref fa, .ref lu])), (q_40, .inl (cA_41, z_34.toNatClampNeg, .inl (fun _ => 0)))] := hD
      have hK : va_K (dC, dI) vwCl [(cQ, .int), (cR, .int), (cH, .byte), (cA_41, .byte)] s := hK
      refine va_put (D := (dC, dI)) (ci := 4) (v := .ref q_40) (ty := .array .byte) (C := RX5) (T := TX5) (N := 3) hx hb hts iX5_prepare_X5 tyX5 tyX5_ok nmX5 hown hK hP hD hS 0 rfl rfl 2 (by decide) (hts (.fieldLink RX5 18 "LuckyTicket$Search" "gone" "[B") (List.mem_of_getElem? (i := 10) rfl)) (fun _ h9 => h9) rfl (by decide +kernel) rfl rfl (Nat.le_of_ble_eq_true rfl) dX5_prepare_66 (fun H locs hP hD hS => ?_)
      have hP : va_P (dC, dI) vwCl [(se, .inr (4, [.ref qa, .ref qf, .ref q_40])), (qa, .inl (cQ, nq, .inl fq)), (qf, .inl (cR, nr, .inl o0_32)), (qg, .inl (cH, ng, .inl fh)), (cu, .inr (1, [.int ln, .int bs, .int tk, .int lw, .int li, .ref fa, .ref lu])), (q_40, .inl (cA_41, z_34.toNatClampNeg, .inl (fun _ => 0)))] H := hP
      have hD : va_D A [(se, .inr (4, [.ref qa, .ref qf, .ref q_40])), (qa, .inl (cQ, nq, .inl fq)), (qf, .inl (cR, nr, .inl o0_32)), (qg, .inl (cH, ng, .inl fh)), (cu, .inr (1, [.int ln, .int bs, .int tk, .int lw, .int li, .ref fa, .ref lu])), (q_40, .inl (cA_41, z_34.toNatClampNeg, .inl (fun _ => 0)))] := hD
      refine lv_goto (tgt := 80) hx hb dX5_prepare_69 (by decide) ?_
      have hP9 := hP.sub (ws' := [(se, .inr (4, [.ref qa, .ref qf, .ref q_40])), (qa, .inl (cQ, nq, .inl fq)), (qf, .inl (cR, nr, .inl o0_32)), (q_40, .inl (cA_41, z_34.toNatClampNeg, .inl (fun _ => 0))), (cu, .inr (1, [.int ln, .int bs, .int tk, .int lw, .int li, .ref fa, .ref lu]))]) [0, 1, 2, 5, 4] rfl
      have hD9 := hD.sub (ws' := [(se, .inr (4, [.ref qa, .ref qf, .ref q_40])), (qa, .inl (cQ, nq, .inl fq)), (qf, .inl (cR, nr, .inl o0_32)), (q_40, .inl (cA_41, z_34.toNatClampNeg, .inl (fun _ => 0))), (cu, .inr (1, [.int ln, .int bs, .int tk, .int lw, .int li, .ref fa, .ref lu]))]) [0, 1, 2, 5, 4] (by decide) rfl
      have hK9 := hK.sub (tys' := [(cQ, .int), (cR, .int), (cA_41, .byte)]) [0, 1, 3] rfl
      refine W.know (fun hkn => ?_)
      have hpq := potg_grow hrk pr_r_33 q_z_34 (show (ng : Int) < z_34.toInt from by omega)
      have htt9 : tot H + (2 * pot nq + potg z_34.toNatClampNeg) ≤ cc := by omega
      refine W.widen (k := 3) (n := 170000) (lel _ _ rfl) (by omega) ?_
      exact W.vret hx hb hr (fun t ht hW => ⟨⟨(), rfl, trivial, qa, cQ, nq, fq, qf, cR, nr, o0_32, q_40, cA_41, z_34.toNatClampNeg, (fun _ => 0), (by omega), (by omega), (by omega), (by rw [ht]; exact htt9), by rw [ht]; exact hP9, va_K.moved hW.alike hK9, hD9⟩, hS.F ht⟩) hS.2.2 dX5_prepare_80
  ·
    have n_c_29 : (z_28.toInt : Int) < tk.toInt := c_nge rfl rfl c_29
    have b_z_28 : (0 : Int) ≤ z_28.toInt ∧ z_28.toInt ≤ 19999 := r_lt1 b_z_28 b_tk n_c_29 (by decide)
    have b_tk : (1 : Int) ≤ tk.toInt ∧ tk.toInt ≤ 20000 := r_lt2 b_z_28 b_tk n_c_29 (by decide)
    refine lv_aload_n hx hb dX5_prepare_12 rfl (lv_at hl 0 rfl) ?_
    refine lv_aload_n hx hb dX5_prepare_13 rfl (lv_at hl 1 rfl) ?_
    refine va_getN (own := RX5) (index := 22) (ref := RX2) (host := RX9) (D := (dC, dI)) (ci := 1) (v := .int tk) (C := RX2) (T := TX2) (N := 7) hx hb hts iX5_prepare_X2 hown hK hP 4 rfl rfl 2 (by decide) (va_Nw.use rfl (hN _ (List.mem_of_getElem? (i := 17) rfl))) (fun _ h9 => h9) rfl dX5_prepare_14 ?_
    have hcl_q_42 : ((tk.toNatClampNeg : Nat) : Int) = tk.toInt := cl_nn (by have q0 := b_tk; omega)
    have hcm_q_42 : tk.toNatClampNeg ≤ 20000 := by have q0 := b_tk; omega
    refine va_newa (atype := .int) (ty := .int) (a0 := (tk.toNatClampNeg, .inl (fun _ => 0))) (N' := tk.toNatClampNeg) hx hb (hts (.arrayClass .int) (List.mem_of_getElem? (i := 14) rfl)) rfl hK hP hD hS hA (fun cA => na2_int cA _) (ti_nn (by have q0 := b_tk; omega)) rfl (show tk.toNatClampNeg * 4 ≤ 536870912 from by omega) (lel 1 3 rfl) (show 0 + tk.toNatClampNeg ≤ (170000 : Nat) from by omega) dX5_prepare_17 (fun q_42 cA_43 H hK hP hD hS => ?_)
    have hP : va_P (dC, dI) vwCl [(se, .inr (4, [.ref qa, .ref qf, .ref qg])), (qa, .inl (cQ, nq, .inl fq)), (qf, .inl (cR, nr, .inl fr)), (qg, .inl (cH, ng, .inl fh)), (cu, .inr (1, [.int ln, .int bs, .int tk, .int lw, .int li, .ref fa, .ref lu])), (q_42, .inl (cA_43, tk.toNatClampNeg, .inl (fun _ => 0)))] H := hP
    have hD : va_D A [(se, .inr (4, [.ref qa, .ref qf, .ref qg])), (qa, .inl (cQ, nq, .inl fq)), (qf, .inl (cR, nr, .inl fr)), (qg, .inl (cH, ng, .inl fh)), (cu, .inr (1, [.int ln, .int bs, .int tk, .int lw, .int li, .ref fa, .ref lu])), (q_42, .inl (cA_43, tk.toNatClampNeg, .inl (fun _ => 0)))] := hD
    have hK : va_K (dC, dI) vwCl [(cQ, .int), (cR, .int), (cH, .byte), (cA_43, .int)] s := hK
    refine va_put (D := (dC, dI)) (ci := 4) (v := .ref q_42) (ty := .array .int) (C := RX5) (T := TX5) (N := 3) hx hb hts iX5_prepare_X5 tyX5 tyX5_ok nmX5 hown hK hP hD hS 0 rfl rfl 0 (by decide) (hts (.fieldLink RX5 9 "LuckyTicket$Search" "queue" "[I") (List.mem_of_getElem? (i := 1) rfl)) (fun _ h9 => h9) rfl (by decide +kernel) rfl rfl (Nat.le_of_ble_eq_true rfl) dX5_prepare_19 (fun H locs hP hD hS => ?_)
    have hP : va_P (dC, dI) vwCl [(se, .inr (4, [.ref q_42, .ref qf, .ref qg])), (qa, .inl (cQ, nq, .inl fq)), (qf, .inl (cR, nr, .inl fr)), (qg, .inl (cH, ng, .inl fh)), (cu, .inr (1, [.int ln, .int bs, .int tk, .int lw, .int li, .ref fa, .ref lu])), (q_42, .inl (cA_43, tk.toNatClampNeg, .inl (fun _ => 0)))] H := hP
    have hD : va_D A [(se, .inr (4, [.ref q_42, .ref qf, .ref qg])), (qa, .inl (cQ, nq, .inl fq)), (qf, .inl (cR, nr, .inl fr)), (qg, .inl (cH, ng, .inl fh)), (cu, .inr (1, [.int ln, .int bs, .int tk, .int lw, .int li, .ref fa, .ref lu])), (q_42, .inl (cA_43, tk.toNatClampNeg, .inl (fun _ => 0)))] := hD
    refine lv_aload_n hx hb dX5_prepare_22 rfl (lv_at hl 0 rfl) ?_
    refine lv_aload_n hx hb dX5_prepare_23 rfl (lv_at hl 1 rfl) ?_
    refine va_getN (own := RX5) (index := 22) (ref := RX2) (host := RX9) (D := (dC, dI)) (ci := 1) (v := .int tk) (C := RX2) (T := TX2) (N := 7) hx hb hts iX5_prepare_X2 hown hK hP 4 rfl rfl 2 (by decide) (va_Nw.use rfl (hN _ (List.mem_of_getElem? (i := 17) rfl))) (fun _ h9 => h9) rfl dX5_prepare_24 ?_
    have hcl_q_44 : ((tk.toNatClampNeg : Nat) : Int) = tk.toInt := cl_nn (by have q0 := b_tk; omega)
    have hcm_q_44 : tk.toNatClampNeg ≤ 20000 := by have q0 := b_tk; omega
    refine va_newa (atype := .int) (ty := .int) (a0 := (tk.toNatClampNeg, .inl (fun _ => 0))) (N' := tk.toNatClampNeg) hx hb (hts (.arrayClass .int) (List.mem_of_getElem? (i := 14) rfl)) rfl hK hP hD hS hA (fun cA => na2_int cA _) (ti_nn (by have q0 := b_tk; omega)) rfl (show tk.toNatClampNeg * 4 ≤ 536870912 from by omega) (lel 2 3 rfl) (show 0 + tk.toNatClampNeg + tk.toNatClampNeg ≤ (170000 : Nat) from by omega) dX5_prepare_27 (fun q_44 cA_45 H hK hP hD hS => ?_)
    have hP : va_P (dC, dI) vwCl [(se, .inr (4, [.ref q_42, .ref qf, .ref qg])), (qa, .inl (cQ, nq, .inl fq)), (qf, .inl (cR, nr, .inl fr)), (qg, .inl (cH, ng, .inl fh)), (cu, .inr (1, [.int ln, .int bs, .int tk, .int lw, .int li, .ref fa, .ref lu])), (q_42, .inl (cA_43, tk.toNatClampNeg, .inl (fun _ => 0))), (q_44, .inl (cA_45, tk.toNatClampNeg, .inl (fun _ => 0)))] H := hP
    have hD : va_D A [(se, .inr (4, [.ref q_42, .ref qf, .ref qg])), (qa, .inl (cQ, nq, .inl fq)), (qf, .inl (cR, nr, .inl fr)), (qg, .inl (cH, ng, .inl fh)), (cu, .inr (1, [.int ln, .int bs, .int tk, .int lw, .int li, .ref fa, .ref lu])), (q_42, .inl (cA_43, tk.toNatClampNeg, .inl (fun _ => 0))), (q_44, .inl (cA_45, tk.toNatClampNeg, .inl (fun _ => 0)))] := hD
    have hK : va_K (dC, dI) vwCl [(cQ, .int), (cR, .int), (cH, .byte), (cA_43, .int), (cA_45, .int)] s := hK
    refine va_put (D := (dC, dI)) (ci := 4) (v := .ref q_44) (ty := .array .int) (C := RX5) (T := TX5) (N := 3) hx hb hts iX5_prepare_X5 tyX5 tyX5_ok nmX5 hown hK hP hD hS 0 rfl rfl 1 (by decide) (hts (.fieldLink RX5 15 "LuckyTicket$Search" "far" "[I") (List.mem_of_getElem? (i := 2) rfl)) (fun _ h9 => h9) rfl (by decide +kernel) rfl rfl (Nat.le_of_ble_eq_true rfl) dX5_prepare_29 (fun H locs hP hD hS => ?_)
    have hP : va_P (dC, dI) vwCl [(se, .inr (4, [.ref q_42, .ref q_44, .ref qg])), (qa, .inl (cQ, nq, .inl fq)), (qf, .inl (cR, nr, .inl fr)), (qg, .inl (cH, ng, .inl fh)), (cu, .inr (1, [.int ln, .int bs, .int tk, .int lw, .int li, .ref fa, .ref lu])), (q_42, .inl (cA_43, tk.toNatClampNeg, .inl (fun _ => 0))), (q_44, .inl (cA_45, tk.toNatClampNeg, .inl (fun _ => 0)))] H := hP
    have hD : va_D A [(se, .inr (4, [.ref q_42, .ref q_44, .ref qg])), (qa, .inl (cQ, nq, .inl fq)), (qf, .inl (cR, nr, .inl fr)), (qg, .inl (cH, ng, .inl fh)), (cu, .inr (1, [.int ln, .int bs, .int tk, .int lw, .int li, .ref fa, .ref lu])), (q_42, .inl (cA_43, tk.toNatClampNeg, .inl (fun _ => 0))), (q_44, .inl (cA_45, tk.toNatClampNeg, .inl (fun _ => 0)))] := hD
    refine lv_goto (tgt := 43) hx hb dX5_prepare_32 (by decide) ?_
    refine lv_aload_n hx hb dX5_prepare_43 rfl (lv_at hl 1 rfl) ?_
    refine va_getN (own := RX5) (index := 34) (ref := RX2) (host := RX9) (D := (dC, dI)) (ci := 1) (v := .int ln) (C := RX2) (T := TX2) (N := 7) hx hb hts iX5_prepare_X2 hown hK hP 4 rfl rfl 0 (by decide) (va_Nw.use rfl (hN _ (List.mem_of_getElem? (i := 13) rfl))) (fun _ h9 => h9) rfl dX5_prepare_44 ?_
    refine lv_aload_n hx hb dX5_prepare_47 rfl (lv_at hl 1 rfl) ?_
    refine vp_callSi (W.runV (As := []) (rest := [.int ln]) ⟨hx, hb, hml, hown, hts⟩ (kX2_lineCountF l dC dI cu ln bs tk lw li fa lu b_ln b_bs (rg_w b_tk (by decide) (by decide)) b_lw) (cwV 0 hts gX5_prepare__X2_lineCountF_V37 rfl rfl rfl hd_yX2_lineCount ⟨lel 1 1 rfl, lel 20 23 rfl⟩) ⟨pw_fb, rcv_X2 hK hP (q0 := 4) rfl, (pw_use hP hK hN [4] rfl [] rfl)⟩ rfl rfl hl.1 rfl (lv_room (Nat.le_of_ble_eq_true rfl)) dX5_prepare_48 ⟨lel 2 3 rfl, (show 0 + tk.toNatClampNeg + tk.toNatClampNeg + 0 ≤ (170000 : Nat) from by omega)⟩) (fun r_46 h_r_46 => ?_)
    obtain ⟨b_r_46, pr_r_46⟩ := h_r_46
    have b_r_46 : (0 : Int) ≤ r_46.toInt ∧ r_46.toInt ≤ 10000 := b_r_46
    refine lv_imul hx hb dX5_prepare_51 ?_
    refine lv_topi (fun z_47 e_z_47 => ?_)
    obtain ⟨q_z_47, b_z_47⟩ := ti_mul (lo := 0) (hi := 120000) e_z_47 rfl rfl b_ln b_r_46 (by decide)
    refine lv_istore_n (lv' := [(2, .int z_47), (0, .ref se), (1, .ref cu)]) hx hb dX5_prepare_52 rfl hl (by decide) rfl (fun ls hl => ?_)
    refine lv_aload_n hx hb dX5_prepare_53 rfl (lv_at hl 1 rfl) ?_
    refine va_get (D := (dC, dI)) (ci := 4) (v := .ref qg) (C := RX5) (T := TX5) (N := 3) hx hb hts iX5_prepare_X5 hown hK hP 0 rfl rfl 2 (by decide) (hts (.fieldLink RX5 18 "LuckyTicket$Search" "gone" "[B") (List.mem_of_getElem? (i := 10) rfl)) (fun _ h9 => h9) rfl dX5_prepare_54 ?_
    obtain ⟨z_48, e_z_48⟩ : ∃ y : Int32, y = Int32.ofNat ng := ⟨_, rfl⟩
    refine va_alen (v := z_48) hx hb hK hP 3 2 rfl rfl e_z_48.symm dX5_prepare_57 ?_
    obtain ⟨q_z_48, b_z_48⟩ := ti_len (hi := 200000) e_z_48 (by omega) (by decide)
    refine lv_iload_n hx hb dX5_prepare_58 rfl (lv_at hl 0 rfl) ?_
    refine lv_icmp_ge (tgt := 72) hx hb dX5_prepare_59 (by decide) (fun c_49 => ?_) (fun c_49 => ?_)
    ·
      have n_c_49 : (z_47.toInt : Int) ≤ z_48.toInt := c_ge rfl rfl c_49
      refine lv_aload_n hx hb dX5_prepare_72 rfl (lv_at hl 1 rfl) ?_
      refine va_get (D := (dC, dI)) (ci := 4) (v := .ref qg) (C := RX5) (T := TX5) (N := 3) hx hb hts iX5_prepare_X5 hown hK hP 0 rfl rfl 2 (by decide) (hts (.fieldLink RX5 18 "LuckyTicket$Search" "gone" "[B") (List.mem_of_getElem? (i := 10) rfl)) (fun _ h9 => h9) rfl dX5_prepare_73 ?_
      refine lv_iconst (v := 0) hx hb dX5_prepare_76 (by decide) ?_
      have hFc := va_free (wc := [(qg, .inl (cH, ng, .inl fh))]) hD hS hA [3] rfl
      refine va_callv (va_runS (As := [.ref qg, .int 0]) (rest := []) ⟨hx, hb, hml, hown, hts⟩ (kJ7_fill_031fb l dC dI qg cH ng fh 0 (H.size) (by omega)) (va_cwS 2 hts gX5_prepare__J7_fill_031fb_S41 rfl rfl rfl hd_yJ7_fill_031fb.2 ⟨lel 1 1 rfl, lel 23 23 rfl⟩) ⟨hw_fb, (hw_use hP hD hK hN [3] rfl (by decide) rfl [2] rfl)⟩ rfl rfl hl.1 rfl (lv_room (Nat.le_of_ble_eq_true rfl)) dX5_prepare_77 ⟨lel 2 3 rfl, (show 0 + tk.toNatClampNeg + tk.toNatClampNeg + 0 ≤ (170000 : Nat) from by omega)⟩) hS (fun q _ h => hFc q h) hFc (fun u_51 t H1 locs ht hvm hw_r_50 hB hz1 hk1 hS => ?_)
      obtain ⟨o0_52, hP1, hK1, hD1⟩ := hB
      rw [ht] at hP1
      have hK1 := va_K.moved hvm.symm hK1
      obtain ⟨hP, hD⟩ := va_join (wr := [(se, .inr (4, [.ref q_42, .ref q_44, .ref qg])), (qa, .inl (cQ, nq, .inl fq)), (qf, .inl (cR, nr, .inl fr)), (cu, .inr (1, [.int ln, .int bs, .int tk, .int lw, .int li, .ref fa, .ref lu])), (q_42, .inl (cA_43, tk.toNatClampNeg, .inl (fun _ => 0))), (q_44, .inl (cA_45, tk.toNatClampNeg, .inl (fun _ => 0)))]) (w1 := [(qg, .inl (cH, ng, .inl o0_52))]) hP hD [3] [0, 1, 2, 4, 5, 6] rfl rfl (by decide) (by decide) hk1 hFc hP1 hD1
      have hK := (hK.sub (tys' := [(cQ, .int), (cR, .int), (cA_43, .int), (cA_45, .int)]) [0, 1, 3, 4] rfl).app hK1
      generalize H1 = H at hP hS ⊢
      have hP := hP.sub (ws' := [(se, .inr (4, [.ref q_42, .ref q_44, .ref qg])), (qa, .inl (cQ, nq, .inl fq)), (qf, .inl (cR, nr, .inl fr)), (qg, .inl (cH, ng, .inl o0_52)), (cu, .inr (1, [.int ln, .int bs, .int tk, .int lw, .int li, .ref fa, .ref lu])), (q_42, .inl (cA_43, tk.toNatClampNeg, .inl (fun _ => 0))), (q_44, .inl (cA_45, tk.toNatClampNeg, .inl (fun _ => 0)))]) [0, 1, 2, 6, 3, 4, 5] rfl
      have hD := hD.sub (ws' := [(se, .inr (4, [.ref q_42, .ref q_44, .ref qg])), (qa, .inl (cQ, nq, .inl fq)), (qf, .inl (cR, nr, .inl fr)), (qg, .inl (cH, ng, .inl o0_52)), (cu, .inr (1, [.int ln, .int bs, .int tk, .int lw, .int li, .ref fa, .ref lu])), (q_42, .inl (cA_43, tk.toNatClampNeg, .inl (fun _ => 0))), (q_44, .inl (cA_45, tk.toNatClampNeg, .inl (fun _ => 0)))]) [0, 1, 2, 6, 3, 4, 5] (by decide) rfl
      have hK := hK.sub (tys' := [(cQ, .int), (cR, .int), (cH, .byte), (cA_43, .int), (cA_45, .int)]) [0, 1, 4, 2, 3] rfl
      have hP : va_P (dC, dI) vwCl [(se, .inr (4, [.ref q_42, .ref q_44, .ref qg])), (qa, .inl (cQ, nq, .inl fq)), (qf, .inl (cR, nr, .inl fr)), (qg, .inl (cH, ng, .inl o0_52)), (cu, .inr (1, [.int ln, .int bs, .int tk, .int lw, .int li, .ref fa, .ref lu])), (q_42, .inl (cA_43, tk.toNatClampNeg, .inl (fun _ => 0))), (q_44, .inl (cA_45, tk.toNatClampNeg, .inl (fun _ => 0)))] H := hP
      have hD : va_D A [(se, .inr (4, [.ref q_42, .ref q_44, .ref qg])), (qa, .inl (cQ, nq, .inl fq)), (qf, .inl (cR, nr, .inl fr)), (qg, .inl (cH, ng, .inl o0_52)), (cu, .inr (1, [.int ln, .int bs, .int tk, .int lw, .int li, .ref fa, .ref lu])), (q_42, .inl (cA_43, tk.toNatClampNeg, .inl (fun _ => 0))), (q_44, .inl (cA_45, tk.toNatClampNeg, .inl (fun _ => 0)))] := hD
      have hK : va_K (dC, dI) vwCl [(cQ, .int), (cR, .int), (cH, .byte), (cA_43, .int), (cA_45, .int)] s := hK
      have hP9 := hP.sub (ws' := [(se, .inr (4, [.ref q_42, .ref q_44, .ref qg])), (q_42, .inl (cA_43, tk.toNatClampNeg, .inl (fun _ => 0))), (q_44, .inl (cA_45, tk.toNatClampNeg, .inl (fun _ => 0))), (qg, .inl (cH, ng, .inl o0_52)), (cu, .inr (1, [.int ln, .int bs, .int tk, .int lw, .int li, .ref fa, .ref lu]))]) [0, 5, 6, 3, 4] rfl
      have hD9 := hD.sub (ws' := [(se, .inr (4, [.ref q_42, .ref q_44, .ref qg])), (q_42, .inl (cA_43, tk.toNatClampNeg, .inl (fun _ => 0))), (q_44, .inl (cA_45, tk.toNatClampNeg, .inl (fun _ => 0))), (qg, .inl (cH, ng, .inl o0_52)), (cu, .inr (1, [.int ln, .int bs, .int tk, .int lw, .int li, .ref fa, .ref lu]))]) [0, 5, 6, 3, 4] (by decide) rfl
      have hK9 := hK.sub (tys' := [(cA_43, .int), (cA_45, .int), (cH, .byte)]) [3, 4, 2] rfl
      refine W.know (fun hkn => ?_)
      have hpg := pot_grow hrk.sz (show (nq : Int) < tk.toInt from by omega)
      have htt9 : tot H + (2 * pot tk.toNatClampNeg + potg ng) ≤ cc := by omega
      refine W.widen (k := 3) (n := 170000) (lel _ _ rfl) (by omega) ?_
      exact W.vret hx hb hr (fun t ht hW => ⟨⟨(), rfl, trivial, q_42, cA_43, tk.toNatClampNeg, (fun _ => 0), q_44, cA_45, tk.toNatClampNeg, (fun _ => 0), qg, cH, ng, o0_52, (by omega), (by omega), (by omega), (by rw [ht]; exact htt9), by rw [ht]; exact hP9, va_K.moved hW.alike hK9, hD9⟩, hS.F ht⟩) hS.2.2 dX5_prepare_80
    ·
      have n_c_49 : (z_48.toInt : Int) < z_47.toInt := c_nge rfl rfl c_49
      have b_z_48 : (0 : Int) ≤ z_48.toInt ∧ z_48.toInt ≤ 119999 := r_lt1 b_z_48 b_z_47 n_c_49 (by decide)
      have b_z_47 : (1 : Int) ≤ z_47.toInt ∧ z_47.toInt ≤ 120000 := r_lt2 b_z_48 b_z_47 n_c_49 (by decide)
      refine lv_aload_n hx hb dX5_prepare_62 rfl (lv_at hl 1 rfl) ?_
      refine lv_iload_n hx hb dX5_prepare_63 rfl (lv_at hl 0 rfl) ?_
      have hcl_q_53 : ((z_47.toNatClampNeg : Nat) : Int) = z_47.toInt := cl_nn (by have q0 := b_z_47; omega)
      have hcm_q_53 : z_47.toNatClampNeg ≤ 120000 := by have q0 := b_z_47; omega
      refine va_newa (atype := .byte) (ty := .byte) (a0 := (z_47.toNatClampNeg, .inl (fun _ => 0))) (N' := z_47.toNatClampNeg) hx hb (hts (.arrayClass .byte) (List.mem_of_getElem? (i := 13) rfl)) rfl hK hP hD hS hA (fun cA => na2_byte cA _) (ti_nn (by have q0 := b_z_47; omega)) rfl (show z_47.toNatClampNeg * 1 ≤ 536870912 from by omega) (lel 3 3 rfl) (show 0 + tk.toNatClampNeg + tk.toNatClampNeg + z_47.toNatClampNeg ≤ (170000 : Nat) from by omega) dX5_prepare_64 (fun q_53 cA_54 H hK hP hD hS => ?_)
      have hP : va_P (dC, dI) vwCl [(se, .inr (4, [.ref q_42, .ref q_44, .ref qg])), (qa, .inl (cQ, nq, .inl fq)), (qf, .inl (cR, nr, .inl fr)), (qg, .inl (cH, ng, .inl fh)), (cu, .inr (1, [.int ln, .int bs, .int tk, .int lw, .int li, .ref fa, .ref lu])), (q_42, .inl (cA_43, tk.toNatClampNeg, .inl (fun _ => 0))), (q_44, .inl (cA_45, tk.toNatClampNeg, .inl (fun _ => 0))), (q_53, .inl (cA_54, z_47.toNatClampNeg, .inl (fun _ => 0)))] H := hP
      have hD : va_D A [(se, .inr (4, [.ref q_42, .ref q_44, .ref qg])), (qa, .inl (cQ, nq, .inl fq)), (qf, .inl (cR, nr, .inl fr)), (qg, .inl (cH, ng, .inl fh)), (cu, .inr (1, [.int ln, .int bs, .int tk, .int lw, .int li, .ref fa, .ref lu])), (q_42, .inl (cA_43, tk.toNatClampNeg, .inl (fun _ => 0))), (q_44, .inl (cA_45, tk.toNatClampNeg, .inl (fun _ => 0))), (q_53, .inl (cA_54, z_47.toNatClampNeg, .inl (fun _ => 0)))] := hD
      have hK : va_K (dC, dI) vwCl [(cQ, .int), (cR, .int), (cH, .byte), (cA_43, .int), (cA_45, .int), (cA_54, .byte)] s := hK
      refine va_put (D := (dC, dI)) (ci := 4) (v := .ref q_53) (ty := .array .byte) (C := RX5) (T := TX5) (N := 3) hx hb hts iX5_prepare_X5 tyX5 tyX5_ok nmX5 hown hK hP hD hS 0 rfl rfl 2 (by decide) (hts (.fieldLink RX5 18 "LuckyTicket$Search" "gone" "[B") (List.mem_of_getElem? (i := 10) rfl)) (fun _ h9 => h9) rfl (by decide +kernel) rfl rfl (Nat.le_of_ble_eq_true rfl) dX5_prepare_66 (fun H locs hP hD hS => ?_)
      have hP : va_P (dC, dI) vwCl [(se, .inr (4, [.ref q_42, .ref q_44, .ref q_53])), (qa, .inl (cQ, nq, .inl fq)), (qf, .inl (cR, nr, .inl fr)), (qg, .inl (cH, ng, .inl fh)), (cu, .inr (1, [.int ln, .int bs, .int tk, .int lw, .int li, .ref fa, .ref lu])), (q_42, .inl (cA_43, tk.toNatClampNeg, .inl (fun _ => 0))), (q_44, .inl (cA_45, tk.toNatClampNeg, .inl (fun _ => 0))), (q_53, .inl (cA_54, z_47.toNatClampNeg, .inl (fun _ => 0)))] H := hP
      have hD : va_D A [(se, .inr (4, [.ref q_42, .ref q_44, .ref q_53])), (qa, .inl (cQ, nq, .inl fq)), (qf, .inl (cR, nr, .inl fr)), (qg, .inl (cH, ng, .inl fh)), (cu, .inr (1, [.int ln, .int bs, .int tk, .int lw, .int li, .ref fa, .ref lu])), (q_42, .inl (cA_43, tk.toNatClampNeg, .inl (fun _ => 0))), (q_44, .inl (cA_45, tk.toNatClampNeg, .inl (fun _ => 0))), (q_53, .inl (cA_54, z_47.toNatClampNeg, .inl (fun _ => 0)))] := hD
      refine lv_goto (tgt := 80) hx hb dX5_prepare_69 (by decide) ?_
      have hP9 := hP.sub (ws' := [(se, .inr (4, [.ref q_42, .ref q_44, .ref q_53])), (q_42, .inl (cA_43, tk.toNatClampNeg, .inl (fun _ => 0))), (q_44, .inl (cA_45, tk.toNatClampNeg, .inl (fun _ => 0))), (q_53, .inl (cA_54, z_47.toNatClampNeg, .inl (fun _ => 0))), (cu, .inr (1, [.int ln, .int bs, .int tk, .int lw, .int li, .ref fa, .ref lu]))]) [0, 5, 6, 7, 4] rfl
      have hD9 := hD.sub (ws' := [(se, .inr (4, [.ref q_42, .ref q_44, .ref q_53])), (q_42, .inl (cA_43, tk.toNatClampNeg, .inl (fun _ => 0))), (q_44, .inl (cA_45, tk.toNatClampNeg, .inl (fun _ => 0))), (q_53, .inl (cA_54, z_47.toNatClampNeg, .inl (fun _ => 0))), (cu, .inr (1, [.int ln, .int bs, .int tk, .int lw, .int li, .ref fa, .ref lu]))]) [0, 5, 6, 7, 4] (by decide) rfl
      have hK9 := hK.sub (tys' := [(cA_43, .int), (cA_45, .int), (cA_54, .byte)]) [3, 4, 5] rfl
      refine W.know (fun hkn => ?_)
      have hpg := pot_grow hrk.sz (show (nq : Int) < tk.toInt from by omega)
      have hpq := potg_grow hrk pr_r_46 q_z_47 (show (ng : Int) < z_47.toInt from by omega)
      have htt9 : tot H + (2 * pot tk.toNatClampNeg + potg z_47.toNatClampNeg) ≤ cc := by omega
      refine W.widen (k := 3) (n := 170000) (lel _ _ rfl) (by omega) ?_
      exact W.vret hx hb hr (fun t ht hW => ⟨⟨(), rfl, trivial, q_42, cA_43, tk.toNatClampNeg, (fun _ => 0), q_44, cA_45, tk.toNatClampNeg, (fun _ => 0), q_53, cA_54, z_47.toNatClampNeg, (fun _ => 0), (by omega), (by omega), (by omega), (by rw [ht]; exact htt9), by rw [ht]; exact hP9, va_K.moved hW.alike hK9, hD9⟩, hS.F ht⟩) hS.2.2 dX5_prepare_80
theorem dX9_walk_0 : decode cX9_walk 0 = .ok (.aload_n 0, 1) := by decide +kernel
theorem dX9_walk_1 : decode cX9_walk 1 = .ok (.iload_n 1, 1) := by decide +kernel
theorem dX9_walk_2 : decode cX9_walk 2 = .ok (.iload_n 2, 1) := by decide +kernel
theorem dX9_walk_3 : decode cX9_walk 3 = .ok (.invokevirtual 137, 3) := by decide +kernel
theorem dX9_walk_6 : decode cX9_walk 6 = .ok (.ifCond .eq 14, 3) := by decide +kernel
theorem dX9_walk_9 : decode cX9_walk 9 = .ok (.aload_n 0, 1) := by decide +kernel
theorem dX9_walk_10 : decode cX9_walk 10 = .ok (.getfield 35, 3) := by decide +kernel
theorem dX9_walk_13 : decode cX9_walk 13 = .ok (.iload_n 3, 1) := by decide +kernel
theorem dX9_walk_14 : decode cX9_walk 14 = .ok (.invokevirtual 100, 3) := by decide +kernel
theorem dX9_walk_17 : decode cX9_walk 17 = .ok (.ifCond .ne 6, 3) := by decide +kernel
theorem dX9_walk_20 : decode cX9_walk 20 = .ok (.bipush (-2), 2) := by decide +kernel
theorem dX9_walk_22 : decode cX9_walk 22 = .ok (.ireturn, 1) := by decide +kernel
theorem dX9_walk_23 : decode cX9_walk 23 = .ok (.aload_n 0, 1) := by decide +kernel
theorem dX9_walk_24 : decode cX9_walk 24 = .ok (.getfield 35, 3) := by decide +kernel
theorem dX9_walk_27 : decode cX9_walk 27 = .ok (.iload_n 1, 1) := by decide +kernel
theorem dX9_walk_28 : decode cX9_walk 28 = .ok (.iload_n 2, 1) := by decide +kernel
theorem dX9_walk_29 : decode cX9_walk 29 = .ok (.invokevirtual 175, 3) := by decide +kernel
theorem dX9_walk_32 : decode cX9_walk 32 = .ok (.ifCond .eq 15, 3) := by decide +kernel
theorem dX9_walk_35 : decode cX9_walk 35 = .ok (.aload_n 0, 1) := by decide +kernel
theorem dX9_walk_36 : decode cX9_walk 36 = .ok (.getfield 35, 3) := by decide +kernel
theorem dX9_walk_39 : decode cX9_walk 39 = .ok (.iload_n 1, 1) := by decide +kernel
theorem dX9_walk_40 : decode cX9_walk 40 = .ok (.iload_n 3, 1) := by decide +kernel
theorem dX9_walk_41 : decode cX9_walk 41 = .ok (.invokevirtual 175, 3) := by decide +kernel
theorem dX9_walk_44 : decode cX9_walk 44 = .ok (.ifCond .ne 5, 3) := by decide +kernel
theorem dX9_walk_47 : decode cX9_walk 47 = .ok (.iconst (-1), 1) := by decide +kernel
theorem dX9_walk_48 : decode cX9_walk 48 = .ok (.ireturn, 1) := by decide +kernel
theorem dX9_walk_49 : decode cX9_walk 49 = .ok (.aload_n 0, 1) := by decide +kernel
theorem dX9_walk_50 : decode cX9_walk 50 = .ok (.getfield 57, 3) := by decide +kernel
theorem dX9_walk_53 : decode cX9_walk 53 = .ok (.aload_n 0, 1) := by decide +kernel
theorem dX9_walk_54 : decode cX9_walk 54 = .ok (.getfield 35, 3) := by decide +kernel
theorem dX9_walk_57 : decode cX9_walk 57 = .ok (.invokevirtual 290, 3) := by decide +kernel
theorem dX9_walk_60 : decode cX9_walk 60 = .ok (.aload_n 0, 1) := by decide +kernel
theorem dX9_walk_61 : decode cX9_walk 61 = .ok (.getfield 57, 3) := by decide +kernel
theorem dX9_walk_64 : decode cX9_walk 64 = .ok (.aload_n 0, 1) := by decide +kernel
theorem dX9_walk_65 : decode cX9_walk 65 = .ok (.getfield 35, 3) := by decide +kernel
theorem dX9_walk_68 : decode cX9_walk 68 = .ok (.iload_n 1, 1) := by decide +kernel
theorem dX9_walk_69 : decode cX9_walk 69 = .ok (.iload_n 2, 1) := by decide +kernel
theorem dX9_walk_70 : decode cX9_walk 70 = .ok (.invokevirtual 294, 3) := by decide +kernel
theorem dX9_walk_73 : decode cX9_walk 73 = .ok (.pop, 1) := by decide +kernel
theorem dX9_walk_74 : decode cX9_walk 74 = .ok (.aload_n 0, 1) := by decide +kernel
theorem dX9_walk_75 : decode cX9_walk 75 = .ok (.getfield 57, 3) := by decide +kernel
theorem dX9_walk_78 : decode cX9_walk 78 = .ok (.iload_n 3, 1) := by decide +kernel
theorem dX9_walk_79 : decode cX9_walk 79 = .ok (.invokevirtual 298, 3) := by decide +kernel
theorem dX9_walk_82 : decode cX9_walk 82 = .ok (.ireturn, 1) := by decide +kernel
theorem hd_yX9_walk : yX9_walk.cls = RX9 ∧ yX9_walk.cls ≠ "java/lang/invoke/MethodHandle" ∧ yX9_walk.cls ≠ "java/lang/invoke/VarHandle" ∧ (parseMethodDescriptor yX9_walk.desc).map (fun d => d.parameters.length) = some 3 := by decide +kernel
def uX9_walk : List Cond := List.cons (.code yX9_walk cX9_walk 4 (some .int)) (HAppend.hAppend ([.methodLink RX9 137 yX9_hasBoth, .instanceMethod yX9_hasBoth, .selects RX9 yX9_hasBoth yX9_hasBoth, .initialized RX9, .fieldLink RX9 35 "LuckyTicket" "current" "LLuckyTicket$Roll;", .methodLink RX9 100 yX2_hasTicket, .instanceMethod yX2_hasTicket, .selects RX2 yX2_hasTicket yX2_hasTicket, .initialized RX2, .methodLink RX9 175 yX2_isLucky, .instanceMethod yX2_isLucky, .selects RX2 yX2_isLucky yX2_isLucky, .fieldLink RX9 57 "LuckyTicket" "search" "LLuckyTicket$Search;", .methodLink RX9 290 yX5_prepare, .instanceMethod yX5_prepare, .selects RX5 yX5_prepare yX5_prepare, .initialized RX5, .methodLink RX9 294 yX5_spread, .instanceMethod yX5_spread, .selects RX5 yX5_spread yX5_spread, .methodLink RX9 298 yX5_changesTo, .instanceMethod yX5_changesTo, .selects RX5 yX5_changesTo yX5_changesTo] : List Cond) (HAppend.hAppend uX9_hasBoth (HAppend.hAppend uX2_hasTicket (HAppend.hAppend uX2_isLucky (HAppend.hAppend uX5_prepare (HAppend.hAppend uX5_spread (HAppend.hAppend uX5_changesTo wsX90)))))))
theorem iX9_walk_X9 : ∀ w ∈ wsX90, w ∈ uX9_walk := fun _ h => (List.mem_cons_of_mem _ (List.mem_append_right _ (List.mem_append_right _ (List.mem_append_right _ (List.mem_append_right _ (List.mem_append_right _ (List.mem_append_right _ (List.mem_append_right _ h))))))))
theorem guX9_walk : GU uX9_walk := gu_cons (gu_app (by decide +kernel) (gu_ap guX9_hasBoth (gu_ap guX2_hasTicket (gu_ap guX2_isLucky (gu_ap guX5_prepare (gu_ap guX5_spread (gu_ap guX5_changesTo gws_X9)))))))
theorem gX9_walk__X9_hasBoth_V137 : GoodIn uX9_walk (wsV RX9 137 RX9 yX9_hasBoth uX9_hasBoth) := gin_V (List.mem_of_getElem? (i := 1) rfl) (List.mem_of_getElem? (i := 2) rfl) (List.mem_of_getElem? (i := 3) rfl) (List.mem_of_getElem? (i := 4) rfl) (fun _ h => (List.mem_cons_of_mem _ (List.mem_append_right _ (List.mem_append_left _ h)))) guX9_hasBoth
theorem gX9_walk__X2_hasTicket_V100 : GoodIn uX9_walk (wsV RX9 100 RX2 yX2_hasTicket uX2_hasTicket) := gin_V (List.mem_of_getElem? (i := 6) rfl) (List.mem_of_getElem? (i := 7) rfl) (List.mem_of_getElem? (i := 8) rfl) (List.mem_of_getElem? (i := 9) rfl) (fun _ h => (List.mem_cons_of_mem _ (List.mem_append_right _ (List.mem_append_right _ (List.mem_append_left _ h))))) guX2_hasTicket
theorem gX9_walk__X2_isLucky_V175 : GoodIn uX9_walk (wsV RX9 175 RX2 yX2_isLucky uX2_isLucky) := gin_V (List.mem_of_getElem? (i := 10) rfl) (List.mem_of_getElem? (i := 11) rfl) (List.mem_of_getElem? (i := 12) rfl) (List.mem_of_getElem? (i := 9) rfl) (fun _ h => (List.mem_cons_of_mem _ (List.mem_append_right _ (List.mem_append_right _ (List.mem_append_right _ (List.mem_append_left _ h)))))) guX2_isLucky
theorem gX9_walk__X5_prepare_V290 : GoodIn uX9_walk (wsV RX9 290 RX5 yX5_prepare uX5_prepare) := gin_V (List.mem_of_getElem? (i := 14) rfl) (List.mem_of_getElem? (i := 15) rfl) (List.mem_of_getElem? (i := 16) rfl) (List.mem_of_getElem? (i := 17) rfl) (fun _ h => (List.mem_cons_of_mem _ (List.mem_append_right _ (List.mem_append_right _ (List.mem_append_right _ (List.mem_append_right _ (List.mem_append_left _ h))))))) guX5_prepare
theorem gX9_walk__X5_spread_V294 : GoodIn uX9_walk (wsV RX9 294 RX5 yX5_spread uX5_spread) := gin_V (List.mem_of_getElem? (i := 18) rfl) (List.mem_of_getElem? (i := 19) rfl) (List.mem_of_getElem? (i := 20) rfl) (List.mem_of_getElem? (i := 17) rfl) (fun _ h => (List.mem_cons_of_mem _ (List.mem_append_right _ (List.mem_append_right _ (List.mem_append_right _ (List.mem_append_right _ (List.mem_append_right _ (List.mem_append_left _ h)))))))) guX5_spread
theorem gX9_walk__X5_changesTo_V298 : GoodIn uX9_walk (wsV RX9 298 RX5 yX5_changesTo uX5_changesTo) := gin_V (List.mem_of_getElem? (i := 21) rfl) (List.mem_of_getElem? (i := 22) rfl) (List.mem_of_getElem? (i := 23) rfl) (List.mem_of_getElem? (i := 17) rfl) (fun _ h => (List.mem_cons_of_mem _ (List.mem_append_right _ (List.mem_append_right _ (List.mem_append_right _ (List.mem_append_right _ (List.mem_append_right _ (List.mem_append_right _ (List.mem_append_left _ h))))))))) guX5_changesTo
set_option maxHeartbeats 4000000 in
set_option maxRecDepth 100000 in
theorem kX9_walk (l : Launch) (dC : Nat → ClassId) (dI : Nat → Nat → Nat) (h0 : Nat) (tp : Nat) (sc : Nat) (rd : Nat) (cu : Nat) (im : Nat) (ig : Nat) (sl : Nat) (se : Nat) (sm : Nat) (fc : Nat) (ln : Int32) (bs : Int32) (tk : Int32) (lw : Int32) (li : Int32) (fa : Nat) (lu : Nat) (cL : ClassId) (nl : Nat) (fl : Nat → Int32) (qa : Nat) (qf : Nat) (qg : Nat) (cQ : ClassId) (nq : Nat) (fq : Nat → Int32) (cR : ClassId) (nr : Nat) (fr : Nat → Int32) (cH : ClassId) (ng : Nat) (fh : Nat → Int32) (a1 : Int32) (a2 : Int32) (a3 : Int32) (cc : Nat) (sz : Nat) (b_ln : (0 : Int) ≤ ln.toInt ∧ ln.toInt ≤ 12) (b_bs : (0 : Int) ≤ bs.toInt ∧ bs.toInt ≤ 16) (b_tk : (0 : Int) ≤ tk.toInt ∧ tk.toInt ≤ 20000) (b_lw : (0 : Int) ≤ lw.toInt ∧ lw.toInt ≤ 9) (hl1 : tk.toInt ≤ (nl : Int)) (hrk : RK ln bs tk) (hnr : nr = nq) (hq1 : nq ≤ 20000) (hq3 : ng ≤ 200000) : Met l yX9_walk uX9_walk ({ frames := 5, cells := 3, slots := 170000, locals := 129 }) (va_Pc [.ref h0, .int a1, .int a2, .int a3] (hg (dC, dI) vwCl [(h0, .inr (7, [.ref tp, .ref sc, .ref rd, .ref cu, .ref im, .ref ig, .ref sl, .ref se, .ref sm, .ref fc])), (cu, .inr (1, [.int ln, .int bs, .int tk, .int lw, .int li, .ref fa, .ref lu])), (lu, .inl (cL, nl, .inl fl)), (se, .inr (4, [.ref qa, .ref qf, .ref qg])), (qa, .inl (cQ, nq, .inl fq)), (qf, .inl (cR, nr, .inl fr)), (qg, .inl (cH, ng, .inl fh))] [(cL, .int), (cQ, .int), (cR, .int), (cH, .byte)] sz cc (2 * pot nq + potg ng))) (va_Qi (fun (r : Int32) (_ : Unit) => True) (fun (_ : Unit) t => ∃ (o0_ : Nat) (o1_ : ClassId) (o2_ : Nat) (o3_ : Nat → Int32) (o4_ : Nat) (o5_ : ClassId) (o6_ : Nat) (o7_ : Nat → Int32) (o8_ : Nat) (o9_ : ClassId) (o10_ : Nat) (o11_ : Nat → Int32), (o6_ = o2_) ∧ (o2_ ≤ 20000) ∧ (o10_ ≤ 200000) ∧ (tot t.heap + (2 * pot o2_ + potg o10_) ≤ cc) ∧ va_P (dC, dI) vwCl [(h0, .inr (7, [.ref tp, .ref sc, .ref rd, .ref cu, .ref im, .ref ig, .ref sl, .ref se, .ref sm, .ref fc])), (cu, .inr (1, [.int ln, .int bs, .int tk, .int lw, .int li, .ref fa, .ref lu])), (lu, .inl (cL, nl, .inl fl)), (se, .inr (4, [.ref o0_, .ref o4_, .ref o8_])), (o0_, .inl (o1_, o2_, .inl o3_)), (o4_, .inl (o5_, o6_, .inl o7_)), (o8_, .inl (o9_, o10_, .inl o11_))] t.heap ∧ va_K (dC, dI) vwCl [(cL, .int), (o1_, .int), (o5_, .int), (o9_, .byte)] t ∧ va_D (va_A [(h0, .inr (7, [.ref tp, .ref sc, .ref rd, .ref cu, .ref im, .ref ig, .ref sl, .ref se, .ref sm, .ref fc])), (cu, .inr (1, [.int ln, .int bs, .int tk, .int lw, .int li, .ref fa, .ref lu])), (lu, .inl (cL, nl, .inl fl)), (se, .inr (4, [.ref qa, .ref qf, .ref qg])), (qa, .inl (cQ, nq, .inl fq)), (qf, .inl (cR, nr, .inl fr)), (qg, .inl (cH, ng, .inl fh))] sz) [(h0, .inr (7, [.ref tp, .ref sc, .ref rd, .ref cu, .ref im, .ref ig, .ref sl, .ref se, .ref sm, .ref fc])), (cu, .inr (1, [.int ln, .int bs, .int tk, .int lw, .int li, .ref fa, .ref lu])), (lu, .inl (cL, nl, .inl fl)), (se, .inr (4, [.ref o0_, .ref o4_, .ref o8_])), (o0_, .inl (o1_, o2_, .inl o3_)), (o4_, .inl (o5_, o6_, .inl o7_)), (o8_, .inl (o9_, o10_, .inl o11_))]) (va_A [(h0, .inr (7, [.ref tp, .ref sc, .ref rd, .ref cu, .ref im, .ref ig, .ref sl, .ref se, .ref sm, .ref fc])), (cu, .inr (1, [.int ln, .int bs, .int tk, .int lw, .int li, .ref fa, .ref lu])), (lu, .inl (cL, nl, .inl fl)), (se, .inr (4, [.ref qa, .ref qf, .ref qg])), (qa, .inl (cQ, nq, .inl fq)), (qf, .inl (cR, nr, .inl fr)), (qg, .inl (cH, ng, .inl fh))] sz)) 3 170000 (va_A [(h0, .inr (7, [.ref tp, .ref sc, .ref rd, .ref cu, .ref im, .ref ig, .ref sl, .ref se, .ref sm, .ref fc])), (cu, .inr (1, [.int ln, .int bs, .int tk, .int lw, .int li, .ref fa, .ref lu])), (lu, .inl (cL, nl, .inl fl)), (se, .inr (4, [.ref qa, .ref qf, .ref qg])), (qa, .inl (cQ, nq, .inl fq)), (qf, .inl (cR, nr, .inl fr)), (qg, .inl (cH, ng, .inl fh))] sz) := by
  refine Met.ofW (cc := cX9_walk) (maxL := 4) (ret := (some .int)) pn_X9 rfl ?_
  intro p e s m args below meth c s₁ B hml hv
  obtain ⟨rfl, ⟨hsz, hP, hK, hD0, hN⟩, htot⟩ := hv
  have hx := B.exec
  have hb := B.bytes
  have hr := B.returns
  have hts := atoms_spec (ws := uX9_walk) B.pre
  have hown : s.vm.findClass RX9 = some m.cls := hown_of B.named rfl
  have hlocks := B.notSynchronized
  subst hsz
  have hD := hD0.self (sz := s.heap.size)
  generalize hAe : va_A [(h0, .inr (7, [.ref tp, .ref sc, .ref rd, .ref cu, .ref im, .ref ig, .ref sl, .ref se, .ref sm, .ref fc])), (cu, .inr (1, [.int ln, .int bs, .int tk, .int lw, .int li, .ref fa, .ref lu])), (lu, .inl (cL, nl, .inl fl)), (se, .inr (4, [.ref qa, .ref qf, .ref qg])), (qa, .inl (cQ, nq, .inl fq)), (qf, .inl (cR, nr, .inl fr)), (qg, .inl (cH, ng, .inl fh))] s.heap.size = A at hD ⊢
  have hA : ∀ q : Nat, s.heap.size ≤ q → A q := fun q h => by rw [← hAe]; exact Or.inr h
  have hS : va_S A s.heap s.heap [] := va_S.rf
  have hP : va_P (dC, dI) vwCl [(h0, .inr (7, [.ref tp, .ref sc, .ref rd, .ref cu, .ref im, .ref ig, .ref sl, .ref se, .ref sm, .ref fc])), (cu, .inr (1, [.int ln, .int bs, .int tk, .int lw, .int li, .ref fa, .ref lu])), (lu, .inl (cL, nl, .inl fl)), (se, .inr (4, [.ref qa, .ref qf, .ref qg])), (qa, .inl (cQ, nq, .inl fq)), (qf, .inl (cR, nr, .inl fr)), (qg, .inl (cH, ng, .inl fh))] s.heap := hP
  have hl := lv_entry ([.ref h0, .int a1, .int a2, .int a3]) (n := 4) (Nat.le_of_ble_eq_true rfl)
  rw [lg_entry_eq]
  generalize (lg_sl ([.ref h0, .int a1, .int a2, .int a3]) ++ List.replicate (4 - (lg_sl ([.ref h0, .int a1, .int a2, .int a3])).length) Slot.unset).toArray = ls at hl ⊢
  have hl : lv_has ls 4 [(0, .ref h0), (1, .int a1), (2, .int a2), (3, .int a3)] := hl
  refine lv_aload_n hx hb dX9_walk_0 rfl (lv_at hl 0 rfl) ?_
  refine lv_iload_n hx hb dX9_walk_1 rfl (lv_at hl 1 rfl) ?_
  refine lv_iload_n hx hb dX9_walk_2 rfl (lv_at hl 2 rfl) ?_
  refine vp_callSi (W.runV (As := [.int a1, .int a2]) (rest := []) ⟨hx, hb, hml, hown, hts⟩ (kX9_hasBoth l dC dI h0 tp sc rd cu im ig sl se sm fc ln bs tk lw li fa lu a1 a2 b_ln b_bs b_tk b_lw) (cwV 2 hts gX9_walk__X9_hasBoth_V137 rfl rfl rfl hd_yX9_hasBoth ⟨lel 2 5 rfl, lel 43 129 rfl⟩) ⟨pw_fb, rcv_X9 hK hP (q0 := 0) rfl, (pw_use hP hK hN [0, 1] rfl [] rfl)⟩ rfl rfl hl.1 rfl (lv_room (Nat.le_of_ble_eq_true rfl)) dX9_walk_3 ⟨lel 0 3 rfl, lel 0 170000 rfl⟩) (fun r_35 h_r_35 => ?_)
  obtain ⟨b_r_35, nz_r_35⟩ := h_r_35
  have b_r_35 : (0 : Int) ≤ r_35.toInt ∧ r_35.toInt ≤ 1 := b_r_35
  refine lv_if_eq (tgt := 20) hx hb dX9_walk_6 (by decide) (fun c_36 => ?_) (fun c_36 => ?_)
  ·
    have n_c_36 : (r_35.toInt : Int) = 0 := c_eq rfl (by decide) c_36
    have b_r_35 : (0 : Int) ≤ r_35.toInt ∧ r_35.toInt ≤ 0 := r_eq1 b_r_35 (by decide : (0 : Int) ≤ (0 : Int32).toInt ∧ (0 : Int32).toInt ≤ 0) n_c_36 (by decide)
    refine lv_bipush (v := (-2)) hx hb dX9_walk_20 (by decide) ?_
    have hP9 := hP.sub (ws' := [(h0, .inr (7, [.ref tp, .ref sc, .ref rd, .ref cu, .ref im, .ref ig, .ref sl, .ref se, .ref sm, .ref fc])), (cu, .inr (1, [.int ln, .int bs, .int tk, .int lw, .int li, .ref fa, .ref lu])), (lu, .inl (cL, nl, .inl fl)), (se, .inr (4, [.ref qa, .ref qf, .ref qg])), (qa, .inl (cQ, nq, .inl fq)), (qf, .inl (cR, nr, .inl fr)), (qg, .inl (cH, ng, .inl fh))]) [0, 1, 2, 3, 4, 5, 6] rfl
    have hD9 := hD.sub (ws' := [(h0, .inr (7, [.ref tp, .ref sc, .ref rd, .ref cu, .ref im, .ref ig, .ref sl, .ref se, .ref sm, .ref fc])), (cu, .inr (1, [.int ln, .int bs, .int tk, .int lw, .int li, .ref fa, .ref lu])), (lu, .inl (cL, nl, .inl fl)), (se, .inr (4, [.ref qa, .ref qf, .ref qg])), (qa, .inl (cQ, nq, .inl fq)), (qf, .inl (cR, nr, .inl fr)), (qg, .inl (cH, ng, .inl fh))]) [0, 1, 2, 3, 4, 5, 6] (by decide) rfl
    have hK9 := hK.sub (tys' := [(cL, .int), (cQ, .int), (cR, .int), (cH, .byte)]) [0, 1, 2, 3] rfl
    refine W.know (fun hkn => ?_)
    have htt9 : tot s.heap + (2 * pot nq + potg ng) ≤ cc := by omega
    refine W.widen (k := 3) (n := 170000) (lel _ _ rfl) (by omega) ?_
    exact W.iret (v := (-2)) hx hb hr (fun t ht hW => ⟨⟨(-2), (), rfl, trivial, qa, cQ, nq, fq, qf, cR, nr, fr, qg, cH, ng, fh, (by have zl : ((-2) : Int32).toInt = -2 := (by decide); omega), (by have zl : ((-2) : Int32).toInt = -2 := (by decide); omega), (by have zl : ((-2) : Int32).toInt = -2 := (by decide); omega), (by rw [ht]; exact htt9), by rw [ht]; exact hP9, va_K.moved hW.alike hK9, hD9⟩, hS.F ht⟩) hS.2.2 dX9_walk_22
  ·
    have n_c_36 : (r_35.toInt : Int) ≠ 0 := c_ne rfl (by decide) c_36
    have b_r_35 : (1 : Int) ≤ r_35.toInt ∧ r_35.toInt ≤ 1 := r_ne1 b_r_35 (by decide : (0 : Int) ≤ (0 : Int32).toInt ∧ (0 : Int32).toInt ≤ 0) n_c_36 (by decide)
    obtain ⟨b_a1, b_a2, g_37⟩ := nz_r_35 c_36
    refine lv_aload_n hx hb dX9_walk_9 rfl (lv_at hl 0 rfl) ?_
    refine va_get (D := (dC, dI)) (ci := 7) (v := .ref cu) (C := RX9) (T := TX9) (N := 10) hx hb hts iX9_walk_X9 hown hK hP 0 rfl rfl 3 (by decide) (hts (.fieldLink RX9 35 "LuckyTicket" "current" "LLuckyTicket$Roll;") (List.mem_of_getElem? (i := 5) rfl)) (fun _ h9 => h9) rfl dX9_walk_10 ?_
    refine lv_iload_n hx hb dX9_walk_13 rfl (lv_at hl 3 rfl) ?_
    refine vp_callSi (W.runV (As := [.int a3]) (rest := []) ⟨hx, hb, hml, hown, hts⟩ (kX2_hasTicket l dC dI cu ln bs tk lw li fa lu a3 b_ln b_bs b_tk b_lw) (cwV 1 hts gX9_walk__X2_hasTicket_V100 rfl rfl rfl hd_yX2_hasTicket ⟨lel 1 5 rfl, lel 21 129 rfl⟩) ⟨pw_fb, rcv_X2 hK hP (q0 := 1) rfl, (pw_use hP hK hN [1] rfl [] rfl)⟩ rfl rfl hl.1 rfl (lv_room (Nat.le_of_ble_eq_true rfl)) dX9_walk_14 ⟨lel 0 3 rfl, lel 0 170000 rfl⟩) (fun r_38 h_r_38 => ?_)
    obtain ⟨b_r_38, nz_r_38⟩ := h_r_38
    have b_r_38 : (0 : Int) ≤ r_38.toInt ∧ r_38.toInt ≤ 1 := b_r_38
    refine lv_if_ne (tgt := 23) hx hb dX9_walk_17 (by decide) (fun c_39 => ?_) (fun c_39 => ?_)
    ·
      have n_c_39 : (r_38.toInt : Int) ≠ 0 := c_ne rfl (by decide) c_39
      have b_r_38 : (1 : Int) ≤ r_38.toInt ∧ r_38.toInt ≤ 1 := r_ne1 b_r_38 (by decide : (0 : Int) ≤ (0 : Int32).toInt ∧ (0 : Int32).toInt ≤ 0) n_c_39 (by decide)
      obtain ⟨b_a3, g_40⟩ := nz_r_38 c_39
      refine lv_aload_n hx hb dX9_walk_23 rfl (lv_at hl 0 rfl) ?_
      refine va_get (D := (dC, dI)) (ci := 7) (v := .ref cu) (C := RX9) (T := TX9) (N := 10) hx hb hts iX9_walk_X9 hown hK hP 0 rfl rfl 3 (by decide) (hts (.fieldLink RX9 35 "LuckyTicket" "current" "LLuckyTicket$Roll;") (List.mem_of_getElem? (i := 5) rfl)) (fun _ h9 => h9) rfl dX9_walk_24 ?_
      refine lv_iload_n hx hb dX9_walk_27 rfl (lv_at hl 1 rfl) ?_
      refine lv_iload_n hx hb dX9_walk_28 rfl (lv_at hl 2 rfl) ?_
      refine vp_callSi (W.runV (As := [.int a1, .int a2]) (rest := []) ⟨hx, hb, hml, hown, hts⟩ (kX2_isLucky l dC dI cu ln bs tk lw li fa lu cL nl fl a1 a2 b_ln b_bs b_tk b_lw (by omega)) (cwV 2 hts gX9_walk__X2_isLucky_V175 rfl rfl rfl hd_yX2_isLucky ⟨lel 1 5 rfl, lel 22 129 rfl⟩) ⟨pw_fb, rcv_X2 hK hP (q0 := 1) rfl, (pw_use hP hK hN [1, 2] rfl [0] rfl)⟩ rfl rfl hl.1 rfl (lv_room (Nat.le_of_ble_eq_true rfl)) dX9_walk_29 ⟨lel 0 3 rfl, lel 0 170000 rfl⟩) (fun r_41 h_r_41 => ?_)
      have b_r_41 := h_r_41
      have b_r_41 : (0 : Int) ≤ r_41.toInt ∧ r_41.toInt ≤ 1 := b_r_41
      refine lv_if_eq (tgt := 47) hx hb dX9_walk_32 (by decide) (fun c_42 => ?_) (fun c_42 => ?_)
      ·
        have n_c_42 : (r_41.toInt : Int) = 0 := c_eq rfl (by decide) c_42
        have b_r_41 : (0 : Int) ≤ r_41.toInt ∧ r_41.toInt ≤ 0 := r_eq1 b_r_41 (by decide : (0 : Int) ≤ (0 : Int32).toInt ∧ (0 : Int32).toInt ≤ 0) n_c_42 (by decide)
        refine lv_iconst (v := (-1)) hx hb dX9_walk_47 (by decide) ?_
        have hP9 := hP.sub (ws' := [(h0, .inr (7, [.ref tp, .ref sc, .ref rd, .ref cu, .ref im, .ref ig, .ref sl, .ref se, .ref sm, .ref fc])), (cu, .inr (1, [.int ln, .int bs, .int tk, .int lw, .int li, .ref fa, .ref lu])), (lu, .inl (cL, nl, .inl fl)), (se, .inr (4, [.ref qa, .ref qf, .ref qg])), (qa, .inl (cQ, nq, .inl fq)), (qf, .inl (cR, nr, .inl fr)), (qg, .inl (cH, ng, .inl fh))]) [0, 1, 2, 3, 4, 5, 6] rfl
        have hD9 := hD.sub (ws' := [(h0, .inr (7, [.ref tp, .ref sc, .ref rd, .ref cu, .ref im, .ref ig, .ref sl, .ref se, .ref sm, .ref fc])), (cu, .inr (1, [.int ln, .int bs, .int tk, .int lw, .int li, .ref fa, .ref lu])), (lu, .inl (cL, nl, .inl fl)), (se, .inr (4, [.ref qa, .ref qf, .ref qg])), (qa, .inl (cQ, nq, .inl fq)), (qf, .inl (cR, nr, .inl fr)), (qg, .inl (cH, ng, .inl fh))]) [0, 1, 2, 3, 4, 5, 6] (by decide) rfl
        have hK9 := hK.sub (tys' := [(cL, .int), (cQ, .int), (cR, .int), (cH, .byte)]) [0, 1, 2, 3] rfl
        refine W.know (fun hkn => ?_)
        have htt9 : tot s.heap + (2 * pot nq + potg ng) ≤ cc := by omega
        refine W.widen (k := 3) (n := 170000) (lel _ _ rfl) (by omega) ?_
        exact W.iret (v := (-1)) hx hb hr (fun t ht hW => ⟨⟨(-1), (), rfl, trivial, qa, cQ, nq, fq, qf, cR, nr, fr, qg, cH, ng, fh, (by have zl : ((-1) : Int32).toInt = -1 := (by decide); omega), (by have zl : ((-1) : Int32).toInt = -1 := (by decide); omega), (by have zl : ((-1) : Int32).toInt = -1 := (by decide); omega), (by rw [ht]; exact htt9), by rw [ht]; exact hP9, va_K.moved hW.alike hK9, hD9⟩, hS.F ht⟩) hS.2.2 dX9_walk_48
      ·
        have n_c_42 : (r_41.toInt : Int) ≠ 0 := c_ne rfl (by decide) c_42
        have b_r_41 : (1 : Int) ≤ r_41.toInt ∧ r_41.toInt ≤ 1 := r_ne1 b_r_41 (by decide : (0 : Int) ≤ (0 : Int32).toInt ∧ (0 : Int32).toInt ≤ 0) n_c_42 (by decide)
        refine lv_aload_n hx hb dX9_walk_35 rfl (lv_at hl 0 rfl) ?_
        refine va_get (D := (dC, dI)) (ci := 7) (v := .ref cu) (C := RX9) (T := TX9) (N := 10) hx hb hts iX9_walk_X9 hown hK hP 0 rfl rfl 3 (by decide) (hts (.fieldLink RX9 35 "LuckyTicket" "current" "LLuckyTicket$Roll;") (List.mem_of_getElem? (i := 5) rfl)) (fun _ h9 => h9) rfl dX9_walk_36 ?_
        refine lv_iload_n hx hb dX9_walk_39 rfl (lv_at hl 1 rfl) ?_
        refine lv_iload_n hx hb dX9_walk_40 rfl (lv_at hl 3 rfl) ?_
        refine vp_callSi (W.runV (As := [.int a1, .int a3]) (rest := []) ⟨hx, hb, hml, hown, hts⟩ (kX2_isLucky l dC dI cu ln bs tk lw li fa lu cL nl fl a1 a3 b_ln b_bs b_tk b_lw (by omega)) (cwV 2 hts gX9_walk__X2_isLucky_V175 rfl rfl rfl hd_yX2_isLucky ⟨lel 1 5 rfl, lel 22 129 rfl⟩) ⟨pw_fb, rcv_X2 hK hP (q0 := 1) rfl, (pw_use hP hK hN [1, 2] rfl [0] rfl)⟩ rfl rfl hl.1 rfl (lv_room (Nat.le_of_ble_eq_true rfl)) dX9_walk_41 ⟨lel 0 3 rfl, lel 0 170000 rfl⟩) (fun r_43 h_r_43 => ?_)
        have b_r_43 := h_r_43
        have b_r_43 : (0 : Int) ≤ r_43.toInt ∧ r_43.toInt ≤ 1 := b_r_43
        refine lv_if_ne (tgt := 49) hx hb dX9_walk_44 (by decide) (fun c_44 => ?_) (fun c_44 => ?_)
        ·
          have n_c_44 : (r_43.toInt : Int) ≠ 0 := c_ne rfl (by decide) c_44
          have b_r_43 : (1 : Int) ≤ r_43.toInt ∧ r_43.toInt ≤ 1 := r_ne1 b_r_43 (by decide : (0 : Int) ≤ (0 : Int32).toInt ∧ (0 : Int32).toInt ≤ 0) n_c_44 (by decide)
          refine lv_aload_n hx hb dX9_walk_49 rfl (lv_at hl 0 rfl) ?_
          refine va_get (D := (dC, dI)) (ci := 7) (v := .ref se) (C := RX9) (T := TX9) (N := 10) hx hb hts iX9_walk_X9 hown hK hP 0 rfl rfl 7 (by decide) (hts (.fieldLink RX9 57 "LuckyTicket" "search" "LLuckyTicket$Search;") (List.mem_of_getElem? (i := 13) rfl)) (fun _ h9 => h9) rfl dX9_walk_50 ?_
          refine lv_aload_n hx hb dX9_walk_53 rfl (lv_at hl 0 rfl) ?_
          refine va_get (D := (dC, dI)) (ci := 7) (v := .ref cu) (C := RX9) (T := TX9) (N := 10) hx hb hts iX9_walk_X9 hown hK hP 0 rfl rfl 3 (by decide) (hts (.fieldLink RX9 35 "LuckyTicket" "current" "LLuckyTicket$Roll;") (List.mem_of_getElem? (i := 5) rfl)) (fun _ h9 => h9) rfl dX9_walk_54 ?_
          have hFc := va_free (wc := [(se, .inr (4, [.ref qa, .ref qf, .ref qg])), (qa, .inl (cQ, nq, .inl fq)), (qf, .inl (cR, nr, .inl fr)), (qg, .inl (cH, ng, .inl fh)), (cu, .inr (1, [.int ln, .int bs, .int tk, .int lw, .int li, .ref fa, .ref lu]))]) hD hS hA [3, 4, 5, 6, 1] rfl
          refine W.know (fun hkn => ?_)
          refine va_callv (va_runV (As := [.ref cu]) (rest := []) ⟨hx, hb, hml, hown, hts⟩ (kX5_prepare l dC dI se qa qf qg cQ nq fq cR nr fr cH ng fh cu ln bs tk lw li fa lu ((cc)) (s.heap.size) b_ln b_bs b_tk b_lw (by omega) (by omega) (by omega) (hrk)) (cwV 1 hts gX9_walk__X5_prepare_V290 rfl rfl rfl hd_yX5_prepare ⟨lel 2 5 rfl, lel 45 129 rfl⟩) ⟨hg_fb, rcv_X5 hK hP (q0 := 3) rfl, (hg_use hP hD hK hN [3, 4, 5, 6, 1] rfl (by decide) rfl [1, 2, 3] rfl (by omega))⟩ rfl rfl hl.1 rfl (lv_room (Nat.le_of_ble_eq_true rfl)) dX9_walk_57 ⟨lel 3 3 rfl, lel 170000 170000 rfl⟩) hS (fun q _ h => hFc q h) hFc (fun u_46 t H1 locs ht hvm hw_r_45 hB hz1 hk1 hS => ?_)
          obtain ⟨o0_47, o1_48, o2_49, o3_50, o4_51, o5_52, o6_53, o7_54, o8_55, o9_56, o10_57, o11_58, hf_59, hf_60, hf_61, htt, hP1, hK1, hD1⟩ := hB
          rw [ht] at hP1 htt
          have hK1 := va_K.moved hvm.symm hK1
          obtain ⟨hP, hD⟩ := va_join (wr := [(h0, .inr (7, [.ref tp, .ref sc, .ref rd, .ref cu, .ref im, .ref ig, .ref sl, .ref se, .ref sm, .ref fc])), (lu, .inl (cL, nl, .inl fl))]) (w1 := [(se, .inr (4, [.ref o0_47, .ref o4_51, .ref o8_55])), (o0_47, .inl (o1_48, o2_49, .inl o3_50)), (o4_51, .inl (o5_52, o6_53, .inl o7_54)), (o8_55, .inl (o9_56, o10_57, .inl o11_58)), (cu, .inr (1, [.int ln, .int bs, .int tk, .int lw, .int li, .ref fa, .ref lu]))]) hP hD [3, 4, 5, 6, 1] [0, 2] rfl rfl (by decide) (by decide) hk1 hFc hP1 hD1
          have hK := (hK.sub (tys' := [(cL, .int)]) [0] rfl).app hK1
          generalize H1 = H at hP hS htt ⊢
          have hP : va_P (dC, dI) vwCl [(h0, .inr (7, [.ref tp, .ref sc, .ref rd, .ref cu, .ref im, .ref ig, .ref sl, .ref se, .ref sm, .ref fc])), (lu, .inl (cL, nl, .inl fl)), (se, .inr (4, [.ref o0_47, .ref o4_51, .ref o8_55])), (o0_47, .inl (o1_48, o2_49, .inl o3_50)), (o4_51, .inl (o5_52, o6_53, .inl o7_54)), (o8_55, .inl (o9_56, o10_57, .inl o11_58)), (cu, .inr (1, [.int ln, .int bs, .int tk, .int lw, .int li, .ref fa, .ref lu]))] H := hP
          have hD : va_D A [(h0, .inr (7, [.ref tp, .ref sc, .ref rd, .ref cu, .ref im, .ref ig, .ref sl, .ref se, .ref sm, .ref fc])), (lu, .inl (cL, nl, .inl fl)), (se, .inr (4, [.ref o0_47, .ref o4_51, .ref o8_55])), (o0_47, .inl (o1_48, o2_49, .inl o3_50)), (o4_51, .inl (o5_52, o6_53, .inl o7_54)), (o8_55, .inl (o9_56, o10_57, .inl o11_58)), (cu, .inr (1, [.int ln, .int bs, .int tk, .int lw, .int li, .ref fa, .ref lu]))] := hD
          have hK : va_K (dC, dI) vwCl [(cL, .int), (o1_48, .int), (o5_52, .int), (o9_56, .byte)] s := hK
          refine W.know (fun hkn => ?_)
          obtain ⟨gg_62, hq_gg_62⟩ := hgg_ex (tot H) (tot s.heap)
          refine W.tight (n := gg_62) (by omega) ?_
          refine W.widen (k := 3) (n := gg_62) (lel _ _ rfl) (Nat.le_refl _) ?_
          have hgt_gg_62 : gg_62 ≤ 170000 ∧ tot s.heap + gg_62 + (2 * pot o2_49 + potg o10_57) ≤ cc := by omega
          refine lv_aload_n hx hb dX9_walk_60 rfl (lv_at hl 0 rfl) ?_
          refine va_get (D := (dC, dI)) (ci := 7) (v := .ref se) (C := RX9) (T := TX9) (N := 10) hx hb hts iX9_walk_X9 hown hK hP 0 rfl rfl 7 (by decide) (hts (.fieldLink RX9 57 "LuckyTicket" "search" "LLuckyTicket$Search;") (List.mem_of_getElem? (i := 13) rfl)) (fun _ h9 => h9) rfl dX9_walk_61 ?_
          refine lv_aload_n hx hb dX9_walk_64 rfl (lv_at hl 0 rfl) ?_
          refine va_get (D := (dC, dI)) (ci := 7) (v := .ref cu) (C := RX9) (T := TX9) (N := 10) hx hb hts iX9_walk_X9 hown hK hP 0 rfl rfl 3 (by decide) (hts (.fieldLink RX9 35 "LuckyTicket" "current" "LLuckyTicket$Roll;") (List.mem_of_getElem? (i := 5) rfl)) (fun _ h9 => h9) rfl dX9_walk_65 ?_
          refine lv_iload_n hx hb dX9_walk_68 rfl (lv_at hl 1 rfl) ?_
          refine lv_iload_n hx hb dX9_walk_69 rfl (lv_at hl 2 rfl) ?_
          have hFc := va_free (wc := [(se, .inr (4, [.ref o0_47, .ref o4_51, .ref o8_55])), (o0_47, .inl (o1_48, o2_49, .inl o3_50)), (o4_51, .inl (o5_52, o6_53, .inl o7_54)), (o8_55, .inl (o9_56, o10_57, .inl o11_58)), (cu, .inr (1, [.int ln, .int bs, .int tk, .int lw, .int li, .ref fa, .ref lu])), (lu, .inl (cL, nl, .inl fl))]) hD hS hA [2, 3, 4, 5, 6, 1] rfl
          refine va_calli (va_runV (As := [.ref cu, .int a1, .int a2]) (rest := []) ⟨hx, hb, hml, hown, hts⟩ (kX5_spread l dC dI se o0_47 o4_51 o8_55 o1_48 o2_49 o3_50 o5_52 o6_53 o7_54 o9_56 o10_57 o11_58 cu ln bs tk lw li fa lu cL nl fl a1 a2 (H.size) b_ln b_bs b_tk b_lw (by omega) (by omega) (by omega) (by omega)) (cwV 3 hts gX9_walk__X5_spread_V294 rfl rfl rfl hd_yX5_spread ⟨lel 5 5 rfl, lel 129 129 rfl⟩) ⟨hw_fb, rcv_X5 hK hP (q0 := 2) rfl, (hw_use hP hD hK hN [2, 3, 4, 5, 6, 1] rfl (by decide) rfl [1, 2, 3, 0] rfl)⟩ rfl rfl hl.1 rfl (lv_room (Nat.le_of_ble_eq_true rfl)) dX9_walk_70 ⟨lel 3 3 rfl, (show gg_62 + 0 ≤ (170000 : Nat) from by omega)⟩) hS (fun q _ h => hFc q h) hFc (fun r_63 u_64 t H1 locs ht hvm hw_r_63 hB hz1 hk1 hS => ?_)
          obtain ⟨o0_65, o1_66, o2_67, hP1, hK1, hD1⟩ := hB
          rw [ht] at hP1
          have hK1 := va_K.moved hvm.symm hK1
          obtain ⟨hP, hD⟩ := va_join (wr := [(h0, .inr (7, [.ref tp, .ref sc, .ref rd, .ref cu, .ref im, .ref ig, .ref sl, .ref se, .ref sm, .ref fc]))]) (w1 := [(se, .inr (4, [.ref o0_47, .ref o4_51, .ref o8_55])), (o0_47, .inl (o1_48, o2_49, .inl o0_65)), (o4_51, .inl (o5_52, o6_53, .inl o1_66)), (o8_55, .inl (o9_56, o10_57, .inl o2_67)), (cu, .inr (1, [.int ln, .int bs, .int tk, .int lw, .int li, .ref fa, .ref lu])), (lu, .inl (cL, nl, .inl fl))]) hP hD [2, 3, 4, 5, 6, 1] [0] rfl rfl (by decide) (by decide) hk1 hFc hP1 hD1
          have hK := (hK.sub (tys' := []) [] rfl).app hK1
          generalize H1 = H at hP hS ⊢
          have hP := hP.sub (ws' := [(h0, .inr (7, [.ref tp, .ref sc, .ref rd, .ref cu, .ref im, .ref ig, .ref sl, .ref se, .ref sm, .ref fc])), (lu, .inl (cL, nl, .inl fl)), (se, .inr (4, [.ref o0_47, .ref o4_51, .ref o8_55])), (o0_47, .inl (o1_48, o2_49, .inl o0_65)), (o4_51, .inl (o5_52, o6_53, .inl o1_66)), (o8_55, .inl (o9_56, o10_57, .inl o2_67)), (cu, .inr (1, [.int ln, .int bs, .int tk, .int lw, .int li, .ref fa, .ref lu]))]) [0, 6, 1, 2, 3, 4, 5] rfl
          have hD := hD.sub (ws' := [(h0, .inr (7, [.ref tp, .ref sc, .ref rd, .ref cu, .ref im, .ref ig, .ref sl, .ref se, .ref sm, .ref fc])), (lu, .inl (cL, nl, .inl fl)), (se, .inr (4, [.ref o0_47, .ref o4_51, .ref o8_55])), (o0_47, .inl (o1_48, o2_49, .inl o0_65)), (o4_51, .inl (o5_52, o6_53, .inl o1_66)), (o8_55, .inl (o9_56, o10_57, .inl o2_67)), (cu, .inr (1, [.int ln, .int bs, .int tk, .int lw, .int li, .ref fa, .ref lu]))]) [0, 6, 1, 2, 3, 4, 5] (by decide) rfl
          have hK := hK.sub (tys' := [(cL, .int), (o1_48, .int), (o5_52, .int), (o9_56, .byte)]) [3, 0, 1, 2] rfl
          have hP : va_P (dC, dI) vwCl [(h0, .inr (7, [.ref tp, .ref sc, .ref rd, .ref cu, .ref im, .ref ig, .ref sl, .ref se, .ref sm, .ref fc])), (lu, .inl (cL, nl, .inl fl)), (se, .inr (4, [.ref o0_47, .ref o4_51, .ref o8_55])), (o0_47, .inl (o1_48, o2_49, .inl o0_65)), (o4_51, .inl (o5_52, o6_53, .inl o1_66)), (o8_55, .inl (o9_56, o10_57, .inl o2_67)), (cu, .inr (1, [.int ln, .int bs, .int tk, .int lw, .int li, .ref fa, .ref lu]))] H := hP
          have hD : va_D A [(h0, .inr (7, [.ref tp, .ref sc, .ref rd, .ref cu, .ref im, .ref ig, .ref sl, .ref se, .ref sm, .ref fc])), (lu, .inl (cL, nl, .inl fl)), (se, .inr (4, [.ref o0_47, .ref o4_51, .ref o8_55])), (o0_47, .inl (o1_48, o2_49, .inl o0_65)), (o4_51, .inl (o5_52, o6_53, .inl o1_66)), (o8_55, .inl (o9_56, o10_57, .inl o2_67)), (cu, .inr (1, [.int ln, .int bs, .int tk, .int lw, .int li, .ref fa, .ref lu]))] := hD
          have hK : va_K (dC, dI) vwCl [(cL, .int), (o1_48, .int), (o5_52, .int), (o9_56, .byte)] s := hK
          refine lv_pop hx hb dX9_walk_73 rfl ?_
          refine lv_aload_n hx hb dX9_walk_74 rfl (lv_at hl 0 rfl) ?_
          refine va_get (D := (dC, dI)) (ci := 7) (v := .ref se) (C := RX9) (T := TX9) (N := 10) hx hb hts iX9_walk_X9 hown hK hP 0 rfl rfl 7 (by decide) (hts (.fieldLink RX9 57 "LuckyTicket" "search" "LLuckyTicket$Search;") (List.mem_of_getElem? (i := 13) rfl)) (fun _ h9 => h9) rfl dX9_walk_75 ?_
          refine lv_iload_n hx hb dX9_walk_78 rfl (lv_at hl 3 rfl) ?_
          refine vp_callSi (W.runV (As := [.int a3]) (rest := []) ⟨hx, hb, hml, hown, hts⟩ (kX5_changesTo l dC dI se o0_47 o4_51 o8_55 o1_48 o2_49 o0_65 o5_52 o6_53 o1_66 o9_56 o10_57 o2_67 a3 (by omega) (by omega) (by omega)) (cwV 1 hts gX9_walk__X5_changesTo_V298 rfl rfl rfl hd_yX5_changesTo ⟨lel 1 5 rfl, lel 21 129 rfl⟩) ⟨pw_fb, rcv_X5 hK hP (q0 := 2) rfl, (pw_use hP hK hN [2, 3, 4, 5] rfl [1, 2, 3] rfl)⟩ rfl rfl hl.1 rfl (lv_room (Nat.le_of_ble_eq_true rfl)) dX9_walk_79 ⟨lel 3 3 rfl, (show gg_62 + 0 ≤ (170000 : Nat) from by omega)⟩) (fun r_68 h_r_68 => ?_)
          have hP9 := hP.sub (ws' := [(h0, .inr (7, [.ref tp, .ref sc, .ref rd, .ref cu, .ref im, .ref ig, .ref sl, .ref se, .ref sm, .ref fc])), (cu, .inr (1, [.int ln, .int bs, .int tk, .int lw, .int li, .ref fa, .ref lu])), (lu, .inl (cL, nl, .inl fl)), (se, .inr (4, [.ref o0_47, .ref o4_51, .ref o8_55])), (o0_47, .inl (o1_48, o2_49, .inl o0_65)), (o4_51, .inl (o5_52, o6_53, .inl o1_66)), (o8_55, .inl (o9_56, o10_57, .inl o2_67))]) [0, 6, 1, 2, 3, 4, 5] rfl
          have hD9 := hD.sub (ws' := [(h0, .inr (7, [.ref tp, .ref sc, .ref rd, .ref cu, .ref im, .ref ig, .ref sl, .ref se, .ref sm, .ref fc])), (cu, .inr (1, [.int ln, .int bs, .int tk, .int lw, .int li, .ref fa, .ref lu])), (lu, .inl (cL, nl, .inl fl)), (se, .inr (4, [.ref o0_47, .ref o4_51, .ref o8_55])), (o0_47, .inl (o1_48, o2_49, .inl o0_65)), (o4_51, .inl (o5_52, o6_53, .inl o1_66)), (o8_55, .inl (o9_56, o10_57, .inl o2_67))]) [0, 6, 1, 2, 3, 4, 5] (by decide) rfl
          have hK9 := hK.sub (tys' := [(cL, .int), (o1_48, .int), (o5_52, .int), (o9_56, .byte)]) [0, 1, 2, 3] rfl
          refine W.know (fun hkn => ?_)
          have htt9 : tot H + (2 * pot o2_49 + potg o10_57) ≤ cc := by omega
          refine W.widen (k := 3) (n := 170000) (lel _ _ rfl) (by omega) ?_
          exact W.iret (v := r_68) hx hb hr (fun t ht hW => ⟨⟨r_68, (), rfl, trivial, o0_47, o1_48, o2_49, o0_65, o4_51, o5_52, o6_53, o1_66, o8_55, o9_56, o10_57, o2_67, (by omega), (by omega), (by omega), (by rw [ht]; exact htt9), by rw [ht]; exact hP9, va_K.moved hW.alike hK9, hD9⟩, hS.F ht⟩) hS.2.2 dX9_walk_82
        ·
          have n_c_44 : (r_43.toInt : Int) = 0 := c_eq rfl (by decide) c_44
          have b_r_43 : (0 : Int) ≤ r_43.toInt ∧ r_43.toInt ≤ 0 := r_eq1 b_r_43 (by decide : (0 : Int) ≤ (0 : Int32).toInt ∧ (0 : Int32).toInt ≤ 0) n_c_44 (by decide)
          refine lv_iconst (v := (-1)) hx hb dX9_walk_47 (by decide) ?_
          have hP9 := hP.sub (ws' := [(h0, .inr (7, [.ref tp, .ref sc, .ref rd, .ref cu, .ref im, .ref ig, .ref sl, .ref se, .ref sm, .ref fc])), (cu, .inr (1, [.int ln, .int bs, .int tk, .int lw, .int li, .ref fa, .ref lu])), (lu, .inl (cL, nl, .inl fl)), (se, .inr (4, [.ref qa, .ref qf, .ref qg])), (qa, .inl (cQ, nq, .inl fq)), (qf, .inl (cR, nr, .inl fr)), (qg, .inl (cH, ng, .inl fh))]) [0, 1, 2, 3, 4, 5, 6] rfl
          have hD9 := hD.sub (ws' := [(h0, .inr (7, [.ref tp, .ref sc, .ref rd, .ref cu, .ref im, .ref ig, .ref sl, .ref se, .ref sm, .ref fc])), (cu, .inr (1, [.int ln, .int bs, .int tk, .int lw, .int li, .ref fa, .ref lu])), (lu, .inl (cL, nl, .inl fl)), (se, .inr (4, [.ref qa, .ref qf, .ref qg])), (qa, .inl (cQ, nq, .inl fq)), (qf, .inl (cR, nr, .inl fr)), (qg, .inl (cH, ng, .inl fh))]) [0, 1, 2, 3, 4, 5, 6] (by decide) rfl
          have hK9 := hK.sub (tys' := [(cL, .int), (cQ, .int), (cR, .int), (cH, .byte)]) [0, 1, 2, 3] rfl
          refine W.know (fun hkn => ?_)
          have htt9 : tot s.heap + (2 * pot nq + potg ng) ≤ cc := by omega
          refine W.widen (k := 3) (n := 170000) (lel _ _ rfl) (by omega) ?_
          exact W.iret (v := (-1)) hx hb hr (fun t ht hW => ⟨⟨(-1), (), rfl, trivial, qa, cQ, nq, fq, qf, cR, nr, fr, qg, cH, ng, fh, (by have zl : ((-1) : Int32).toInt = -1 := (by decide); omega), (by have zl : ((-1) : Int32).toInt = -1 := (by decide); omega), (by have zl : ((-1) : Int32).toInt = -1 := (by decide); omega), (by rw [ht]; exact htt9), by rw [ht]; exact hP9, va_K.moved hW.alike hK9, hD9⟩, hS.F ht⟩) hS.2.2 dX9_walk_48
    ·
      have n_c_39 : (r_38.toInt : Int) = 0 := c_eq rfl (by decide) c_39
      have b_r_38 : (0 : Int) ≤ r_38.toInt ∧ r_38.toInt ≤ 0 := r_eq1 b_r_38 (by decide : (0 : Int) ≤ (0 : Int32).toInt ∧ (0 : Int32).toInt ≤ 0) n_c_39 (by decide)
      refine lv_bipush (v := (-2)) hx hb dX9_walk_20 (by decide) ?_
      have hP9 := hP.sub (ws' := [(h0, .inr (7, [.ref tp, .ref sc, .ref rd, .ref cu, .ref im, .ref ig, .ref sl, .ref se, .ref sm, .ref fc])), (cu, .inr (1, [.int ln, .int bs, .int tk, .int lw, .int li, .ref fa, .ref lu])), (lu, .inl (cL, nl, .inl fl)), (se, .inr (4, [.ref qa, .ref qf, .ref qg])), (qa, .inl (cQ, nq, .inl fq)), (qf, .inl (cR, nr, .inl fr)), (qg, .inl (cH, ng, .inl fh))]) [0, 1, 2, 3, 4, 5, 6] rfl
      have hD9 := hD.sub (ws' := [(h0, .inr (7, [.ref tp, .ref sc, .ref rd, .ref cu, .ref im, .ref ig, .ref sl, .ref se, .ref sm, .ref fc])), (cu, .inr (1, [.int ln, .int bs, .int tk, .int lw, .int li, .ref fa, .ref lu])), (lu, .inl (cL, nl, .inl fl)), (se, .inr (4, [.ref qa, .ref qf, .ref qg])), (qa, .inl (cQ, nq, .inl fq)), (qf, .inl (cR, nr, .inl fr)), (qg, .inl (cH, ng, .inl fh))]) [0, 1, 2, 3, 4, 5, 6] (by decide) rfl
      have hK9 := hK.sub (tys' := [(cL, .int), (cQ, .int), (cR, .int), (cH, .byte)]) [0, 1, 2, 3] rfl
      refine W.know (fun hkn => ?_)
      have htt9 : tot s.heap + (2 * pot nq + potg ng) ≤ cc := by omega
      refine W.widen (k := 3) (n := 170000) (lel _ _ rfl) (by omega) ?_
      exact W.iret (v := (-2)) hx hb hr (fun t ht hW => ⟨⟨(-2), (), rfl, trivial, qa, cQ, nq, fq, qf, cR, nr, fr, qg, cH, ng, fh, (by have zl : ((-2) : Int32).toInt = -2 := (by decide); omega), (by have zl : ((-2) : Int32).toInt = -2 := (by decide); omega), (by have zl : ((-2) : Int32).toInt = -2 := (by decide); omega), (by rw [ht]; exact htt9), by rw [ht]; exact hP9, va_K.moved hW.alike hK9, hD9⟩, hS.F ht⟩) hS.2.2 dX9_walk_22
theorem dX9_islands_0 : decode cX9_islands 0 = .ok (.aload_n 0, 1) := by decide +kernel
theorem dX9_islands_1 : decode cX9_islands 1 = .ok (.getfield 35, 3) := by decide +kernel
theorem dX9_islands_4 : decode cX9_islands 4 = .ok (.iload_n 1, 1) := by decide +kernel
theorem dX9_islands_5 : decode cX9_islands 5 = .ok (.invokevirtual 149, 3) := by decide +kernel
theorem dX9_islands_8 : decode cX9_islands 8 = .ok (.ifCond .eq 12, 3) := by decide +kernel
theorem dX9_islands_11 : decode cX9_islands 11 = .ok (.iload_n 2, 1) := by decide +kernel
theorem dX9_islands_12 : decode cX9_islands 12 = .ok (.iconst 0, 1) := by decide +kernel
theorem dX9_islands_13 : decode cX9_islands 13 = .ok (.iconst 2, 1) := by decide +kernel
theorem dX9_islands_14 : decode cX9_islands 14 = .ok (.invokestatic 158, 3) := by decide +kernel
theorem dX9_islands_17 : decode cX9_islands 17 = .ok (.ifCond .ne 6, 3) := by decide +kernel
theorem dX9_islands_20 : decode cX9_islands 20 = .ok (.bipush (-2), 2) := by decide +kernel
theorem dX9_islands_22 : decode cX9_islands 22 = .ok (.ireturn, 1) := by decide +kernel
theorem dX9_islands_23 : decode cX9_islands 23 = .ok (.aload_n 0, 1) := by decide +kernel
theorem dX9_islands_24 : decode cX9_islands 24 = .ok (.getfield 57, 3) := by decide +kernel
theorem dX9_islands_27 : decode cX9_islands 27 = .ok (.aload_n 0, 1) := by decide +kernel
theorem dX9_islands_28 : decode cX9_islands 28 = .ok (.getfield 35, 3) := by decide +kernel
theorem dX9_islands_31 : decode cX9_islands 31 = .ok (.invokevirtual 290, 3) := by decide +kernel
theorem dX9_islands_34 : decode cX9_islands 34 = .ok (.iconst 0, 1) := by decide +kernel
theorem dX9_islands_35 : decode cX9_islands 35 = .ok (.istore_n 3, 1) := by decide +kernel
theorem dX9_islands_36 : decode cX9_islands 36 = .ok (.iconst 0, 1) := by decide +kernel
theorem dX9_islands_37 : decode cX9_islands 37 = .ok (.istore 4, 2) := by decide +kernel
theorem dX9_islands_39 : decode cX9_islands 39 = .ok (.iconst (-1), 1) := by decide +kernel
theorem dX9_islands_40 : decode cX9_islands 40 = .ok (.istore 5, 2) := by decide +kernel
theorem dX9_islands_42 : decode cX9_islands 42 = .ok (.iconst 0, 1) := by decide +kernel
theorem dX9_islands_43 : decode cX9_islands 43 = .ok (.istore 6, 2) := by decide +kernel
theorem dX9_islands_45 : decode cX9_islands 45 = .ok (.iload 6, 2) := by decide +kernel
theorem dX9_islands_47 : decode cX9_islands 47 = .ok (.aload_n 0, 1) := by decide +kernel
theorem dX9_islands_48 : decode cX9_islands 48 = .ok (.getfield 35, 3) := by decide +kernel
theorem dX9_islands_51 : decode cX9_islands 51 = .ok (.getfield 155, 3) := by decide +kernel
theorem dX9_islands_54 : decode cX9_islands 54 = .ok (.if_icmp .ge 68, 3) := by decide +kernel
theorem dX9_islands_57 : decode cX9_islands 57 = .ok (.aload_n 0, 1) := by decide +kernel
theorem dX9_islands_58 : decode cX9_islands 58 = .ok (.getfield 35, 3) := by decide +kernel
theorem dX9_islands_61 : decode cX9_islands 61 = .ok (.iload_n 1, 1) := by decide +kernel
theorem dX9_islands_62 : decode cX9_islands 62 = .ok (.iload 6, 2) := by decide +kernel
theorem dX9_islands_64 : decode cX9_islands 64 = .ok (.invokevirtual 175, 3) := by decide +kernel
theorem dX9_islands_67 : decode cX9_islands 67 = .ok (.ifCond .eq 49, 3) := by decide +kernel
theorem dX9_islands_70 : decode cX9_islands 70 = .ok (.aload_n 0, 1) := by decide +kernel
theorem dX9_islands_71 : decode cX9_islands 71 = .ok (.getfield 57, 3) := by decide +kernel
theorem dX9_islands_74 : decode cX9_islands 74 = .ok (.iload 6, 2) := by decide +kernel
theorem dX9_islands_76 : decode cX9_islands 76 = .ok (.invokevirtual 301, 3) := by decide +kernel
theorem dX9_islands_79 : decode cX9_islands 79 = .ok (.ifCond .ne 37, 3) := by decide +kernel
theorem dX9_islands_82 : decode cX9_islands 82 = .ok (.aload_n 0, 1) := by decide +kernel
theorem dX9_islands_83 : decode cX9_islands 83 = .ok (.getfield 57, 3) := by decide +kernel
theorem dX9_islands_86 : decode cX9_islands 86 = .ok (.aload_n 0, 1) := by decide +kernel
theorem dX9_islands_87 : decode cX9_islands 87 = .ok (.getfield 35, 3) := by decide +kernel
theorem dX9_islands_90 : decode cX9_islands 90 = .ok (.iload_n 1, 1) := by decide +kernel
theorem dX9_islands_91 : decode cX9_islands 91 = .ok (.iload 6, 2) := by decide +kernel
theorem dX9_islands_93 : decode cX9_islands 93 = .ok (.invokevirtual 294, 3) := by decide +kernel
theorem dX9_islands_96 : decode cX9_islands 96 = .ok (.istore 7, 2) := by decide +kernel
theorem dX9_islands_98 : decode cX9_islands 98 = .ok (.iinc 3 1, 3) := by decide +kernel
theorem dX9_islands_101 : decode cX9_islands 101 = .ok (.iload 7, 2) := by decide +kernel
theorem dX9_islands_103 : decode cX9_islands 103 = .ok (.iload 4, 2) := by decide +kernel
theorem dX9_islands_105 : decode cX9_islands 105 = .ok (.if_icmp .le 11, 3) := by decide +kernel
theorem dX9_islands_108 : decode cX9_islands 108 = .ok (.iload 7, 2) := by decide +kernel
theorem dX9_islands_110 : decode cX9_islands 110 = .ok (.istore 4, 2) := by decide +kernel
theorem dX9_islands_112 : decode cX9_islands 112 = .ok (.iload 6, 2) := by decide +kernel
theorem dX9_islands_114 : decode cX9_islands 114 = .ok (.istore 5, 2) := by decide +kernel
theorem dX9_islands_116 : decode cX9_islands 116 = .ok (.iinc 6 1, 3) := by decide +kernel
theorem dX9_islands_119 : decode cX9_islands 119 = .ok (.goto (-74), 3) := by decide +kernel
theorem dX9_islands_122 : decode cX9_islands 122 = .ok (.iload_n 2, 1) := by decide +kernel
theorem dX9_islands_123 : decode cX9_islands 123 = .ok (.ifCond .ne 5, 3) := by decide +kernel
theorem dX9_islands_126 : decode cX9_islands 126 = .ok (.iload_n 3, 1) := by decide +kernel
theorem dX9_islands_127 : decode cX9_islands 127 = .ok (.ireturn, 1) := by decide +kernel
theorem dX9_islands_128 : decode cX9_islands 128 = .ok (.iload_n 2, 1) := by decide +kernel
theorem dX9_islands_129 : decode cX9_islands 129 = .ok (.iconst 1, 1) := by decide +kernel
theorem dX9_islands_130 : decode cX9_islands 130 = .ok (.if_icmp .ne 8, 3) := by decide +kernel
theorem dX9_islands_133 : decode cX9_islands 133 = .ok (.iload 4, 2) := by decide +kernel
theorem dX9_islands_135 : decode cX9_islands 135 = .ok (.goto 5, 3) := by decide +kernel
theorem dX9_islands_138 : decode cX9_islands 138 = .ok (.iload 5, 2) := by decide +kernel
theorem dX9_islands_140 : decode cX9_islands 140 = .ok (.ireturn, 1) := by decide +kernel
theorem hd_yX9_islands : yX9_islands.cls = RX9 ∧ yX9_islands.cls ≠ "java/lang/invoke/MethodHandle" ∧ yX9_islands.cls ≠ "java/lang/invoke/VarHandle" ∧ (parseMethodDescriptor yX9_islands.desc).map (fun d => d.parameters.length) = some 2 := by decide +kernel
def uX9_islands : List Cond := List.cons (.code yX9_islands cX9_islands 8 (some .int)) (HAppend.hAppend ([.fieldLink RX9 35 "LuckyTicket" "current" "LLuckyTicket$Roll;", .methodLink RX9 149 yX2_hasLaw, .instanceMethod yX2_hasLaw, .selects RX2 yX2_hasLaw yX2_hasLaw, .initialized RX2, .methodLink RX9 158 yX9_isWithin, .static yX9_isWithin, .initialized RX9, .fieldLink RX9 57 "LuckyTicket" "search" "LLuckyTicket$Search;", .methodLink RX9 290 yX5_prepare, .instanceMethod yX5_prepare, .selects RX5 yX5_prepare yX5_prepare, .initialized RX5, .methodLink RX9 175 yX2_isLucky, .instanceMethod yX2_isLucky, .selects RX2 yX2_isLucky yX2_isLucky, .methodLink RX9 301 yX5_isReached, .instanceMethod yX5_isReached, .selects RX5 yX5_isReached yX5_isReached, .methodLink RX9 294 yX5_spread, .instanceMethod yX5_spread, .selects RX5 yX5_spread yX5_spread] : List Cond) (HAppend.hAppend uX2_hasLaw (HAppend.hAppend uX9_isWithin (HAppend.hAppend uX5_prepare (HAppend.hAppend uX2_isLucky (HAppend.hAppend uX5_isReached (HAppend.hAppend uX5_spread (HAppend.hAppend wsX90 wsX20))))))))
theorem iX9_islands_X9 : ∀ w ∈ wsX90, w ∈ uX9_islands := fun _ h => (List.mem_cons_of_mem _ (List.mem_append_right _ (List.mem_append_right _ (List.mem_append_right _ (List.mem_append_right _ (List.mem_append_right _ (List.mem_append_right _ (List.mem_append_right _ (List.mem_append_left _ h)))))))))
theorem iX9_islands_X2 : ∀ w ∈ wsX20, w ∈ uX9_islands := fun _ h => (List.mem_cons_of_mem _ (List.mem_append_right _ (List.mem_append_right _ (List.mem_append_right _ (List.mem_append_right _ (List.mem_append_right _ (List.mem_append_right _ (List.mem_append_right _ (List.mem_append_right _ h)))))))))
theorem guX9_islands : GU uX9_islands := gu_cons (gu_app (by decide +kernel) (gu_ap guX2_hasLaw (gu_ap guX9_isWithin (gu_ap guX5_prepare (gu_ap guX2_isLucky (gu_ap guX5_isReached (gu_ap guX5_spread (gu_ap gws_X9 gws_X2))))))))
theorem gX9_islands__X2_hasLaw_V149 : GoodIn uX9_islands (wsV RX9 149 RX2 yX2_hasLaw uX2_hasLaw) := gin_V (List.mem_of_getElem? (i := 2) rfl) (List.mem_of_getElem? (i := 3) rfl) (List.mem_of_getElem? (i := 4) rfl) (List.mem_of_getElem? (i := 5) rfl) (fun _ h => (List.mem_cons_of_mem _ (List.mem_append_right _ (List.mem_append_left _ h)))) guX2_hasLaw
theorem gX9_islands__X9_isWithin_S158 : GoodIn uX9_islands (va_wsS RX9 158 yX9_isWithin uX9_isWithin) := gin_S (List.mem_of_getElem? (i := 6) rfl) (List.mem_of_getElem? (i := 7) rfl) (List.mem_of_getElem? (i := 8) rfl) (fun _ h => (List.mem_cons_of_mem _ (List.mem_append_right _ (List.mem_append_right _ (List.mem_append_left _ h))))) guX9_isWithin
theorem gX9_islands__X5_prepare_V290 : GoodIn uX9_islands (wsV RX9 290 RX5 yX5_prepare uX5_prepare) := gin_V (List.mem_of_getElem? (i := 10) rfl) (List.mem_of_getElem? (i := 11) rfl) (List.mem_of_getElem? (i := 12) rfl) (List.mem_of_getElem? (i := 13) rfl) (fun _ h => (List.mem_cons_of_mem _ (List.mem_append_right _ (List.mem_append_right _ (List.mem_append_right _ (List.mem_append_left _ h)))))) guX5_prepare
theorem gX9_islands__X2_isLucky_V175 : GoodIn uX9_islands (wsV RX9 175 RX2 yX2_isLucky uX2_isLucky) := gin_V (List.mem_of_getElem? (i := 14) rfl) (List.mem_of_getElem? (i := 15) rfl) (List.mem_of_getElem? (i := 16) rfl) (List.mem_of_getElem? (i := 5) rfl) (fun _ h => (List.mem_cons_of_mem _ (List.mem_append_right _ (List.mem_append_right _ (List.mem_append_right _ (List.mem_append_right _ (List.mem_append_left _ h))))))) guX2_isLucky
theorem gX9_islands__X5_isReached_V301 : GoodIn uX9_islands (wsV RX9 301 RX5 yX5_isReached uX5_isReached) := gin_V (List.mem_of_getElem? (i := 17) rfl) (List.mem_of_getElem? (i := 18) rfl) (List.mem_of_getElem? (i := 19) rfl) (List.mem_of_getElem? (i := 13) rfl) (fun _ h => (List.mem_cons_of_mem _ (List.mem_append_right _ (List.mem_append_right _ (List.mem_append_right _ (List.mem_append_right _ (List.mem_append_right _ (List.mem_append_left _ h)))))))) guX5_isReached
theorem gX9_islands__X5_spread_V294 : GoodIn uX9_islands (wsV RX9 294 RX5 yX5_spread uX5_spread) := gin_V (List.mem_of_getElem? (i := 20) rfl) (List.mem_of_getElem? (i := 21) rfl) (List.mem_of_getElem? (i := 22) rfl) (List.mem_of_getElem? (i := 13) rfl) (fun _ h => (List.mem_cons_of_mem _ (List.mem_append_right _ (List.mem_append_right _ (List.mem_append_right _ (List.mem_append_right _ (List.mem_append_right _ (List.mem_append_right _ (List.mem_append_left _ h))))))))) guX5_spread
set_option maxHeartbeats 4000000 in
set_option maxRecDepth 100000 in
theorem kX9_islands (l : Launch) (dC : Nat → ClassId) (dI : Nat → Nat → Nat) (h0 : Nat) (tp : Nat) (sc : Nat) (rd : Nat) (cu : Nat) (im : Nat) (ig : Nat) (sl : Nat) (se : Nat) (sm : Nat) (fc : Nat) (ln : Int32) (bs : Int32) (tk : Int32) (lw : Int32) (li : Int32) (fa : Nat) (lu : Nat) (cL : ClassId) (nl : Nat) (fl : Nat → Int32) (qa : Nat) (qf : Nat) (qg : Nat) (cQ : ClassId) (nq : Nat) (fq : Nat → Int32) (cR : ClassId) (nr : Nat) (fr : Nat → Int32) (cH : ClassId) (ng : Nat) (fh : Nat → Int32) (a1 : Int32) (a2 : Int32) (cc : Nat) (sz : Nat) (b_ln : (0 : Int) ≤ ln.toInt ∧ ln.toInt ≤ 12) (b_bs : (0 : Int) ≤ bs.toInt ∧ bs.toInt ≤ 16) (b_tk : (0 : Int) ≤ tk.toInt ∧ tk.toInt ≤ 20000) (b_lw : (0 : Int) ≤ lw.toInt ∧ lw.toInt ≤ 9) (hl1 : tk.toInt ≤ (nl : Int)) (hrk : RK ln bs tk) (hnr : nr = nq) (hq1 : nq ≤ 20000) (hq3 : ng ≤ 200000) : Met l yX9_islands uX9_islands ({ frames := 5, cells := 3, slots := 170000, locals := 129 }) (va_Pc [.ref h0, .int a1, .int a2] (hg (dC, dI) vwCl [(h0, .inr (7, [.ref tp, .ref sc, .ref rd, .ref cu, .ref im, .ref ig, .ref sl, .ref se, .ref sm, .ref fc])), (cu, .inr (1, [.int ln, .int bs, .int tk, .int lw, .int li, .ref fa, .ref lu])), (lu, .inl (cL, nl, .inl fl)), (se, .inr (4, [.ref qa, .ref qf, .ref qg])), (qa, .inl (cQ, nq, .inl fq)), (qf, .inl (cR, nr, .inl fr)), (qg, .inl (cH, ng, .inl fh))] [(cL, .int), (cQ, .int), (cR, .int), (cH, .byte)] sz cc (2 * pot nq + potg ng))) (va_Qi (fun (r : Int32) (_ : Unit) => True) (fun (_ : Unit) t => ∃ (o0_ : Nat) (o1_ : ClassId) (o2_ : Nat) (o3_ : Nat → Int32) (o4_ : Nat) (o5_ : ClassId) (o6_ : Nat) (o7_ : Nat → Int32) (o8_ : Nat) (o9_ : ClassId) (o10_ : Nat) (o11_ : Nat → Int32), (o6_ = o2_) ∧ (o2_ ≤ 20000) ∧ (o10_ ≤ 200000) ∧ (tot t.heap + (2 * pot o2_ + potg o10_) ≤ cc) ∧ va_P (dC, dI) vwCl [(h0, .inr (7, [.ref tp, .ref sc, .ref rd, .ref cu, .ref im, .ref ig, .ref sl, .ref se, .ref sm, .ref fc])), (cu, .inr (1, [.int ln, .int bs, .int tk, .int lw, .int li, .ref fa, .ref lu])), (lu, .inl (cL, nl, .inl fl)), (se, .inr (4, [.ref o0_, .ref o4_, .ref o8_])), (o0_, .inl (o1_, o2_, .inl o3_)), (o4_, .inl (o5_, o6_, .inl o7_)), (o8_, .inl (o9_, o10_, .inl o11_))] t.heap ∧ va_K (dC, dI) vwCl [(cL, .int), (o1_, .int), (o5_, .int), (o9_, .byte)] t ∧ va_D (va_A [(h0, .inr (7, [.ref tp, .ref sc, .ref rd, .ref cu, .ref im, .ref ig, .ref sl, .ref se, .ref sm, .ref fc])), (cu, .inr (1, [.int ln, .int bs, .int tk, .int lw, .int li, .ref fa, .ref lu])), (lu, .inl (cL, nl, .inl fl)), (se, .inr (4, [.ref qa, .ref qf, .ref qg])), (qa, .inl (cQ, nq, .inl fq)), (qf, .inl (cR, nr, .inl fr)), (qg, .inl (cH, ng, .inl fh))] sz) [(h0, .inr (7, [.ref tp, .ref sc, .ref rd, .ref cu, .ref im, .ref ig, .ref sl, .ref se, .ref sm, .ref fc])), (cu, .inr (1, [.int ln, .int bs, .int tk, .int lw, .int li, .ref fa, .ref lu])), (lu, .inl (cL, nl, .inl fl)), (se, .inr (4, [.ref o0_, .ref o4_, .ref o8_])), (o0_, .inl (o1_, o2_, .inl o3_)), (o4_, .inl (o5_, o6_, .inl o7_)), (o8_, .inl (o9_, o10_, .inl o11_))]) (va_A [(h0, .inr (7, [.ref tp, .ref sc, .ref rd, .ref cu, .ref im, .ref ig, .ref sl, .ref se, .ref sm, .ref fc])), (cu, .inr (1, [.int ln, .int bs, .int tk, .int lw, .int li, .ref fa, .ref lu])), (lu, .inl (cL, nl, .inl fl)), (se, .inr (4, [.ref qa, .ref qf, .ref qg])), (qa, .inl (cQ, nq, .inl fq)), (qf, .inl (cR, nr, .inl fr)), (qg, .inl (cH, ng, .inl fh))] sz)) 3 170000 (va_A [(h0, .inr (7, [.ref tp, .ref sc, .ref rd, .ref cu, .ref im, .ref ig, .ref sl, .ref se, .ref sm, .ref fc])), (cu, .inr (1, [.int ln, .int bs, .int tk, .int lw, .int li, .ref fa, .ref lu])), (lu, .inl (cL, nl, .inl fl)), (se, .inr (4, [.ref qa, .ref qf, .ref qg])), (qa, .inl (cQ, nq, .inl fq)), (qf, .inl (cR, nr, .inl fr)), (qg, .inl (cH, ng, .inl fh))] sz) := by
  refine Met.ofW (cc := cX9_islands) (maxL := 8) (ret := (some .int)) pn_X9 rfl ?_
  intro p e s m args below meth c s₁ B hml hv
  obtain ⟨rfl, ⟨hsz, hP, hK, hD0, hN⟩, htot⟩ := hv
  have hx := B.exec
  have hb := B.bytes
  have hr := B.returns
  have hts := atoms_spec (ws := uX9_islands) B.pre
  have hown : s.vm.findClass RX9 = some m.cls := hown_of B.named rfl
  have hlocks := B.notSynchronized
  subst hsz
  have hD := hD0.self (sz := s.heap.size)
  generalize hAe : va_A [(h0, .inr (7, [.ref tp, .ref sc, .ref rd, .ref cu, .ref im, .ref ig, .ref sl, .ref se, .ref sm, .ref fc])), (cu, .inr (1, [.int ln, .int bs, .int tk, .int lw, .int li, .ref fa, .ref lu])), (lu, .inl (cL, nl, .inl fl)), (se, .inr (4, [.ref qa, .ref qf, .ref qg])), (qa, .inl (cQ, nq, .inl fq)), (qf, .inl (cR, nr, .inl fr)), (qg, .inl (cH, ng, .inl fh))] s.heap.size = A at hD ⊢
  have hA : ∀ q : Nat, s.heap.size ≤ q → A q := fun q h => by rw [← hAe]; exact Or.inr h
  have hS : va_S A s.heap s.heap [] := va_S.rf
  have hP : va_P (dC, dI) vwCl [(h0, .inr (7, [.ref tp, .ref sc, .ref rd, .ref cu, .ref im, .ref ig, .ref sl, .ref se, .ref sm, .ref fc])), (cu, .inr (1, [.int ln, .int bs, .int tk, .int lw, .int li, .ref fa, .ref lu])), (lu, .inl (cL, nl, .inl fl)), (se, .inr (4, [.ref qa, .ref qf, .ref qg])), (qa, .inl (cQ, nq, .inl fq)), (qf, .inl (cR, nr, .inl fr)), (qg, .inl (cH, ng, .inl fh))] s.heap := hP
  have hl := lv_entry ([.ref h0, .int a1, .int a2]) (n := 8) (Nat.le_of_ble_eq_true rfl)
  rw [lg_entry_eq]
  generalize (lg_sl ([.ref h0, .int a1, .int a2]) ++ List.replicate (8 - (lg_sl ([.ref h0, .int a1, .int a2])).length) Slot.unset).toArray = ls at hl ⊢
  have hl : lv_has ls 8 [(0, .ref h0), (1, .int a1), (2, .int a2)] := hl
  refine lv_aload_n hx hb dX9_islands_0 rfl (lv_at hl 0 rfl) ?_
  refine va_get (D := (dC, dI)) (ci := 7) (v := .ref cu) (C := RX9) (T := TX9) (N := 10) hx hb hts iX9_islands_X9 hown hK hP 0 rfl rfl 3 (by decide) (hts (.fieldLink RX9 35 "LuckyTicket" "current" "LLuckyTicket$Roll;") (List.mem_of_getElem? (i := 1) rfl)) (fun _ h9 => h9) rfl dX9_islands_1 ?_
  refine lv_iload_n hx hb dX9_islands_4 rfl (lv_at hl 1 rfl) ?_
  refine vp_callSi (W.runV (As := [.int a1]) (rest := []) ⟨hx, hb, hml, hown, hts⟩ (kX2_hasLaw l dC dI cu ln bs tk lw li fa lu a1 b_ln b_bs b_tk b_lw) (cwV 1 hts gX9_islands__X2_hasLaw_V149 rfl rfl rfl hd_yX2_hasLaw ⟨lel 1 5 rfl, lel 21 129 rfl⟩) ⟨pw_fb, rcv_X2 hK hP (q0 := 1) rfl, (pw_use hP hK hN [1] rfl [] rfl)⟩ rfl rfl hl.1 rfl (lv_room (Nat.le_of_ble_eq_true rfl)) dX9_islands_5 ⟨lel 0 3 rfl, lel 0 170000 rfl⟩) (fun r_1001 h_r_1001 => ?_)
  obtain ⟨b_r_1001, nz_r_1001⟩ := h_r_1001
  have b_r_1001 : (0 : Int) ≤ r_1001.toInt ∧ r_1001.toInt ≤ 1 := b_r_1001
  refine lv_if_eq (tgt := 20) hx hb dX9_islands_8 (by decide) (fun c_1002 => ?_) (fun c_1002 => ?_)
  ·
    have n_c_1002 : (r_1001.toInt : Int) = 0 := c_eq rfl (by decide) c_1002
    have b_r_1001 : (0 : Int) ≤ r_1001.toInt ∧ r_1001.toInt ≤ 0 := r_eq1 b_r_1001 (by decide : (0 : Int) ≤ (0 : Int32).toInt ∧ (0 : Int32).toInt ≤ 0) n_c_1002 (by decide)
    refine lv_bipush (v := (-2)) hx hb dX9_islands_20 (by decide) ?_
    have hP9 := hP.sub (ws' := [(h0, .inr (7, [.ref tp, .ref sc, .ref rd, .ref cu, .ref im, .ref ig, .ref sl, .ref se, .ref sm, .ref fc])), (cu, .inr (1, [.int ln, .int bs, .int tk, .int lw, .int li, .ref fa, .ref lu])), (lu, .inl (cL, nl, .inl fl)), (se, .inr (4, [.ref qa, .ref qf, .ref qg])), (qa, .inl (cQ, nq, .inl fq)), (qf, .inl (cR, nr, .inl fr)), (qg, .inl (cH, ng, .inl fh))]) [0, 1, 2, 3, 4, 5, 6] rfl
    have hD9 := hD.sub (ws' := [(h0, .inr (7, [.ref tp, .ref sc, .ref rd, .ref cu, .ref im, .ref ig, .ref sl, .ref se, .ref sm, .ref fc])), (cu, .inr (1, [.int ln, .int bs, .int tk, .int lw, .int li, .ref fa, .ref lu])), (lu, .inl (cL, nl, .inl fl)), (se, .inr (4, [.ref qa, .ref qf, .ref qg])), (qa, .inl (cQ, nq, .inl fq)), (qf, .inl (cR, nr, .inl fr)), (qg, .inl (cH, ng, .inl fh))]) [0, 1, 2, 3, 4, 5, 6] (by decide) rfl
    have hK9 := hK.sub (tys' := [(cL, .int), (cQ, .int), (cR, .int), (cH, .byte)]) [0, 1, 2, 3] rfl
    refine W.know (fun hkn => ?_)
    have htt9 : tot s.heap + (2 * pot nq + potg ng) ≤ cc := by omega
    refine W.widen (k := 3) (n := 170000) (lel _ _ rfl) (by omega) ?_
    exact W.iret (v := (-2)) hx hb hr (fun t ht hW => ⟨⟨(-2), (), rfl, trivial, qa, cQ, nq, fq, qf, cR, nr, fr, qg, cH, ng, fh, (by have zl : ((-2) : Int32).toInt = -2 := (by decide); omega), (by have zl : ((-2) : Int32).toInt = -2 := (by decide); omega), (by have zl : ((-2) : Int32).toInt = -2 := (by decide); omega), (by rw [ht]; exact htt9), by rw [ht]; exact hP9, va_K.moved hW.alike hK9, hD9⟩, hS.F ht⟩) hS.2.2 dX9_islands_22
  ·
    have n_c_1002 : (r_1001.toInt : Int) ≠ 0 := c_ne rfl (by decide) c_1002
    have b_r_1001 : (1 : Int) ≤ r_1001.toInt ∧ r_1001.toInt ≤ 1 := r_ne1 b_r_1001 (by decide : (0 : Int) ≤ (0 : Int32).toInt ∧ (0 : Int32).toInt ≤ 0) n_c_1002 (by decide)
    obtain ⟨b_a1, g_1003⟩ := nz_r_1001 c_1002
    refine lv_iload_n hx hb dX9_islands_11 rfl (lv_at hl 2 rfl) ?_
    refine lv_iconst (v := 0) hx hb dX9_islands_12 (by decide) ?_
    refine lv_iconst (v := 2) hx hb dX9_islands_13 (by decide) ?_
    refine vp_callSi (W.runS (As := [.int a2, .int 0, .int 2]) (rest := []) ⟨hx, hb, hml, hown, hts⟩ (kX9_isWithin l dC dI a2 0 2 ) (va_cwS 3 hts gX9_islands__X9_isWithin_S158 rfl rfl rfl hd_yX9_isWithin.2 ⟨lel 1 5 rfl, lel 22 129 rfl⟩) ⟨pn_fb, pn_use⟩ rfl rfl hl.1 rfl (lv_room (Nat.le_of_ble_eq_true rfl)) dX9_islands_14 ⟨lel 0 3 rfl, lel 0 170000 rfl⟩) (fun r_1004 h_r_1004 => ?_)
    obtain ⟨b_r_1004, nz_r_1004⟩ := h_r_1004
    have b_r_1004 : (0 : Int) ≤ r_1004.toInt ∧ r_1004.toInt ≤ 1 := b_r_1004
    refine lv_if_ne (tgt := 23) hx hb dX9_islands_17 (by decide) (fun c_1005 => ?_) (fun c_1005 => ?_)
    ·
      have n_c_1005 : (r_1004.toInt : Int) ≠ 0 := c_ne rfl (by decide) c_1005
      have b_r_1004 : (1 : Int) ≤ r_1004.toInt ∧ r_1004.toInt ≤ 1 := r_ne1 b_r_1004 (by decide : (0 : Int) ≤ (0 : Int32).toInt ∧ (0 : Int32).toInt ≤ 0) n_c_1005 (by decide)
      have g_1006 := nz_r_1004 c_1005
      have lt0_g_1006 := (by decide : (0 : Int32).toInt = 0)
      have lt1_g_1006 := (by decide : (2 : Int32).toInt = 2)
      have b_a2 : (0 : Int) ≤ a2.toInt ∧ a2.toInt ≤ 2 := by
        have q0 := (ti_rng a2)
        have q1 := (by decide : (0 : Int) ≤ (0 : Int32).toInt ∧ (0 : Int32).toInt ≤ 0)
        have q2 := (by decide : (2 : Int) ≤ (2 : Int32).toInt ∧ (2 : Int32).toInt ≤ 2)
        omega
      refine lv_aload_n hx hb dX9_islands_23 rfl (lv_at hl 0 rfl) ?_
      refine va_get (D := (dC, dI)) (ci := 7) (v := .ref se) (C := RX9) (T := TX9) (N := 10) hx hb hts iX9_islands_X9 hown hK hP 0 rfl rfl 7 (by decide) (hts (.fieldLink RX9 57 "LuckyTicket" "search" "LLuckyTicket$Search;") (List.mem_of_getElem? (i := 9) rfl)) (fun _ h9 => h9) rfl dX9_islands_24 ?_
      refine lv_aload_n hx hb dX9_islands_27 rfl (lv_at hl 0 rfl) ?_
      refine va_get (D := (dC, dI)) (ci := 7) (v := .ref cu) (C := RX9) (T := TX9) (N := 10) hx hb hts iX9_islands_X9 hown hK hP 0 rfl rfl 3 (by decide) (hts (.fieldLink RX9 35 "LuckyTicket" "current" "LLuckyTicket$Roll;") (List.mem_of_getElem? (i := 1) rfl)) (fun _ h9 => h9) rfl dX9_islands_28 ?_
      have hFc := va_free (wc := [(se, .inr (4, [.ref qa, .ref qf, .ref qg])), (qa, .inl (cQ, nq, .inl fq)), (qf, .inl (cR, nr, .inl fr)), (qg, .inl (cH, ng, .inl fh)), (cu, .inr (1, [.int ln, .int bs, .int tk, .int lw, .int li, .ref fa, .ref lu]))]) hD hS hA [3, 4, 5, 6, 1] rfl
      refine W.know (fun hkn => ?_)
      refine va_callv (va_runV (As := [.ref cu]) (rest := []) ⟨hx, hb, hml, hown, hts⟩ (kX5_prepare l dC dI se qa qf qg cQ nq fq cR nr fr cH ng fh cu ln bs tk lw li fa lu ((cc)) (s.heap.size) b_ln b_bs b_tk b_lw (by omega) (by omega) (by omega) (hrk)) (cwV 1 hts gX9_islands__X5_prepare_V290 rfl rfl rfl hd_yX5_prepare ⟨lel 2 5 rfl, lel 45 129 rfl⟩) ⟨hg_fb, rcv_X5 hK hP (q0 := 3) rfl, (hg_use hP hD hK hN [3, 4, 5, 6, 1] rfl (by decide) rfl [1, 2, 3] rfl (by omega))⟩ rfl rfl hl.1 rfl (lv_room (Nat.le_of_ble_eq_true rfl)) dX9_islands_31 ⟨lel 3 3 rfl, lel 170000 170000 rfl⟩) hS (fun q _ h => hFc q h) hFc (fun u_1008 t H1 locs ht hvm hw_r_1007 hB hz1 hk1 hS => ?_)
      obtain ⟨o0_1009, o1_1010, o2_1011, o3_1012, o4_1013, o5_1014, o6_1015, o7_1016, o8_1017, o9_1018, o10_1019, o11_1020, hf_1021, hf_1022, hf_1023, htt, hP1, hK1, hD1⟩ := hB
      rw [ht] at hP1 htt
      have hK1 := va_K.moved hvm.symm hK1
      obtain ⟨hP, hD⟩ := va_join (wr := [(h0, .inr (7, [.ref tp, .ref sc, .ref rd, .ref cu, .ref im, .ref ig, .ref sl, .ref se, .ref sm, .ref fc])), (lu, .inl (cL, nl, .inl fl))]) (w1 := [(se, .inr (4, [.ref o0_1009, .ref o4_1013, .ref o8_1017])), (o0_1009, .inl (o1_1010, o2_1011, .inl o3_1012)), (o4_1013, .inl (o5_1014, o6_1015, .inl o7_1016)), (o8_1017, .inl (o9_1018, o10_1019, .inl o11_1020)), (cu, .inr (1, [.int ln, .int bs, .int tk, .int lw, .int li, .ref fa, .ref lu]))]) hP hD [3, 4, 5, 6, 1] [0, 2] rfl rfl (by decide) (by decide) hk1 hFc hP1 hD1
      have hK := (hK.sub (tys' := [(cL, .int)]) [0] rfl).app hK1
      generalize H1 = H at hP hS htt ⊢
      have hP : va_P (dC, dI) vwCl [(h0, .inr (7, [.ref tp, .ref sc, .ref rd, .ref cu, .ref im, .ref ig, .ref sl, .ref se, .ref sm, .ref fc])), (lu, .inl (cL, nl, .inl fl)), (se, .inr (4, [.ref o0_1009, .ref o4_1013, .ref o8_1017])), (o0_1009, .inl (o1_1010, o2_1011, .inl o3_1012)), (o4_1013, .inl (o5_1014, o6_1015, .inl o7_1016)), (o8_1017, .inl (o9_1018, o10_1019, .inl o11_1020)), (cu, .inr (1, [.int ln, .int bs, .int tk, .int lw, .int li, .ref fa, .ref lu]))] H := hP
      have hD : va_D A [(h0, .inr (7, [.ref tp, .ref sc, .ref rd, .ref cu, .ref im, .ref ig, .ref sl, .ref se, .ref sm, .ref fc])), (lu, .inl (cL, nl, .inl fl)), (se, .inr (4, [.ref o0_1009, .ref o4_1013, .ref o8_1017])), (o0_1009, .inl (o1_1010, o2_1011, .inl o3_1012)), (o4_1013, .inl (o5_1014, o6_1015, .inl o7_1016)), (o8_1017, .inl (o9_1018, o10_1019, .inl o11_1020)), (cu, .inr (1, [.int ln, .int bs, .int tk, .int lw, .int li, .ref fa, .ref lu]))] := hD
      have hK : va_K (dC, dI) vwCl [(cL, .int), (o1_1010, .int), (o5_1014, .int), (o9_1018, .byte)] s := hK
      refine W.know (fun hkn => ?_)
      obtain ⟨gg_1024, hq_gg_1024⟩ := hgg_ex (tot H) (tot s.heap)
      refine W.tight (n := gg_1024) (by omega) ?_
      refine W.widen (k := 3) (n := gg_1024) (lel _ _ rfl) (Nat.le_refl _) ?_
      have hgt_gg_1024 : gg_1024 ≤ 170000 ∧ tot s.heap + gg_1024 + (2 * pot o2_1011 + potg o10_1019) ≤ cc := by omega
      refine lv_iconst (v := 0) hx hb dX9_islands_34 (by decide) ?_
      refine lv_istore_n (lv' := [(3, .int 0), (0, .ref h0), (1, .int a1), (2, .int a2)]) hx hb dX9_islands_35 rfl hl (by decide) rfl (fun ls hl => ?_)
      refine lv_iconst (v := 0) hx hb dX9_islands_36 (by decide) ?_
      refine lv_istore (lv' := [(4, .int 0), (3, .int 0), (0, .ref h0), (1, .int a1), (2, .int a2)]) hx hb dX9_islands_37 hl (by decide) rfl (fun ls hl => ?_)
      refine lv_iconst (v := (-1)) hx hb dX9_islands_39 (by decide) ?_
      refine lv_istore (lv' := [(5, .int (-1)), (4, .int 0), (3, .int 0), (0, .ref h0), (1, .int a1), (2, .int a2)]) hx hb dX9_islands_40 hl (by decide) rfl (fun ls hl => ?_)
      refine lv_iconst (v := 0) hx hb dX9_islands_42 (by decide) ?_
      refine lv_istore (lv' := [(6, .int 0), (5, .int (-1)), (4, .int 0), (3, .int 0), (0, .ref h0), (1, .int a1), (2, .int a2)]) hx hb dX9_islands_43 hl (by decide) rfl (fun ls hl => ?_)
      refine loopW (σ := Int32 × Int32 × Int32 × Int32 × (Nat → Int32) × (Nat → Int32) × (Nat → Int32)) (fun v => (20000 - v.1.toInt).toNat) (fun v H locs ls => ((0 : Int) ≤ v.1.toInt ∧ v.1.toInt ≤ 20000) ∧ ((-1 : Int) ≤ v.2.1.toInt ∧ v.2.1.toInt ≤ 19999) ∧ ((0 : Int) ≤ v.2.2.1.toInt ∧ v.2.2.1.toInt ≤ 2147483647) ∧ va_P (dC, dI) vwCl [(h0, .inr (7, [.ref tp, .ref sc, .ref rd, .ref cu, .ref im, .ref ig, .ref sl, .ref se, .ref sm, .ref fc])), (lu, .inl (cL, nl, .inl fl)), (se, .inr (4, [.ref o0_1009, .ref o4_1013, .ref o8_1017])), (o0_1009, .inl (o1_1010, o2_1011, .inl v.2.2.2.2.1)), (o4_1013, .inl (o5_1014, o6_1015, .inl v.2.2.2.2.2.1)), (o8_1017, .inl (o9_1018, o10_1019, .inl v.2.2.2.2.2.2)), (cu, .inr (1, [.int ln, .int bs, .int tk, .int lw, .int li, .ref fa, .ref lu]))] H ∧ va_D A [(h0, .inr (7, [.ref tp, .ref sc, .ref rd, .ref cu, .ref im, .ref ig, .ref sl, .ref se, .ref sm, .ref fc])), (lu, .inl (cL, nl, .inl fl)), (se, .inr (4, [.ref o0_1009, .ref o4_1013, .ref o8_1017])), (o0_1009, .inl (o1_1010, o2_1011, .inl v.2.2.2.2.1)), (o4_1013, .inl (o5_1014, o6_1015, .inl v.2.2.2.2.2.1)), (o8_1017, .inl (o9_1018, o10_1019, .inl v.2.2.2.2.2.2)), (cu, .inr (1, [.int ln, .int bs, .int tk, .int lw, .int li, .ref fa, .ref lu]))] ∧ va_S A s.heap H locs ∧ lv_has ls 8 [(6, .int v.1), (5, .int v.2.1), (4, .int v.2.2.1), (3, .int v.2.2.2.1), (0, .ref h0), (1, .int a1), (2, .int a2)]) (fun v H locs ls hI ih_45_1943 => ?_) ((0 : Int32), (-1 : Int32), (0 : Int32), (0 : Int32), o3_1012, o7_1016, o11_1020) ⟨(show (0 : Int) ≤ (0 : Int32).toInt ∧ (0 : Int32).toInt ≤ 20000 from (rg_w (by decide : (0 : Int) ≤ (0 : Int32).toInt ∧ (0 : Int32).toInt ≤ 0) (by decide) (by decide))), (show (-1 : Int) ≤ (-1 : Int32).toInt ∧ (-1 : Int32).toInt ≤ 19999 from (rg_w (by decide : (-1 : Int) ≤ ((-1) : Int32).toInt ∧ ((-1) : Int32).toInt ≤ -1) (by decide) (by decide))), (show (0 : Int) ≤ (0 : Int32).toInt ∧ (0 : Int32).toInt ≤ 2147483647 from (rg_w (by decide : (0 : Int) ≤ (0 : Int32).toInt ∧ (0 : Int32).toInt ≤ 0) (by decide) (by decide))), hP, hD, hS, lv_sub hl [0, 1, 2, 3, 4, 5, 6] rfl⟩
      obtain ⟨y_1082, y_1083, y_1084, y_1085, f_1086, f_1087, f_1088⟩ := v
      obtain ⟨b_y_1082, b_y_1083, b_y_1084, hP, hD, hS, hl⟩ := hI
      have b_y_1082 : (0 : Int) ≤ y_1082.toInt ∧ y_1082.toInt ≤ 20000 := b_y_1082
      have b_y_1083 : (-1 : Int) ≤ y_1083.toInt ∧ y_1083.toInt ≤ 19999 := b_y_1083
      have b_y_1084 : (0 : Int) ≤ y_1084.toInt ∧ y_1084.toInt ≤ 2147483647 := b_y_1084
      have hP : va_P (dC, dI) vwCl [(h0, .inr (7, [.ref tp, .ref sc, .ref rd, .ref cu, .ref im, .ref ig, .ref sl, .ref se, .ref sm, .ref fc])), (lu, .inl (cL, nl, .inl fl)), (se, .inr (4, [.ref o0_1009, .ref o4_1013, .ref o8_1017])), (o0_1009, .inl (o1_1010, o2_1011, .inl f_1086)), (o4_1013, .inl (o5_1014, o6_1015, .inl f_1087)), (o8_1017, .inl (o9_1018, o10_1019, .inl f_1088)), (cu, .inr (1, [.int ln, .int bs, .int tk, .int lw, .int li, .ref fa, .ref lu]))] H := hP
      have hD : va_D A [(h0, .inr (7, [.ref tp, .ref sc, .ref rd, .ref cu, .ref im, .ref ig, .ref sl, .ref se, .ref sm, .ref fc])), (lu, .inl (cL, nl, .inl fl)), (se, .inr (4, [.ref o0_1009, .ref o4_1013, .ref o8_1017])), (o0_1009, .inl (o1_1010, o2_1011, .inl f_1086)), (o4_1013, .inl (o5_1014, o6_1015, .inl f_1087)), (o8_1017, .inl (o9_1018, o10_1019, .inl f_1088)), (cu, .inr (1, [.int ln, .int bs, .int tk, .int lw, .int li, .ref fa, .ref lu]))] := hD
      have hl : lv_has ls 8 [(6, .int y_1082), (5, .int y_1083), (4, .int y_1084), (3, .int y_1085), (0, .ref h0), (1, .int a1), (2, .int a2)] := hl
      refine lv_iload hx hb dX9_islands_45 (lv_at hl 0 rfl) ?_
      refine lv_aload_n hx hb dX9_islands_47 rfl (lv_at hl 4 rfl) ?_
      refine va_get (D := (dC, dI)) (ci := 7) (v := .ref cu) (C := RX9) (T := TX9) (N := 10) hx hb hts iX9_islands_X9 hown hK hP 0 rfl rfl 3 (by decide) (hts (.fieldLink RX9 35 "LuckyTicket" "current" "LLuckyTicket$Roll;") (List.mem_of_getElem? (i := 1) rfl)) (fun _ h9 => h9) rfl dX9_islands_48 ?_
      refine va_getN (own := RX9) (index := 155) (ref := RX2) (host := RX9) (D := (dC, dI)) (ci := 1) (v := .int tk) (C := RX2) (T := TX2) (N := 7) hx hb hts iX9_islands_X2 hown hK hP 6 rfl rfl 2 (by decide) (va_Nw.use rfl (hN _ (List.mem_of_getElem? (i := 18) rfl))) (fun _ h9 => h9) rfl dX9_islands_51 ?_
      refine lv_icmp_ge (tgt := 122) hx hb dX9_islands_54 (by decide) (fun c_1944 => ?_) (fun c_1944 => ?_)
      ·
        have n_c_1944 : (tk.toInt : Int) ≤ y_1082.toInt := c_ge rfl rfl c_1944
        refine lv_iload_n hx hb dX9_islands_122 rfl (lv_at hl 6 rfl) ?_
        refine lv_if_ne (tgt := 128) hx hb dX9_islands_123 (by decide) (fun c_1972 => ?_) (fun c_1972 => ?_)
        ·
          have n_c_1972 : (a2.toInt : Int) ≠ 0 := c_ne rfl (by decide) c_1972
          have b_a2 : (1 : Int) ≤ a2.toInt ∧ a2.toInt ≤ 2 := r_ne1 b_a2 (by decide : (0 : Int) ≤ (0 : Int32).toInt ∧ (0 : Int32).toInt ≤ 0) n_c_1972 (by decide)
          refine lv_iload_n hx hb dX9_islands_128 rfl (lv_at hl 6 rfl) ?_
          refine lv_iconst (v := 1) hx hb dX9_islands_129 (by decide) ?_
          refine lv_icmp_ne (tgt := 138) hx hb dX9_islands_130 (by decide) (fun c_1973 => ?_) (fun c_1973 => ?_)
          ·
            have n_c_1973 : (a2.toInt : Int) ≠ 1 := c_ne rfl (by decide) c_1973
            have b_a2 : (2 : Int) ≤ a2.toInt ∧ a2.toInt ≤ 2 := r_ne1 b_a2 (by decide : (1 : Int) ≤ (1 : Int32).toInt ∧ (1 : Int32).toInt ≤ 1) n_c_1973 (by decide)
            refine lv_iload hx hb dX9_islands_138 (lv_at hl 1 rfl) ?_
            have hP9 := hP.sub (ws' := [(h0, .inr (7, [.ref tp, .ref sc, .ref rd, .ref cu, .ref im, .ref ig, .ref sl, .ref se, .ref sm, .ref fc])), (cu, .inr (1, [.int ln, .int bs, .int tk, .int lw, .int li, .ref fa, .ref lu])), (lu, .inl (cL, nl, .inl fl)), (se, .inr (4, [.ref o0_1009, .ref o4_1013, .ref o8_1017])), (o0_1009, .inl (o1_1010, o2_1011, .inl f_1086)), (o4_1013, .inl (o5_1014, o6_1015, .inl f_1087)), (o8_1017, .inl (o9_1018, o10_1019, .inl f_1088))]) [0, 6, 1, 2, 3, 4, 5] rfl
            have hD9 := hD.sub (ws' := [(h0, .inr (7, [.ref tp, .ref sc, .ref rd, .ref cu, .ref im, .ref ig, .ref sl, .ref se, .ref sm, .ref fc])), (cu, .inr (1, [.int ln, .int bs, .int tk, .int lw, .int li, .ref fa, .ref lu])), (lu, .inl (cL, nl, .inl fl)), (se, .inr (4, [.ref o0_1009, .ref o4_1013, .ref o8_1017])), (o0_1009, .inl (o1_1010, o2_1011, .inl f_1086)), (o4_1013, .inl (o5_1014, o6_1015, .inl f_1087)), (o8_1017, .inl (o9_1018, o10_1019, .inl f_1088))]) [0, 6, 1, 2, 3, 4, 5] (by decide) rfl
            have hK9 := hK.sub (tys' := [(cL, .int), (o1_1010, .int), (o5_1014, .int), (o9_1018, .byte)]) [0, 1, 2, 3] rfl
            refine W.know (fun hkn => ?_)
            have htt9 : tot H + (2 * pot o2_1011 + potg o10_1019) ≤ cc := by omega
            refine W.widen (k := 3) (n := 170000) (lel _ _ rfl) (by omega) ?_
            exact W.iret (v := y_1083) hx hb hr (fun t ht hW => ⟨⟨y_1083, (), rfl, trivial, o0_1009, o1_1010, o2_1011, f_1086, o4_1013, o5_1014, o6_1015, f_1087, o8_1017, o9_1018, o10_1019, f_1088, (by omega), (by omega), (by omega), (by rw [ht]; exact htt9), by rw [ht]; exact hP9, va_K.moved hW.alike hK9, hD9⟩, hS.F ht⟩) hS.2.2 dX9_islands_140
          ·
            have n_c_1973 : (a2.toInt : Int) = 1 := c_eq rfl (by decide) c_1973
            have b_a2 : (1 : Int) ≤ a2.toInt ∧ a2.toInt ≤ 1 := r_eq1 b_a2 (by decide : (1 : Int) ≤ (1 : Int32).toInt ∧ (1 : Int32).toInt ≤ 1) n_c_1973 (by decide)
            refine lv_iload hx hb dX9_islands_133 (lv_at hl 2 rfl) ?_
            refine lv_goto (tgt := 140) hx hb dX9_islands_135 (by decide) ?_
            have hP9 := hP.sub (ws' := [(h0, .inr (7, [.ref tp, .ref sc, .ref rd, .ref cu, .ref im, .ref ig, .ref sl, .ref se, .ref sm, .ref fc])), (cu, .inr (1, [.int ln, .int bs, .int tk, .int lw, .int li, .ref fa, .ref lu])), (lu, .inl (cL, nl, .inl fl)), (se, .inr (4, [.ref o0_1009, .ref o4_1013, .ref o8_1017])), (o0_1009, .inl (o1_1010, o2_1011, .inl f_1086)), (o4_1013, .inl (o5_1014, o6_1015, .inl f_1087)), (o8_1017, .inl (o9_1018, o10_1019, .inl f_1088))]) [0, 6, 1, 2, 3, 4, 5] rfl
            have hD9 := hD.sub (ws' := [(h0, .inr (7, [.ref tp, .ref sc, .ref rd, .ref cu, .ref im, .ref ig, .ref sl, .ref se, .ref sm, .ref fc])), (cu, .inr (1, [.int ln, .int bs, .int tk, .int lw, .int li, .ref fa, .ref lu])), (lu, .inl (cL, nl, .inl fl)), (se, .inr (4, [.ref o0_1009, .ref o4_1013, .ref o8_1017])), (o0_1009, .inl (o1_1010, o2_1011, .inl f_1086)), (o4_1013, .inl (o5_1014, o6_1015, .inl f_1087)), (o8_1017, .inl (o9_1018, o10_1019, .inl f_1088))]) [0, 6, 1, 2, 3, 4, 5] (by decide) rfl
            have hK9 := hK.sub (tys' := [(cL, .int), (o1_1010, .int), (o5_1014, .int), (o9_1018, .byte)]) [0, 1, 2, 3] rfl
            refine W.know (fun hkn => ?_)
            have htt9 : tot H + (2 * pot o2_1011 + potg o10_1019) ≤ cc := by omega
            refine W.widen (k := 3) (n := 170000) (lel _ _ rfl) (by omega) ?_
            exact W.iret (v := y_1084) hx hb hr (fun t ht hW => ⟨⟨y_1084, (), rfl, trivial, o0_1009, o1_1010, o2_1011, f_1086, o4_1013, o5_1014, o6_1015, f_1087, o8_1017, o9_1018, o10_1019, f_1088, (by omega), (by omega), (by omega), (by rw [ht]; exact htt9), by rw [ht]; exact hP9, va_K.moved hW.alike hK9, hD9⟩, hS.F ht⟩) hS.2.2 dX9_islands_140
        ·
          have n_c_1972 : (a2.toInt : Int) = 0 := c_eq rfl (by decide) c_1972
          have b_a2 : (0 : Int) ≤ a2.toInt ∧ a2.toInt ≤ 0 := r_eq1 b_a2 (by decide : (0 : Int) ≤ (0 : Int32).toInt ∧ (0 : Int32).toInt ≤ 0) n_c_1972 (by decide)
          refine lv_iload_n hx hb dX9_islands_126 rfl (lv_at hl 3 rfl) ?_
          have hP9 := hP.sub (ws' := [(h0, .inr (7, [.ref tp, .ref sc, .ref rd, .ref cu, .ref im, .ref ig, .ref sl, .ref se, .ref sm, .ref fc])), (cu, .inr (1, [.int ln, .int bs, .int tk, .int lw, .int li, .ref fa, .ref lu])), (lu, .inl (cL, nl, .inl fl)), (se, .inr (4, [.ref o0_1009, .ref o4_1013, .ref o8_1017])), (o0_1009, .inl (o1_1010, o2_1011, .inl f_1086)), (o4_1013, .inl (o5_1014, o6_1015, .inl f_1087)), (o8_1017, .inl (o9_1018, o10_1019, .inl f_1088))]) [0, 6, 1, 2, 3, 4, 5] rfl
          have hD9 := hD.sub (ws' := [(h0, .inr (7, [.ref tp, .ref sc, .ref rd, .ref cu, .ref im, .ref ig, .ref sl, .ref se, .ref sm, .ref fc])), (cu, .inr (1, [.int ln, .int bs, .int tk, .int lw, .int li, .ref fa, .ref lu])), (lu, .inl (cL, nl, .inl fl)), (se, .inr (4, [.ref o0_1009, .ref o4_1013, .ref o8_1017])), (o0_1009, .inl (o1_1010, o2_1011, .inl f_1086)), (o4_1013, .inl (o5_1014, o6_1015, .inl f_1087)), (o8_1017, .inl (o9_1018, o10_1019, .inl f_1088))]) [0, 6, 1, 2, 3, 4, 5] (by decide) rfl
          have hK9 := hK.sub (tys' := [(cL, .int), (o1_1010, .int), (o5_1014, .int), (o9_1018, .byte)]) [0, 1, 2, 3] rfl
          refine W.know (fun hkn => ?_)
          have htt9 : tot H + (2 * pot o2_1011 + potg o10_1019) ≤ cc := by omega
          refine W.widen (k := 3) (n := 170000) (lel _ _ rfl) (by omega) ?_
          exact W.iret (v := y_1085) hx hb hr (fun t ht hW => ⟨⟨y_1085, (), rfl, trivial, o0_1009, o1_1010, o2_1011, f_1086, o4_1013, o5_1014, o6_1015, f_1087, o8_1017, o9_1018, o10_1019, f_1088, (by omega), (by omega), (by omega), (by rw [ht]; exact htt9), by rw [ht]; exact hP9, va_K.moved hW.alike hK9, hD9⟩, hS.F ht⟩) hS.2.2 dX9_islands_127
      ·
        have n_c_1944 : (y_1082.toInt : Int) < tk.toInt := c_nge rfl rfl c_1944
        have b_y_1082 : (0 : Int) ≤ y_1082.toInt ∧ y_1082.toInt ≤ 19999 := r_lt1 b_y_1082 b_tk n_c_1944 (by decide)
        have b_tk : (1 : Int) ≤ tk.toInt ∧ tk.toInt ≤ 20000 := r_lt2 b_y_1082 b_tk n_c_1944 (by decide)
        refine lv_aload_n hx hb dX9_islands_57 rfl (lv_at hl 4 rfl) ?_
        refine va_get (D := (dC, dI)) (ci := 7) (v := .ref cu) (C := RX9) (T := TX9) (N := 10) hx hb hts iX9_islands_X9 hown hK hP 0 rfl rfl 3 (by decide) (hts (.fieldLink RX9 35 "LuckyTicket" "current" "LLuckyTicket$Roll;") (List.mem_of_getElem? (i := 1) rfl)) (fun _ h9 => h9) rfl dX9_islands_58 ?_
        refine lv_iload_n hx hb dX9_islands_61 rfl (lv_at hl 5 rfl) ?_
        refine lv_iload hx hb dX9_islands_62 (lv_at hl 0 rfl) ?_
        refine vp_callSi (W.runV (As := [.int a1, .int y_1082]) (rest := []) ⟨hx, hb, hml, hown, hts⟩ (kX2_isLucky l dC dI cu ln bs tk lw li fa lu cL nl fl a1 y_1082 b_ln b_bs (rg_w b_tk (by decide) (by decide)) b_lw (by omega)) (cwV 2 hts gX9_islands__X2_isLucky_V175 rfl rfl rfl hd_yX2_isLucky ⟨lel 1 5 rfl, lel 22 129 rfl⟩) ⟨pw_fb, rcv_X2 hK hP (q0 := 6) rfl, (pw_use hP hK hN [6, 1] rfl [0] rfl)⟩ rfl rfl hl.1 rfl (lv_room (Nat.le_of_ble_eq_true rfl)) dX9_islands_64 ⟨lel 3 3 rfl, (show gg_1024 + 0 ≤ (170000 : Nat) from by omega)⟩) (fun r_1974 h_r_1974 => ?_)
        have b_r_1974 := h_r_1974
        have b_r_1974 : (0 : Int) ≤ r_1974.toInt ∧ r_1974.toInt ≤ 1 := b_r_1974
        refine cutW (σ := Int32 × Int32 × Int32 × (Nat → Int32) × (Nat → Int32) × (Nat → Int32)) (pc2 := 116) (st2 := fun v => []) (cells2 := 3) (slots2 := gg_1024) (fun v H locs ls => ((-1 : Int) ≤ v.1.toInt ∧ v.1.toInt ≤ 19999) ∧ ((0 : Int) ≤ v.2.1.toInt ∧ v.2.1.toInt ≤ 2147483647) ∧ va_P (dC, dI) vwCl [(h0, .inr (7, [.ref tp, .ref sc, .ref rd, .ref cu, .ref im, .ref ig, .ref sl, .ref se, .ref sm, .ref fc])), (lu, .inl (cL, nl, .inl fl)), (se, .inr (4, [.ref o0_1009, .ref o4_1013, .ref o8_1017])), (o0_1009, .inl (o1_1010, o2_1011, .inl v.2.2.2.1)), (o4_1013, .inl (o5_1014, o6_1015, .inl v.2.2.2.2.1)), (o8_1017, .inl (o9_1018, o10_1019, .inl v.2.2.2.2.2)), (cu, .inr (1, [.int ln, .int bs, .int tk, .int lw, .int li, .ref fa, .ref lu]))] H ∧ va_D A [(h0, .inr (7, [.ref tp, .ref sc, .ref rd, .ref cu, .ref im, .ref ig, .ref sl, .ref se, .ref sm, .ref fc])), (lu, .inl (cL, nl, .inl fl)), (se, .inr (4, [.ref o0_1009, .ref o4_1013, .ref o8_1017])), (o0_1009, .inl (o1_1010, o2_1011, .inl v.2.2.2.1)), (o4_1013, .inl (o5_1014, o6_1015, .inl v.2.2.2.2.1)), (o8_1017, .inl (o9_1018, o10_1019, .inl v.2.2.2.2.2)), (cu, .inr (1, [.int ln, .int bs, .int tk, .int lw, .int li, .ref fa, .ref lu]))] ∧ va_S A s.heap H locs ∧ lv_has ls 8 [(6, .int y_1082), (5, .int v.1), (4, .int v.2.1), (3, .int v.2.2.1), (0, .ref h0), (1, .int a1), (2, .int a2)]) (fun v H locs ls hI => ?_) (fun hj_116_1990 => ?_)
        ·
          obtain ⟨y_1985, y_1986, y_1987, f_1988, f_1989, f_1990⟩ := v
          obtain ⟨b_y_1985, b_y_1986, hP, hD, hS, hl⟩ := hI
          have b_y_1985 : (-1 : Int) ≤ y_1985.toInt ∧ y_1985.toInt ≤ 19999 := b_y_1985
          have b_y_1986 : (0 : Int) ≤ y_1986.toInt ∧ y_1986.toInt ≤ 2147483647 := b_y_1986
          have hP : va_P (dC, dI) vwCl [(h0, .inr (7, [.ref tp, .ref sc, .ref rd, .ref cu, .ref im, .ref ig, .ref sl, .ref se, .ref sm, .ref fc])), (lu, .inl (cL, nl, .inl fl)), (se, .inr (4, [.ref o0_1009, .ref o4_1013, .ref o8_1017])), (o0_1009, .inl (o1_1010, o2_1011, .inl f_1988)), (o4_1013, .inl (o5_1014, o6_1015, .inl f_1989)), (o8_1017, .inl (o9_1018, o10_1019, .inl f_1990)), (cu, .inr (1, [.int ln, .int bs, .int tk, .int lw, .int li, .ref fa, .ref lu]))] H := hP
          have hD : va_D A [(h0, .inr (7, [.ref tp, .ref sc, .ref rd, .ref cu, .ref im, .ref ig, .ref sl, .ref se, .ref sm, .ref fc])), (lu, .inl (cL, nl, .inl fl)), (se, .inr (4, [.ref o0_1009, .ref o4_1013, .ref o8_1017])), (o0_1009, .inl (o1_1010, o2_1011, .inl f_1988)), (o4_1013, .inl (o5_1014, o6_1015, .inl f_1989)), (o8_1017, .inl (o9_1018, o10_1019, .inl f_1990)), (cu, .inr (1, [.int ln, .int bs, .int tk, .int lw, .int li, .ref fa, .ref lu]))] := hD
          have hl : lv_has ls 8 [(6, .int y_1082), (5, .int y_1985), (4, .int y_1986), (3, .int y_1987), (0, .ref h0), (1, .int a1), (2, .int a2)] := hl
          obtain ⟨z_1991, e_z_1991⟩ : ∃ y : Int32, y = y_1082 + 1 := ⟨_, rfl⟩
          refine lv_iinc (v := z_1991) (lv' := [(6, .int z_1991), (5, .int y_1985), (4, .int y_1986), (3, .int y_1987), (0, .ref h0), (1, .int a1), (2, .int a2)]) hx hb dX9_islands_116 hl (k := 0) rfl (by rw [e_z_1991]; rfl) (by decide) rfl (fun ls hl => ?_)
          obtain ⟨q_z_1991, b_z_1991⟩ := ti_add (lo := 1) (hi := 20000) e_z_1991 rfl (by decide : (1 : Int32).toInt = 1) b_y_1082 (by decide : (1 : Int) ≤ (1 : Int32).toInt ∧ (1 : Int32).toInt ≤ 1) (by decide)
          refine lv_goto (tgt := 45) hx hb dX9_islands_119 (by decide) ?_
          exact ih_45_1943 (z_1991, y_1985, y_1986, y_1987, f_1988, f_1989, f_1990) _ _ _ ⟨(show (0 : Int) ≤ z_1991.toInt ∧ z_1991.toInt ≤ 20000 from (rg_w b_z_1991 (by decide) (by decide))), (show (-1 : Int) ≤ y_1985.toInt ∧ y_1985.toInt ≤ 19999 from b_y_1985), (show (0 : Int) ≤ y_1986.toInt ∧ y_1986.toInt ≤ 2147483647 from b_y_1986), hP, hD, hS, lv_sub hl [0, 1, 2, 3, 4, 5, 6] rfl⟩ (show (20000 - z_1991.toInt).toNat < (20000 - y_1082.toInt).toNat by omega)
        ·
          refine lv_if_eq (tgt := 116) hx hb dX9_islands_67 (by decide) (fun c_1975 => ?_) (fun c_1975 => ?_)
          ·
            have n_c_1975 : (r_1974.toInt : Int) = 0 := c_eq rfl (by decide) c_1975
            have b_r_1974 : (0 : Int) ≤ r_1974.toInt ∧ r_1974.toInt ≤ 0 := r_eq1 b_r_1974 (by decide : (0 : Int) ≤ (0 : Int32).toInt ∧ (0 : Int32).toInt ≤ 0) n_c_1975 (by decide)
            exact hj_116_1990 (y_1083, y_1084, y_1085, f_1086, f_1087, f_1088) _ _ _ ⟨(show (-1 : Int) ≤ y_1083.toInt ∧ y_1083.toInt ≤ 19999 from b_y_1083), (show (0 : Int) ≤ y_1084.toInt ∧ y_1084.toInt ≤ 2147483647 from b_y_1084), hP, hD, hS, lv_sub hl [0, 1, 2, 3, 4, 5, 6] rfl⟩
          ·
            have n_c_1975 : (r_1974.toInt : Int) ≠ 0 := c_ne rfl (by decide) c_1975
            have b_r_1974 : (1 : Int) ≤ r_1974.toInt ∧ r_1974.toInt ≤ 1 := r_ne1 b_r_1974 (by decide : (0 : Int) ≤ (0 : Int32).toInt ∧ (0 : Int32).toInt ≤ 0) n_c_1975 (by decide)
            refine lv_aload_n hx hb dX9_islands_70 rfl (lv_at hl 4 rfl) ?_
            refine va_get (D := (dC, dI)) (ci := 7) (v := .ref se) (C := RX9) (T := TX9) (N := 10) hx hb hts iX9_islands_X9 hown hK hP 0 rfl rfl 7 (by decide) (hts (.fieldLink RX9 57 "LuckyTicket" "search" "LLuckyTicket$Search;") (List.mem_of_getElem? (i := 9) rfl)) (fun _ h9 => h9) rfl dX9_islands_71 ?_
            refine lv_iload hx hb dX9_islands_74 (lv_at hl 0 rfl) ?_
            refine vp_callSi (W.runV (As := [.int y_1082]) (rest := []) ⟨hx, hb, hml, hown, hts⟩ (kX5_isReached l dC dI se o0_1009 o4_1013 o8_1017 o1_1010 o2_1011 f_1086 o5_1014 o6_1015 f_1087 o9_1018 o10_1019 f_1088 y_1082 (by omega) (by omega) (by omega)) (cwV 1 hts gX9_islands__X5_isReached_V301 rfl rfl rfl hd_yX5_isReached ⟨lel 2 5 rfl, lel 42 129 rfl⟩) ⟨pw_fb, rcv_X5 hK hP (q0 := 2) rfl, (pw_use hP hK hN [2, 3, 4, 5] rfl [1, 2, 3] rfl)⟩ rfl rfl hl.1 rfl (lv_room (Nat.le_of_ble_eq_true rfl)) dX9_islands_76 ⟨lel 3 3 rfl, (show gg_1024 + 0 ≤ (170000 : Nat) from by omega)⟩) (fun r_1992 h_r_1992 => ?_)
            have b_r_1992 := h_r_1992
            have b_r_1992 : (0 : Int) ≤ r_1992.toInt ∧ r_1992.toInt ≤ 1 := b_r_1992
            refine lv_if_ne (tgt := 116) hx hb dX9_islands_79 (by decide) (fun c_1993 => ?_) (fun c_1993 => ?_)
            ·
              have n_c_1993 : (r_1992.toInt : Int) ≠ 0 := c_ne rfl (by decide) c_1993
              have b_r_1992 : (1 : Int) ≤ r_1992.toInt ∧ r_1992.toInt ≤ 1 := r_ne1 b_r_1992 (by decide : (0 : Int) ≤ (0 : Int32).toInt ∧ (0 : Int32).toInt ≤ 0) n_c_1993 (by decide)
              exact hj_116_1990 (y_1083, y_1084, y_1085, f_1086, f_1087, f_1088) _ _ _ ⟨(show (-1 : Int) ≤ y_1083.toInt ∧ y_1083.toInt ≤ 19999 from b_y_1083), (show (0 : Int) ≤ y_1084.toInt ∧ y_1084.toInt ≤ 2147483647 from b_y_1084), hP, hD, hS, lv_sub hl [0, 1, 2, 3, 4, 5, 6] rfl⟩
            ·
              have n_c_1993 : (r_1992.toInt : Int) = 0 := c_eq rfl (by decide) c_1993
              have b_r_1992 : (0 : Int) ≤ r_1992.toInt ∧ r_1992.toInt ≤ 0 := r_eq1 b_r_1992 (by decide : (0 : Int) ≤ (0 : Int32).toInt ∧ (0 : Int32).toInt ≤ 0) n_c_1993 (by decide)
              refine lv_aload_n hx hb dX9_islands_82 rfl (lv_at hl 4 rfl) ?_
              refine va_get (D := (dC, dI)) (ci := 7) (v := .ref se) (C := RX9) (T := TX9) (N := 10) hx hb hts iX9_islands_X9 hown hK hP 0 rfl rfl 7 (by decide) (hts (.fieldLink RX9 57 "LuckyTicket" "search" "LLuckyTicket$Search;") (List.mem_of_getElem? (i := 9) rfl)) (fun _ h9 => h9) rfl dX9_islands_83 ?_
              refine lv_aload_n hx hb dX9_islands_86 rfl (lv_at hl 4 rfl) ?_
              refine va_get (D := (dC, dI)) (ci := 7) (v := .ref cu) (C := RX9) (T := TX9) (N := 10) hx hb hts iX9_islands_X9 hown hK hP 0 rfl rfl 3 (by decide) (hts (.fieldLink RX9 35 "LuckyTicket" "current" "LLuckyTicket$Roll;") (List.mem_of_getElem? (i := 1) rfl)) (fun _ h9 => h9) rfl dX9_islands_87 ?_
              refine lv_iload_n hx hb dX9_islands_90 rfl (lv_at hl 5 rfl) ?_
              refine lv_iload hx hb dX9_islands_91 (lv_at hl 0 rfl) ?_
              have hFc := va_free (wc := [(se, .inr (4, [.ref o0_1009, .ref o4_1013, .ref o8_1017])), (o0_1009, .inl (o1_1010, o2_1011, .inl f_1086)), (o4_1013, .inl (o5_1014, o6_1015, .inl f_1087)), (o8_1017, .inl (o9_1018, o10_1019, .inl f_1088)), (cu, .inr (1, [.int ln, .int bs, .int tk, .int lw, .int li, .ref fa, .ref lu])), (lu, .inl (cL, nl, .inl fl))]) hD hS hA [2, 3, 4, 5, 6, 1] rfl
              refine va_calli (va_runV (As := [.ref cu, .int a1, .int y_1082]) (rest := []) ⟨hx, hb, hml, hown, hts⟩ (kX5_spread l dC dI se o0_1009 o4_1013 o8_1017 o1_1010 o2_1011 f_1086 o5_1014 o6_1015 f_1087 o9_1018 o10_1019 f_1088 cu ln bs tk lw li fa lu cL nl fl a1 y_1082 (H.size) b_ln b_bs (rg_w b_tk (by decide) (by decide)) b_lw (by omega) (by omega) (by omega) (by omega)) (cwV 3 hts gX9_islands__X5_spread_V294 rfl rfl rfl hd_yX5_spread ⟨lel 5 5 rfl, lel 129 129 rfl⟩) ⟨hw_fb, rcv_X5 hK hP (q0 := 2) rfl, (hw_use hP hD hK hN [2, 3, 4, 5, 6, 1] rfl (by decide) rfl [1, 2, 3, 0] rfl)⟩ rfl rfl hl.1 rfl (lv_room (Nat.le_of_ble_eq_true rfl)) dX9_islands_93 ⟨lel 3 3 rfl, (show gg_1024 + 0 ≤ (170000 : Nat) from by omega)⟩) hS (fun q _ h => hFc q h) hFc (fun r_1994 u_1995 t H1 locs ht hvm hw_r_1994 hB hz1 hk1 hS => ?_)
              obtain ⟨o0_1996, o1_1997, o2_1998, hP1, hK1, hD1⟩ := hB
              rw [ht] at hP1
              have hK1 := va_K.moved hvm.symm hK1
              obtain ⟨hP, hD⟩ := va_join (wr := [(h0, .inr (7, [.ref tp, .ref sc, .ref rd, .ref cu, .ref im, .ref ig, .ref sl, .ref se, .ref sm, .ref fc]))]) (w1 := [(se, .inr (4, [.ref o0_1009, .ref o4_1013, .ref o8_1017])), (o0_1009, .inl (o1_1010, o2_1011, .inl o0_1996)), (o4_1013, .inl (o5_1014, o6_1015, .inl o1_1997)), (o8_1017, .inl (o9_1018, o10_1019, .inl o2_1998)), (cu, .inr (1, [.int ln, .int bs, .int tk, .int lw, .int li, .ref fa, .ref lu])), (lu, .inl (cL, nl, .inl fl))]) hP hD [2, 3, 4, 5, 6, 1] [0] rfl rfl (by decide) (by decide) hk1 hFc hP1 hD1
              have hK := (hK.sub (tys' := []) [] rfl).app hK1
              generalize H1 = H at hP hS ⊢
              have hP := hP.sub (ws' := [(h0, .inr (7, [.ref tp, .ref sc, .ref rd, .ref cu, .ref im, .ref ig, .ref sl, .ref se, .ref sm, .ref fc])), (lu, .inl (cL, nl, .inl fl)), (se, .inr (4, [.ref o0_1009, .ref o4_1013, .ref o8_1017])), (o0_1009, .inl (o1_1010, o2_1011, .inl o0_1996)), (o4_1013, .inl (o5_1014, o6_1015, .inl o1_1997)), (o8_1017, .inl (o9_1018, o10_1019, .inl o2_1998)), (cu, .inr (1, [.int ln, .int bs, .int tk, .int lw, .int li, .ref fa, .ref lu]))]) [0, 6, 1, 2, 3, 4, 5] rfl
              have hD := hD.sub (ws' := [(h0, .inr (7, [.ref tp, .ref sc, .ref rd, .ref cu, .ref im, .ref ig, .ref sl, .ref se, .ref sm, .ref fc])), (lu, .inl (cL, nl, .inl fl)), (se, .inr (4, [.ref o0_1009, .ref o4_1013, .ref o8_1017])), (o0_1009, .inl (o1_1010, o2_1011, .inl o0_1996)), (o4_1013, .inl (o5_1014, o6_1015, .inl o1_1997)), (o8_1017, .inl (o9_1018, o10_1019, .inl o2_1998)), (cu, .inr (1, [.int ln, .int bs, .int tk, .int lw, .int li, .ref fa, .ref lu]))]) [0, 6, 1, 2, 3, 4, 5] (by decide) rfl
              have hK := hK.sub (tys' := [(cL, .int), (o1_1010, .int), (o5_1014, .int), (o9_1018, .byte)]) [3, 0, 1, 2] rfl
              have hP : va_P (dC, dI) vwCl [(h0, .inr (7, [.ref tp, .ref sc, .ref rd, .ref cu, .ref im, .ref ig, .ref sl, .ref se, .ref sm, .ref fc])), (lu, .inl (cL, nl, .inl fl)), (se, .inr (4, [.ref o0_1009, .ref o4_1013, .ref o8_1017])), (o0_1009, .inl (o1_1010, o2_1011, .inl o0_1996)), (o4_1013, .inl (o5_1014, o6_1015, .inl o1_1997)), (o8_1017, .inl (o9_1018, o10_1019, .inl o2_1998)), (cu, .inr (1, [.int ln, .int bs, .int tk, .int lw, .int li, .ref fa, .ref lu]))] H := hP
              have hD : va_D A [(h0, .inr (7, [.ref tp, .ref sc, .ref rd, .ref cu, .ref im, .ref ig, .ref sl, .ref se, .ref sm, .ref fc])), (lu, .inl (cL, nl, .inl fl)), (se, .inr (4, [.ref o0_1009, .ref o4_1013, .ref o8_1017])), (o0_1009, .inl (o1_1010, o2_1011, .inl o0_1996)), (o4_1013, .inl (o5_1014, o6_1015, .inl o1_1997)), (o8_1017, .inl (o9_1018, o10_1019, .inl o2_1998)), (cu, .inr (1, [.int ln, .int bs, .int tk, .int lw, .int li, .ref fa, .ref lu]))] := hD
              have hK : va_K (dC, dI) vwCl [(cL, .int), (o1_1010, .int), (o5_1014, .int), (o9_1018, .byte)] s := hK
              refine lv_istore (lv' := [(7, .int r_1994), (6, .int y_1082), (5, .int y_1083), (4, .int y_1084), (3, .int y_1085), (0, .ref h0), (1, .int a1), (2, .int a2)]) hx hb dX9_islands_96 hl (by decide) rfl (fun ls hl => ?_)
              obtain ⟨z_1999, e_z_1999⟩ : ∃ y : Int32, y = y_1085 + 1 := ⟨_, rfl⟩
              refine lv_iinc (v := z_1999) (lv' := [(3, .int z_1999), (7, .int r_1994), (6, .int y_1082), (5, .int y_1083), (4, .int y_1084), (0, .ref h0), (1, .int a1), (2, .int a2)]) hx hb dX9_islands_98 hl (k := 4) rfl (by rw [e_z_1999]; rfl) (by decide) rfl (fun ls hl => ?_)
              refine lv_iload hx hb dX9_islands_101 (lv_at hl 1 rfl) ?_
              refine lv_iload hx hb dX9_islands_103 (lv_at hl 4 rfl) ?_
              refine lv_icmp_le (tgt := 116) hx hb dX9_islands_105 (by decide) (fun c_2000 => ?_) (fun c_2000 => ?_)
              ·
                have n_c_2000 : (r_1994.toInt : Int) ≤ y_1084.toInt := c_le rfl rfl c_2000
                exact hj_116_1990 (y_1083, y_1084, z_1999, o0_1996, o1_1997, o2_1998) _ _ _ ⟨(show (-1 : Int) ≤ y_1083.toInt ∧ y_1083.toInt ≤ 19999 from b_y_1083), (show (0 : Int) ≤ y_1084.toInt ∧ y_1084.toInt ≤ 2147483647 from b_y_1084), hP, hD, hS, lv_sub hl [2, 3, 4, 0, 5, 6, 7] rfl⟩
              ·
                have n_c_2000 : (y_1084.toInt : Int) < r_1994.toInt := c_nle rfl rfl c_2000
                have b_y_1084 : (0 : Int) ≤ y_1084.toInt ∧ y_1084.toInt ≤ 2147483646 := r_lt1 b_y_1084 (ti_rng r_1994) n_c_2000 (by decide)
                have b_r_1994 : (1 : Int) ≤ r_1994.toInt ∧ r_1994.toInt ≤ 2147483647 := r_lt2 b_y_1084 (ti_rng r_1994) n_c_2000 (by decide)
                refine lv_iload hx hb dX9_islands_108 (lv_at hl 1 rfl) ?_
                refine lv_istore (lv' := [(4, .int r_1994), (3, .int z_1999), (7, .int r_1994), (6, .int y_1082), (5, .int y_1083), (0, .ref h0), (1, .int a1), (2, .int a2)]) hx hb dX9_islands_110 hl (by decide) rfl (fun ls hl => ?_)
                refine lv_iload hx hb dX9_islands_112 (lv_at hl 3 rfl) ?_
                refine lv_istore (lv' := [(5, .int y_1082), (4, .int r_1994), (3, .int z_1999), (7, .int r_1994), (6, .int y_1082), (0, .ref h0), (1, .int a1), (2, .int a2)]) hx hb dX9_islands_114 hl (by decide) rfl (fun ls hl => ?_)
                exact hj_116_1990 (y_1082, r_1994, z_1999, o0_1996, o1_1997, o2_1998) _ _ _ ⟨(show (-1 : Int) ≤ y_1082.toInt ∧ y_1082.toInt ≤ 19999 from (rg_w b_y_1082 (by decide) (by decide))), (show (0 : Int) ≤ r_1994.toInt ∧ r_1994.toInt ≤ 2147483647 from (rg_w b_r_1994 (by decide) (by decide))), hP, hD, hS, lv_sub hl [4, 0, 1, 2, 5, 6, 7] rfl⟩
    ·
      have n_c_1005 : (r_1004.toInt : Int) = 0 := c_eq rfl (by decide) c_1005
      have b_r_1004 : (0 : Int) ≤ r_1004.toInt ∧ r_1004.toInt ≤ 0 := r_eq1 b_r_1004 (by decide : (0 : Int) ≤ (0 : Int32).toInt ∧ (0 : Int32).toInt ≤ 0) n_c_1005 (by decide)
      refine lv_bipush (v := (-2)) hx hb dX9_islands_20 (by decide) ?_
      have hP9 := hP.sub (ws' := [(h0, .inr (7, [.ref tp, .ref sc, .ref rd, .ref cu, .ref im, .ref ig, .ref sl, .ref se, .ref sm, .ref fc])), (cu, .inr (1, [.int ln, .int bs, .int tk, .int lw, .int li, .ref fa, .ref lu])), (lu, .inl (cL, nl, .inl fl)), (se, .inr (4, [.ref qa, .ref qf, .ref qg])), (qa, .inl (cQ, nq, .inl fq)), (qf, .inl (cR, nr, .inl fr)), (qg, .inl (cH, ng, .inl fh))]) [0, 1, 2, 3, 4, 5, 6] rfl
      have hD9 := hD.sub (ws' := [(h0, .inr (7, [.ref tp, .ref sc, .ref rd, .ref cu, .ref im, .ref ig, .ref sl, .ref se, .ref sm, .ref fc])), (cu, .inr (1, [.int ln, .int bs, .int tk, .int lw, .int li, .ref fa, .ref lu])), (lu, .inl (cL, nl, .inl fl)), (se, .inr (4, [.ref qa, .ref qf, .ref qg])), (qa, .inl (cQ, nq, .inl fq)), (qf, .inl (cR, nr, .inl fr)), (qg, .inl (cH, ng, .inl fh))]) [0, 1, 2, 3, 4, 5, 6] (by decide) rfl
      have hK9 := hK.sub (tys' := [(cL, .int), (cQ, .int), (cR, .int), (cH, .byte)]) [0, 1, 2, 3] rfl
      refine W.know (fun hkn => ?_)
      have htt9 : tot s.heap + (2 * pot nq + potg ng) ≤ cc := by omega
      refine W.widen (k := 3) (n := 170000) (lel _ _ rfl) (by omega) ?_
      exact W.iret (v := (-2)) hx hb hr (fun t ht hW => ⟨⟨(-2), (), rfl, trivial, qa, cQ, nq, fq, qf, cR, nr, fr, qg, cH, ng, fh, (by have zl : ((-2) : Int32).toInt = -2 := (by decide); omega), (by have zl : ((-2) : Int32).toInt = -2 := (by decide); omega), (by have zl : ((-2) : Int32).toInt = -2 := (by decide); omega), (by rw [ht]; exact htt9), by rw [ht]; exact hP9, va_K.moved hW.alike hK9, hD9⟩, hS.F ht⟩) hS.2.2 dX9_islands_22
