theorem dX9_hasSlot_0 : decode cX9_hasSlot 0 = .ok (.iload_n 1, 1) := by decide +kernel
theorem dX9_hasSlot_1 : decode cX9_hasSlot 1 = .ok (.iconst 0, 1) := by decide +kernel
theorem dX9_hasSlot_2 : decode cX9_hasSlot 2 = .ok (.aload_n 0, 1) := by decide +kernel
theorem dX9_hasSlot_3 : decode cX9_hasSlot 3 = .ok (.getfield 50, 3) := by decide +kernel
theorem dX9_hasSlot_6 : decode cX9_hasSlot 6 = .ok (.arraylength, 1) := by decide +kernel
theorem dX9_hasSlot_7 : decode cX9_hasSlot 7 = .ok (.iconst 1, 1) := by decide +kernel
theorem dX9_hasSlot_8 : decode cX9_hasSlot 8 = .ok (.isub, 1) := by decide +kernel
theorem dX9_hasSlot_9 : decode cX9_hasSlot 9 = .ok (.invokestatic 158, 3) := by decide +kernel
theorem dX9_hasSlot_12 : decode cX9_hasSlot 12 = .ok (.ireturn, 1) := by decide +kernel
theorem hd_yX9_hasSlot : yX9_hasSlot.cls = RX9 ∧ yX9_hasSlot.cls ≠ "java/lang/invoke/MethodHandle" ∧ yX9_hasSlot.cls ≠ "java/lang/invoke/VarHandle" ∧ (parseMethodDescriptor yX9_hasSlot.desc).map (fun d => d.parameters.length) = some 1 := by decide +kernel
def uX9_hasSlot : List Cond := List.cons (.code yX9_hasSlot cX9_hasSlot 2 (some .boolean)) (HAppend.hAppend ([.fieldLink RX9 50 "LuckyTicket" "slots" "[LLuckyTicket$Row;", .methodLink RX9 158 yX9_isWithin, .static yX9_isWithin, .initialized RX9] : List Cond) (HAppend.hAppend uX9_isWithin wsX90))
theorem iX9_hasSlot_X9 : ∀ w ∈ wsX90, w ∈ uX9_hasSlot := fun _ h => (List.mem_cons_of_mem _ (List.mem_append_right _ (List.mem_append_right _ h)))
theorem guX9_hasSlot : GU uX9_hasSlot := gu_cons (gu_app (by decide +kernel) (gu_ap guX9_isWithin gws_X9))
theorem gX9_hasSlot__X9_isWithin_S158 : GoodIn uX9_hasSlot (va_wsS RX9 158 yX9_isWithin uX9_isWithin) := gin_S (List.mem_of_getElem? (i := 2) rfl) (List.mem_of_getElem? (i := 3) rfl) (List.mem_of_getElem? (i := 4) rfl) (fun _ h => (List.mem_cons_of_mem _ (List.mem_append_right _ (List.mem_append_left _ h)))) guX9_isWithin
set_option maxHeartbeats 4000000 in
set_option maxRecDepth 100000 in
theorem kX9_hasSlot (l : Launch) (dC : Nat → ClassId) (dI : Nat → Nat → Nat) (h0 : Nat) (tp : Nat) (sc : Nat) (rd : Nat) (cu : Nat) (im : Nat) (ig : Nat) (sl : Nat) (se : Nat) (sm : Nat) (fc : Nat) (cS : ClassId) (s0 : Nat) (s1 : Nat) (s2 : Nat) (s3 : Nat) (a1 : Int32) : Met l yX9_hasSlot uX9_hasSlot ({ frames := 1, cells := 0, slots := 0, locals := 22 }) (va_Pc [.ref h0, .int a1] (pw (dC, dI) vwCl [(h0, .inr (7, [.ref tp, .ref sc, .ref rd, .ref cu, .ref im, .ref ig, .ref sl, .ref se, .ref sm, .ref fc])), (sl, .inl (cS, 4, .inr (.inr (.inr (.inr (sf4 s0 s1 s2 s3))))))] [(cS, .object RX3)])) (vp_Si (fun r => ((0 : Int) ≤ r.toInt ∧ r.toInt ≤ 1) ∧ (r ≠ 0 → ((0 : Int) ≤ a1.toInt ∧ a1.toInt ≤ 3) ∧ (True)))) 0 0 (fun _ => False) := by
  refine Met.ofW (cc := cX9_hasSlot) (maxL := 2) (ret := (some .boolean)) pn_X9 rfl ?_
  intro p e s m args below meth c s₁ B hml hv
  obtain ⟨rfl, hP, hK, hN⟩ := hv
  have hx := B.exec
  have hb := B.bytes
  have hr := B.returns
  have hts := atoms_spec (ws := uX9_hasSlot) B.pre
  have hown : s.vm.findClass RX9 = some m.cls := hown_of B.named rfl
  have hlocks := B.notSynchronized
  have hl := lv_entry ([.ref h0, .int a1]) (n := 2) (Nat.le_of_ble_eq_true rfl)
  rw [lg_entry_eq]
  generalize (lg_sl ([.ref h0, .int a1]) ++ List.replicate (2 - (lg_sl ([.ref h0, .int a1])).length) Slot.unset).toArray = ls at hl ⊢
  have hl : lv_has ls 2 [(0, .ref h0), (1, .int a1)] := hl
  refine lv_iload_n hx hb dX9_hasSlot_0 rfl (lv_at hl 1 rfl) ?_
  refine lv_iconst (v := 0) hx hb dX9_hasSlot_1 (by decide) ?_
  refine lv_aload_n hx hb dX9_hasSlot_2 rfl (lv_at hl 0 rfl) ?_
  refine va_get (D := (dC, dI)) (ci := 7) (v := .ref sl) (C := RX9) (T := TX9) (N := 10) hx hb hts iX9_hasSlot_X9 hown hK hP 0 rfl rfl 6 (by decide) (hts (.fieldLink RX9 50 "LuckyTicket" "slots" "[LLuckyTicket$Row;") (List.mem_of_getElem? (i := 1) rfl)) (fun _ h9 => h9) rfl dX9_hasSlot_3 ?_
  refine va_alen (v := 4) hx hb hK hP 1 0 rfl rfl (by rfl) dX9_hasSlot_6 ?_
  refine lv_iconst (v := 1) hx hb dX9_hasSlot_7 (by decide) ?_
  refine lv_isub hx hb dX9_hasSlot_8 ?_
  refine lv_topi (fun z_3 e_z_3 => ?_)
  obtain rfl : z_3 = 3 := e_z_3.trans (by decide)
  refine vp_callSi (W.runS (As := [.int a1, .int 0, .int 3]) (rest := []) ⟨hx, hb, hml, hown, hts⟩ (kX9_isWithin l dC dI a1 0 3 ) (va_cwS 3 hts gX9_hasSlot__X9_isWithin_S158 rfl rfl rfl hd_yX9_isWithin.2 ⟨lel 1 1 rfl, lel 22 22 rfl⟩) ⟨pn_fb, pn_use⟩ rfl rfl hl.1 rfl (lv_room (Nat.le_of_ble_eq_true rfl)) dX9_hasSlot_9 ⟨lel 0 0 rfl, lel 0 0 rfl⟩) (fun r_4 h_r_4 => ?_)
  obtain ⟨b_r_4, nz_r_4⟩ := h_r_4
  have b_r_4 : (0 : Int) ≤ r_4.toInt ∧ r_4.toInt ≤ 1 := b_r_4
  exact W.zret (v := r_4) hx hb hr (zn_b b_r_4) (fun t ht hW => ⟨r_4, rfl, ⟨b_r_4, (fun h9 => by have h8 := nz_r_4 h9; have h7 := (by decide : (0 : Int32).toInt = 0); have h7 := (by decide : (3 : Int32).toInt = 3); exact ⟨⟨by omega, by omega⟩, trivial⟩)⟩, ht⟩) t_nil dX9_hasSlot_12
theorem dX9_judge_0 : decode cX9_judge 0 = .ok (.aload_n 0, 1) := by decide +kernel
theorem dX9_judge_1 : decode cX9_judge 1 = .ok (.iload_n 1, 1) := by decide +kernel
theorem dX9_judge_2 : decode cX9_judge 2 = .ok (.invokevirtual 206, 3) := by decide +kernel
theorem dX9_judge_5 : decode cX9_judge 5 = .ok (.ifCond .eq 14, 3) := by decide +kernel
theorem dX9_judge_8 : decode cX9_judge 8 = .ok (.aload_n 0, 1) := by decide +kernel
theorem dX9_judge_9 : decode cX9_judge 9 = .ok (.getfield 35, 3) := by decide +kernel
theorem dX9_judge_12 : decode cX9_judge 12 = .ok (.iload_n 2, 1) := by decide +kernel
theorem dX9_judge_13 : decode cX9_judge 13 = .ok (.invokevirtual 149, 3) := by decide +kernel
theorem dX9_judge_16 : decode cX9_judge 16 = .ok (.ifCond .ne 6, 3) := by decide +kernel
theorem dX9_judge_19 : decode cX9_judge 19 = .ok (.bipush (-2), 2) := by decide +kernel
theorem dX9_judge_21 : decode cX9_judge 21 = .ok (.ireturn, 1) := by decide +kernel
theorem dX9_judge_22 : decode cX9_judge 22 = .ok (.aload_n 0, 1) := by decide +kernel
theorem dX9_judge_23 : decode cX9_judge 23 = .ok (.getfield 50, 3) := by decide +kernel
theorem dX9_judge_26 : decode cX9_judge 26 = .ok (.iload_n 1, 1) := by decide +kernel
theorem dX9_judge_27 : decode cX9_judge 27 = .ok (.aaload, 1) := by decide +kernel
theorem dX9_judge_28 : decode cX9_judge 28 = .ok (.astore_n 3, 1) := by decide +kernel
theorem dX9_judge_29 : decode cX9_judge 29 = .ok (.aload_n 3, 1) := by decide +kernel
theorem dX9_judge_30 : decode cX9_judge 30 = .ok (.invokevirtual 270, 3) := by decide +kernel
theorem dX9_judge_33 : decode cX9_judge 33 = .ok (.ifCond .ne 6, 3) := by decide +kernel
theorem dX9_judge_36 : decode cX9_judge 36 = .ok (.bipush (-6), 2) := by decide +kernel
theorem dX9_judge_38 : decode cX9_judge 38 = .ok (.ireturn, 1) := by decide +kernel
theorem dX9_judge_39 : decode cX9_judge 39 = .ok (.iconst 0, 1) := by decide +kernel
theorem dX9_judge_40 : decode cX9_judge 40 = .ok (.istore 4, 2) := by decide +kernel
theorem dX9_judge_42 : decode cX9_judge 42 = .ok (.iload 4, 2) := by decide +kernel
theorem dX9_judge_44 : decode cX9_judge 44 = .ok (.aload_n 3, 1) := by decide +kernel
theorem dX9_judge_45 : decode cX9_judge 45 = .ok (.getfield 271, 3) := by decide +kernel
theorem dX9_judge_48 : decode cX9_judge 48 = .ok (.if_icmp .ge 29, 3) := by decide +kernel
theorem dX9_judge_51 : decode cX9_judge 51 = .ok (.aload_n 0, 1) := by decide +kernel
theorem dX9_judge_52 : decode cX9_judge 52 = .ok (.getfield 35, 3) := by decide +kernel
theorem dX9_judge_55 : decode cX9_judge 55 = .ok (.iload_n 2, 1) := by decide +kernel
theorem dX9_judge_56 : decode cX9_judge 56 = .ok (.aload_n 3, 1) := by decide +kernel
theorem dX9_judge_57 : decode cX9_judge 57 = .ok (.iload 4, 2) := by decide +kernel
theorem dX9_judge_59 : decode cX9_judge 59 = .ok (.invokevirtual 240, 3) := by decide +kernel
theorem dX9_judge_62 : decode cX9_judge 62 = .ok (.invokevirtual 272, 3) := by decide +kernel
theorem dX9_judge_65 : decode cX9_judge 65 = .ok (.ifCond .ne 6, 3) := by decide +kernel
theorem dX9_judge_68 : decode cX9_judge 68 = .ok (.iload 4, 2) := by decide +kernel
theorem dX9_judge_70 : decode cX9_judge 70 = .ok (.ireturn, 1) := by decide +kernel
theorem dX9_judge_71 : decode cX9_judge 71 = .ok (.iinc 4 1, 3) := by decide +kernel
theorem dX9_judge_74 : decode cX9_judge 74 = .ok (.goto (-32), 3) := by decide +kernel
theorem dX9_judge_77 : decode cX9_judge 77 = .ok (.aload_n 3, 1) := by decide +kernel
theorem dX9_judge_78 : decode cX9_judge 78 = .ok (.getfield 271, 3) := by decide +kernel
theorem dX9_judge_81 : decode cX9_judge 81 = .ok (.ireturn, 1) := by decide +kernel
theorem hd_yX9_judge : yX9_judge.cls = RX9 ∧ yX9_judge.cls ≠ "java/lang/invoke/MethodHandle" ∧ yX9_judge.cls ≠ "java/lang/invoke/VarHandle" ∧ (parseMethodDescriptor yX9_judge.desc).map (fun d => d.parameters.length) = some 2 := by decide +kernel
def uX9_judge : List Cond := List.cons (.code yX9_judge cX9_judge 5 (some .int)) (HAppend.hAppend ([.methodLink RX9 206 yX9_hasSlot, .instanceMethod yX9_hasSlot, .selects RX9 yX9_hasSlot yX9_hasSlot, .initialized RX9, .fieldLink RX9 35 "LuckyTicket" "current" "LLuckyTicket$Roll;", .methodLink RX9 149 yX2_hasLaw, .instanceMethod yX2_hasLaw, .selects RX2 yX2_hasLaw yX2_hasLaw, .initialized RX2, .fieldLink RX9 50 "LuckyTicket" "slots" "[LLuckyTicket$Row;", .methodLink RX9 270 yX3_stands, .instanceMethod yX3_stands, .selects RX3 yX3_stands yX3_stands, .initialized RX3, .methodLink RX9 240 yX3_numberAt, .instanceMethod yX3_numberAt, .selects RX3 yX3_numberAt yX3_numberAt, .methodLink RX9 272 yX2_isLuckyNumber, .instanceMethod yX2_isLuckyNumber, .selects RX2 yX2_isLuckyNumber yX2_isLuckyNumber] : List Cond) (HAppend.hAppend uX9_hasSlot (HAppend.hAppend uX2_hasLaw (HAppend.hAppend uX3_stands (HAppend.hAppend uX3_numberAt (HAppend.hAppend uX2_isLuckyNumber (HAppend.hAppend wsX90 wsX30)))))))
theorem iX9_judge_X9 : ∀ w ∈ wsX90, w ∈ uX9_judge := fun _ h => (List.mem_cons_of_mem _ (List.mem_append_right _ (List.mem_append_right _ (List.mem_append_right _ (List.mem_append_right _ (List.mem_append_right _ (List.mem_append_right _ (List.mem_append_left _ h))))))))
theorem iX9_judge_X3 : ∀ w ∈ wsX30, w ∈ uX9_judge := fun _ h => (List.mem_cons_of_mem _ (List.mem_append_right _ (List.mem_append_right _ (List.mem_append_right _ (List.mem_append_right _ (List.mem_append_right _ (List.mem_append_right _ (List.mem_append_right _ h))))))))
theorem guX9_judge : GU uX9_judge := gu_cons (gu_app (by decide +kernel) (gu_ap guX9_hasSlot (gu_ap guX2_hasLaw (gu_ap guX3_stands (gu_ap guX3_numberAt (gu_ap guX2_isLuckyNumber (gu_ap gws_X9 gws_X3)))))))
theorem gX9_judge__X9_hasSlot_V206 : GoodIn uX9_judge (wsV RX9 206 RX9 yX9_hasSlot uX9_hasSlot) := gin_V (List.mem_of_getElem? (i := 1) rfl) (List.mem_of_getElem? (i := 2) rfl) (List.mem_of_getElem? (i := 3) rfl) (List.mem_of_getElem? (i := 4) rfl) (fun _ h => (List.mem_cons_of_mem _ (List.mem_append_right _ (List.mem_append_left _ h)))) guX9_hasSlot
theorem gX9_judge__X2_hasLaw_V149 : GoodIn uX9_judge (wsV RX9 149 RX2 yX2_hasLaw uX2_hasLaw) := gin_V (List.mem_of_getElem? (i := 6) rfl) (List.mem_of_getElem? (i := 7) rfl) (List.mem_of_getElem? (i := 8) rfl) (List.mem_of_getElem? (i := 9) rfl) (fun _ h => (List.mem_cons_of_mem _ (List.mem_append_right _ (List.mem_append_right _ (List.mem_append_left _ h))))) guX2_hasLaw
theorem gX9_judge__X3_stands_V270 : GoodIn uX9_judge (wsV RX9 270 RX3 yX3_stands uX3_stands) := gin_V (List.mem_of_getElem? (i := 11) rfl) (List.mem_of_getElem? (i := 12) rfl) (List.mem_of_getElem? (i := 13) rfl) (List.mem_of_getElem? (i := 14) rfl) (fun _ h => (List.mem_cons_of_mem _ (List.mem_append_right _ (List.mem_append_right _ (List.mem_append_right _ (List.mem_append_left _ h)))))) guX3_stands
theorem gX9_judge__X3_numberAt_V240 : GoodIn uX9_judge (wsV RX9 240 RX3 yX3_numberAt uX3_numberAt) := gin_V (List.mem_of_getElem? (i := 15) rfl) (List.mem_of_getElem? (i := 16) rfl) (List.mem_of_getElem? (i := 17) rfl) (List.mem_of_getElem? (i := 14) rfl) (fun _ h => (List.mem_cons_of_mem _ (List.mem_append_right _ (List.mem_append_right _ (List.mem_append_right _ (List.mem_append_right _ (List.mem_append_left _ h))))))) guX3_numberAt
theorem gX9_judge__X2_isLuckyNumber_V272 : GoodIn uX9_judge (wsV RX9 272 RX2 yX2_isLuckyNumber uX2_isLuckyNumber) := gin_V (List.mem_of_getElem? (i := 18) rfl) (List.mem_of_getElem? (i := 19) rfl) (List.mem_of_getElem? (i := 20) rfl) (List.mem_of_getElem? (i := 9) rfl) (fun _ h => (List.mem_cons_of_mem _ (List.mem_append_right _ (List.mem_append_right _ (List.mem_append_right _ (List.mem_append_right _ (List.mem_append_right _ (List.mem_append_left _ h)))))))) guX2_isLuckyNumber
set_option maxHeartbeats 4000000 in
set_option maxRecDepth 100000 in
theorem kX9_judge (l : Launch) (dC : Nat → ClassId) (dI : Nat → Nat → Nat) (h0 : Nat) (tp : Nat) (sc : Nat) (rd : Nat) (cu : Nat) (im : Nat) (ig : Nat) (sl : Nat) (se : Nat) (sm : Nat) (fc : Nat) (ln : Int32) (bs : Int32) (tk : Int32) (lw : Int32) (li : Int32) (fa : Nat) (lu : Nat) (cS : ClassId) (s0 : Nat) (s1 : Nat) (s2 : Nat) (s3 : Nat) (n0 : Nat) (n1 : Nat) (n2 : Nat) (n3 : Nat) (wd0 : Int32) (wd1 : Int32) (wd2 : Int32) (wd3 : Int32) (rz0 : Int32) (rz1 : Int32) (rz2 : Int32) (rz3 : Int32) (cJ0 : ClassId) (cJ1 : ClassId) (cJ2 : ClassId) (cJ3 : ClassId) (g0 : Nat → Int64) (g1 : Nat → Int64) (g2 : Nat → Int64) (g3 : Nat → Int64) (cL : ClassId) (nl : Nat) (fl : Nat → Int32) (a1 : Int32) (a2 : Int32) (b_ln : (0 : Int) ≤ ln.toInt ∧ ln.toInt ≤ 12) (b_bs : (0 : Int) ≤ bs.toInt ∧ bs.toInt ≤ 16) (b_tk : (0 : Int) ≤ tk.toInt ∧ tk.toInt ≤ 20000) (b_lw : (0 : Int) ≤ lw.toInt ∧ lw.toInt ≤ 9) (b_wd0 : (-1 : Int) ≤ wd0.toInt ∧ wd0.toInt ≤ 3) (b_wd1 : (-1 : Int) ≤ wd1.toInt ∧ wd1.toInt ≤ 3) (b_wd2 : (-1 : Int) ≤ wd2.toInt ∧ wd2.toInt ≤ 3) (b_wd3 : (-1 : Int) ≤ wd3.toInt ∧ wd3.toInt ≤ 3) (b_rz0 : (0 : Int) ≤ rz0.toInt ∧ rz0.toInt ≤ 60) (b_rz1 : (0 : Int) ≤ rz1.toInt ∧ rz1.toInt ≤ 60) (b_rz2 : (0 : Int) ≤ rz2.toInt ∧ rz2.toInt ≤ 60) (b_rz3 : (0 : Int) ≤ rz3.toInt ∧ rz3.toInt ≤ 60) (hl1 : tk.toInt ≤ (nl : Int)) : Met l yX9_judge uX9_judge ({ frames := 2, cells := 0, slots := 0, locals := 45 }) (va_Pc [.ref h0, .int a1, .int a2] (pw (dC, dI) vwCl [(h0, .inr (7, [.ref tp, .ref sc, .ref rd, .ref cu, .ref im, .ref ig, .ref sl, .ref se, .ref sm, .ref fc])), (cu, .inr (1, [.int ln, .int bs, .int tk, .int lw, .int li, .ref fa, .ref lu])), (sl, .inl (cS, 4, .inr (.inr (.inr (.inr (sf4 s0 s1 s2 s3)))))), (s0, .inr (2, [.int wd0, .int rz0, .ref n0])), (s1, .inr (2, [.int wd1, .int rz1, .ref n1])), (s2, .inr (2, [.int wd2, .int rz2, .ref n2])), (s3, .inr (2, [.int wd3, .int rz3, .ref n3])), (n0, .inl (cJ0, 60, .inr (.inl g0))), (n1, .inl (cJ1, 60, .inr (.inl g1))), (n2, .inl (cJ2, 60, .inr (.inl g2))), (n3, .inl (cJ3, 60, .inr (.inl g3))), (lu, .inl (cL, nl, .inl fl))] [(cS, .object RX3), (cJ0, .long), (cJ1, .long), (cJ2, .long), (cJ3, .long), (cL, .int)])) (vp_Si (fun r => ((-6 : Int) ≤ r.toInt ∧ r.toInt ≤ 60))) 0 0 (fun _ => False) := by
  refine Met.ofW (cc := cX9_judge) (maxL := 5) (ret := (some .int)) pn_X9 rfl ?_
  intro p e s m args below meth c s₁ B hml hv
  obtain ⟨rfl, hP, hK, hN⟩ := hv
  have hx := B.exec
  have hb := B.bytes
  have hr := B.returns
  have hts := atoms_spec (ws := uX9_judge) B.pre
  have hown : s.vm.findClass RX9 = some m.cls := hown_of B.named rfl
  have hlocks := B.notSynchronized
  have hl := lv_entry ([.ref h0, .int a1, .int a2]) (n := 5) (Nat.le_of_ble_eq_true rfl)
  rw [lg_entry_eq]
  generalize (lg_sl ([.ref h0, .int a1, .int a2]) ++ List.replicate (5 - (lg_sl ([.ref h0, .int a1, .int a2])).length) Slot.unset).toArray = ls at hl ⊢
  have hl : lv_has ls 5 [(0, .ref h0), (1, .int a1), (2, .int a2)] := hl
  refine lv_aload_n hx hb dX9_judge_0 rfl (lv_at hl 0 rfl) ?_
  refine lv_iload_n hx hb dX9_judge_1 rfl (lv_at hl 1 rfl) ?_
  refine vp_callSi (W.runV (As := [.int a1]) (rest := []) ⟨hx, hb, hml, hown, hts⟩ (kX9_hasSlot l dC dI h0 tp sc rd cu im ig sl se sm fc cS s0 s1 s2 s3 a1 ) (cwV 1 hts gX9_judge__X9_hasSlot_V206 rfl rfl rfl hd_yX9_hasSlot ⟨lel 2 2 rfl, lel 43 45 rfl⟩) ⟨pw_fb, rcv_X9 hK hP (q0 := 0) rfl, (pw_use hP hK hN [0, 2] rfl [0] rfl)⟩ rfl rfl hl.1 rfl (lv_room (Nat.le_of_ble_eq_true rfl)) dX9_judge_2 ⟨lel 0 0 rfl, lel 0 0 rfl⟩) (fun r_48 h_r_48 => ?_)
  obtain ⟨b_r_48, nz_r_48⟩ := h_r_48
  have b_r_48 : (0 : Int) ≤ r_48.toInt ∧ r_48.toInt ≤ 1 := b_r_48
  refine lv_if_eq (tgt := 19) hx hb dX9_judge_5 (by decide) (fun c_49 => ?_) (fun c_49 => ?_)
  ·
    have n_c_49 : (r_48.toInt : Int) = 0 := c_eq rfl (by decide) c_49
    have b_r_48 : (0 : Int) ≤ r_48.toInt ∧ r_48.toInt ≤ 0 := r_eq1 b_r_48 (by decide : (0 : Int) ≤ (0 : Int32).toInt ∧ (0 : Int32).toInt ≤ 0) n_c_49 (by decide)
    refine lv_bipush (v := (-2)) hx hb dX9_judge_19 (by decide) ?_
    exact W.iret (v := (-2)) hx hb hr (fun t ht hW => ⟨(-2), rfl, (rg_w (by decide : (-2 : Int) ≤ ((-2) : Int32).toInt ∧ ((-2) : Int32).toInt ≤ -2) (by decide) (by decide)), ht⟩) t_nil dX9_judge_21
  ·
    have n_c_49 : (r_48.toInt : Int) ≠ 0 := c_ne rfl (by decide) c_49
    have b_r_48 : (1 : Int) ≤ r_48.toInt ∧ r_48.toInt ≤ 1 := r_ne1 b_r_48 (by decide : (0 : Int) ≤ (0 : Int32).toInt ∧ (0 : Int32).toInt ≤ 0) n_c_49 (by decide)
    obtain ⟨b_a1, g_50⟩ := nz_r_48 c_49
    refine lv_aload_n hx hb dX9_judge_8 rfl (lv_at hl 0 rfl) ?_
    refine va_get (D := (dC, dI)) (ci := 7) (v := .ref cu) (C := RX9) (T := TX9) (N := 10) hx hb hts iX9_judge_X9 hown hK hP 0 rfl rfl 3 (by decide) (hts (.fieldLink RX9 35 "LuckyTicket" "current" "LLuckyTicket$Roll;") (List.mem_of_getElem? (i := 5) rfl)) (fun _ h9 => h9) rfl dX9_judge_9 ?_
    refine lv_iload_n hx hb dX9_judge_12 rfl (lv_at hl 2 rfl) ?_
    refine vp_callSi (W.runV (As := [.int a2]) (rest := []) ⟨hx, hb, hml, hown, hts⟩ (kX2_hasLaw l dC dI cu ln bs tk lw li fa lu a2 b_ln b_bs b_tk b_lw) (cwV 1 hts gX9_judge__X2_hasLaw_V149 rfl rfl rfl hd_yX2_hasLaw ⟨lel 1 2 rfl, lel 21 45 rfl⟩) ⟨pw_fb, rcv_X2 hK hP (q0 := 1) rfl, (pw_use hP hK hN [1] rfl [] rfl)⟩ rfl rfl hl.1 rfl (lv_room (Nat.le_of_ble_eq_true rfl)) dX9_judge_13 ⟨lel 0 0 rfl, lel 0 0 rfl⟩) (fun r_51 h_r_51 => ?_)
    obtain ⟨b_r_51, nz_r_51⟩ := h_r_51
    have b_r_51 : (0 : Int) ≤ r_51.toInt ∧ r_51.toInt ≤ 1 := b_r_51
    refine lv_if_ne (tgt := 22) hx hb dX9_judge_16 (by decide) (fun c_52 => ?_) (fun c_52 => ?_)
    ·
      have n_c_52 : (r_51.toInt : Int) ≠ 0 := c_ne rfl (by decide) c_52
      have b_r_51 : (1 : Int) ≤ r_51.toInt ∧ r_51.toInt ≤ 1 := r_ne1 b_r_51 (by decide : (0 : Int) ≤ (0 : Int32).toInt ∧ (0 : Int32).toInt ≤ 0) n_c_52 (by decide)
      obtain ⟨b_a2, g_53⟩ := nz_r_51 c_52
      refine lv_aload_n hx hb dX9_judge_22 rfl (lv_at hl 0 rfl) ?_
      refine va_get (D := (dC, dI)) (ci := 7) (v := .ref sl) (C := RX9) (T := TX9) (N := 10) hx hb hts iX9_judge_X9 hown hK hP 0 rfl rfl 6 (by decide) (hts (.fieldLink RX9 50 "LuckyTicket" "slots" "[LLuckyTicket$Row;") (List.mem_of_getElem? (i := 10) rfl)) (fun _ h9 => h9) rfl dX9_judge_23 ?_
      refine lv_iload_n hx hb dX9_judge_26 rfl (lv_at hl 1 rfl) ?_
      refine cutP (σ := Nat × Int32 × Int32 × Nat × ClassId × (Nat → Int64)) (pc2 := 28) (st2 := fun v => .ref v.1 :: []) (cells2 := 0) (slots2 := 0) (fun v ls => ((-1 : Int) ≤ v.2.1.toInt ∧ v.2.1.toInt ≤ 3) ∧ ((0 : Int) ≤ v.2.2.1.toInt ∧ v.2.2.1.toInt ≤ 60) ∧ (va_P (dC, dI) vwCl [(h0, .inr (7, [.ref tp, .ref sc, .ref rd, .ref cu, .ref im, .ref ig, .ref sl, .ref se, .ref sm, .ref fc])), (cu, .inr (1, [.int ln, .int bs, .int tk, .int lw, .int li, .ref fa, .ref lu])), (lu, .inl (cL, nl, .inl fl)), (v.1, .inr (2, [.int v.2.1, .int v.2.2.1, .ref v.2.2.2.1])), (v.2.2.2.1, .inl (v.2.2.2.2.1, 60, .inr (.inl v.2.2.2.2.2)))] s.heap) ∧ (va_K (dC, dI) vwCl [(cL, .int), (v.2.2.2.2.1, .long)] s) ∧ (lv_has ls 5 [(0, .ref h0), (1, .int a1), (2, .int a2)])) (fun v ls hI => ?_) (fun hj_27_54 => ?_)
      ·
        obtain ⟨rw_54, wd_54, rz_54, nu_54, cN_54, fn_54⟩ := v
        obtain ⟨b_wd_54, b_rz_54, hP, hK, hl⟩ := hI
        have b_wd_54 : (-1 : Int) ≤ wd_54.toInt ∧ wd_54.toInt ≤ 3 := b_wd_54
        have b_rz_54 : (0 : Int) ≤ rz_54.toInt ∧ rz_54.toInt ≤ 60 := b_rz_54
        have hP : va_P (dC, dI) vwCl [(h0, .inr (7, [.ref tp, .ref sc, .ref rd, .ref cu, .ref im, .ref ig, .ref sl, .ref se, .ref sm, .ref fc])), (cu, .inr (1, [.int ln, .int bs, .int tk, .int lw, .int li, .ref fa, .ref lu])), (lu, .inl (cL, nl, .inl fl)), (rw_54, .inr (2, [.int wd_54, .int rz_54, .ref nu_54])), (nu_54, .inl (cN_54, 60, .inr (.inl fn_54)))] s.heap := hP
        have hK : va_K (dC, dI) vwCl [(cL, .int), (cN_54, .long)] s := hK
        have hl : lv_has ls 5 [(0, .ref h0), (1, .int a1), (2, .int a2)] := hl
        refine lv_astore_n (lv' := [(3, .ref rw_54), (0, .ref h0), (1, .int a1), (2, .int a2)]) hx hb dX9_judge_28 rfl hl (by decide) rfl (fun ls hl => ?_)
        refine lv_aload_n hx hb dX9_judge_29 rfl (lv_at hl 0 rfl) ?_
        refine vp_callSi (W.runV (As := []) (rest := []) ⟨hx, hb, hml, hown, hts⟩ (kX3_stands l dC dI rw_54 wd_54 rz_54 nu_54 b_wd_54 b_rz_54) (cwV 0 hts gX9_judge__X3_stands_V270 rfl rfl rfl hd_yX3_stands ⟨lel 1 2 rfl, lel 20 45 rfl⟩) ⟨pw_fb, rcv_X3 hK hP (q0 := 3) rfl, (pw_use hP hK hN [3] rfl [] rfl)⟩ rfl rfl hl.1 rfl (lv_room (Nat.le_of_ble_eq_true rfl)) dX9_judge_30 ⟨lel 0 0 rfl, lel 0 0 rfl⟩) (fun r_55 h_r_55 => ?_)
        obtain ⟨b_r_55, nz_r_55⟩ := h_r_55
        have b_r_55 : (0 : Int) ≤ r_55.toInt ∧ r_55.toInt ≤ 1 := b_r_55
        refine lv_if_ne (tgt := 39) hx hb dX9_judge_33 (by decide) (fun c_56 => ?_) (fun c_56 => ?_)
        ·
          have n_c_56 : (r_55.toInt : Int) ≠ 0 := c_ne rfl (by decide) c_56
          have b_r_55 : (1 : Int) ≤ r_55.toInt ∧ r_55.toInt ≤ 1 := r_ne1 b_r_55 (by decide : (0 : Int) ≤ (0 : Int32).toInt ∧ (0 : Int32).toInt ≤ 0) n_c_56 (by decide)
          obtain ⟨b_wd_54, g_57⟩ := nz_r_55 c_56
          refine lv_iconst (v := 0) hx hb dX9_judge_39 (by decide) ?_
          refine lv_istore (lv' := [(4, .int 0), (3, .ref rw_54), (0, .ref h0), (1, .int a1), (2, .int a2)]) hx hb dX9_judge_40 hl (by decide) rfl (fun ls hl => ?_)
          refine loopP (σ := Int32) (fun v => (60 - v.toInt).toNat) (fun v ls => ((0 : Int) ≤ v.toInt ∧ v.toInt ≤ 60) ∧ lv_has ls 5 [(4, .int v), (3, .ref rw_54), (0, .ref h0), (1, .int a1), (2, .int a2)]) (fun v ls hI ih_42_88 => ?_) (0 : Int32) ⟨(show (0 : Int) ≤ (0 : Int32).toInt ∧ (0 : Int32).toInt ≤ 60 from (rg_w (by decide : (0 : Int) ≤ (0 : Int32).toInt ∧ (0 : Int32).toInt ≤ 0) (by decide) (by decide))), lv_sub hl [0, 1, 2, 3, 4] rfl⟩
          obtain ⟨y_63, rfl⟩ : ∃ z, z = v := ⟨_, rfl⟩
          obtain ⟨b_y_63, hl⟩ := hI
          have b_y_63 : (0 : Int) ≤ y_63.toInt ∧ y_63.toInt ≤ 60 := b_y_63
          have hl : lv_has ls 5 [(4, .int y_63), (3, .ref rw_54), (0, .ref h0), (1, .int a1), (2, .int a2)] := hl
          refine lv_iload hx hb dX9_judge_42 (lv_at hl 0 rfl) ?_
          refine lv_aload_n hx hb dX9_judge_44 rfl (lv_at hl 1 rfl) ?_
          refine va_getN (own := RX9) (index := 271) (ref := RX3) (host := RX9) (D := (dC, dI)) (ci := 2) (v := .int rz_54) (C := RX3) (T := TX3) (N := 3) hx hb hts iX9_judge_X3 hown hK hP 3 rfl rfl 1 (by decide) (va_Nw.use rfl (hN _ (List.mem_of_getElem? (i := 22) rfl))) (fun _ h9 => h9) rfl dX9_judge_45 ?_
          refine lv_icmp_ge (tgt := 77) hx hb dX9_judge_48 (by decide) (fun c_89 => ?_) (fun c_89 => ?_)
          ·
            have n_c_89 : (rz_54.toInt : Int) ≤ y_63.toInt := c_ge rfl rfl c_89
            refine lv_aload_n hx hb dX9_judge_77 rfl (lv_at hl 1 rfl) ?_
            refine va_getN (own := RX9) (index := 271) (ref := RX3) (host := RX9) (D := (dC, dI)) (ci := 2) (v := .int rz_54) (C := RX3) (T := TX3) (N := 3) hx hb hts iX9_judge_X3 hown hK hP 3 rfl rfl 1 (by decide) (va_Nw.use rfl (hN _ (List.mem_of_getElem? (i := 22) rfl))) (fun _ h9 => h9) rfl dX9_judge_78 ?_
            exact W.iret (v := rz_54) hx hb hr (fun t ht hW => ⟨rz_54, rfl, (rg_w b_rz_54 (by decide) (by decide)), ht⟩) t_nil dX9_judge_81
          ·
            have n_c_89 : (y_63.toInt : Int) < rz_54.toInt := c_nge rfl rfl c_89
            have b_y_63 : (0 : Int) ≤ y_63.toInt ∧ y_63.toInt ≤ 59 := r_lt1 b_y_63 b_rz_54 n_c_89 (by decide)
            have b_rz_54 : (1 : Int) ≤ rz_54.toInt ∧ rz_54.toInt ≤ 60 := r_lt2 b_y_63 b_rz_54 n_c_89 (by decide)
            refine lv_aload_n hx hb dX9_judge_51 rfl (lv_at hl 2 rfl) ?_
            refine va_get (D := (dC, dI)) (ci := 7) (v := .ref cu) (C := RX9) (T := TX9) (N := 10) hx hb hts iX9_judge_X9 hown hK hP 0 rfl rfl 3 (by decide) (hts (.fieldLink RX9 35 "LuckyTicket" "current" "LLuckyTicket$Roll;") (List.mem_of_getElem? (i := 5) rfl)) (fun _ h9 => h9) rfl dX9_judge_52 ?_
            refine lv_iload_n hx hb dX9_judge_55 rfl (lv_at hl 4 rfl) ?_
            refine lv_aload_n hx hb dX9_judge_56 rfl (lv_at hl 1 rfl) ?_
            refine lv_iload hx hb dX9_judge_57 (lv_at hl 0 rfl) ?_
            refine vp_callSl (W.runV (As := [.int y_63]) (rest := [.int a2, .ref cu]) ⟨hx, hb, hml, hown, hts⟩ (kX3_numberAt l dC dI rw_54 wd_54 rz_54 nu_54 cN_54 fn_54 y_63 (rg_w b_wd_54 (by decide) (by decide)) (rg_w b_rz_54 (by decide) (by decide))) (cwV 1 hts gX9_judge__X3_numberAt_V240 rfl rfl rfl hd_yX3_numberAt ⟨lel 1 2 rfl, lel 21 45 rfl⟩) ⟨pw_fb, rcv_X3 hK hP (q0 := 3) rfl, (pw_use hP hK hN [3, 4] rfl [1] rfl)⟩ rfl rfl hl.1 rfl (lv_room (Nat.le_of_ble_eq_true rfl)) dX9_judge_59 ⟨lel 0 0 rfl, lel 0 0 rfl⟩) (fun r_90 h_r_90 => ?_)
            refine vp_callSi (W.runV (As := [.int a2, .long r_90]) (rest := []) ⟨hx, hb, hml, hown, hts⟩ (kX2_isLuckyNumber l dC dI cu ln bs tk lw li fa lu cL nl fl a2 r_90 b_ln b_bs b_tk b_lw (by omega)) (cwV 2 hts gX9_judge__X2_isLuckyNumber_V272 rfl rfl rfl hd_yX2_isLuckyNumber ⟨lel 2 2 rfl, lel 45 45 rfl⟩) ⟨pw_fb, rcv_X2 hK hP (q0 := 1) rfl, (pw_use hP hK hN [1, 2] rfl [0] rfl)⟩ rfl rfl hl.1 rfl (lv_room (Nat.le_of_ble_eq_true rfl)) dX9_judge_62 ⟨lel 0 0 rfl, lel 0 0 rfl⟩) (fun r_91 h_r_91 => ?_)
            have b_r_91 := h_r_91
            have b_r_91 : (0 : Int) ≤ r_91.toInt ∧ r_91.toInt ≤ 1 := b_r_91
            refine lv_if_ne (tgt := 71) hx hb dX9_judge_65 (by decide) (fun c_92 => ?_) (fun c_92 => ?_)
            ·
              have n_c_92 : (r_91.toInt : Int) ≠ 0 := c_ne rfl (by decide) c_92
              have b_r_91 : (1 : Int) ≤ r_91.toInt ∧ r_91.toInt ≤ 1 := r_ne1 b_r_91 (by decide : (0 : Int) ≤ (0 : Int32).toInt ∧ (0 : Int32).toInt ≤ 0) n_c_92 (by decide)
              obtain ⟨z_93, e_z_93⟩ : ∃ y : Int32, y = y_63 + 1 := ⟨_, rfl⟩
              refine lv_iinc (v := z_93) (lv' := [(4, .int z_93), (3, .ref rw_54), (0, .ref h0), (1, .int a1), (2, .int a2)]) hx hb dX9_judge_71 hl (k := 0) rfl (by rw [e_z_93]; rfl) (by decide) rfl (fun ls hl => ?_)
              obtain ⟨q_z_93, b_z_93⟩ := ti_add (lo := 1) (hi := 60) e_z_93 rfl (by decide : (1 : Int32).toInt = 1) b_y_63 (by decide : (1 : Int) ≤ (1 : Int32).toInt ∧ (1 : Int32).toInt ≤ 1) (by decide)
              refine lv_goto (tgt := 42) hx hb dX9_judge_74 (by decide) ?_
              exact ih_42_88 z_93 _ ⟨(show (0 : Int) ≤ z_93.toInt ∧ z_93.toInt ≤ 60 from (rg_w b_z_93 (by decide) (by decide))), lv_sub hl [0, 1, 2, 3, 4] rfl⟩ (show (60 - z_93.toInt).toNat < (60 - y_63.toInt).toNat by omega)
            ·
              have n_c_92 : (r_91.toInt : Int) = 0 := c_eq rfl (by decide) c_92
              have b_r_91 : (0 : Int) ≤ r_91.toInt ∧ r_91.toInt ≤ 0 := r_eq1 b_r_91 (by decide : (0 : Int) ≤ (0 : Int32).toInt ∧ (0 : Int32).toInt ≤ 0) n_c_92 (by decide)
              refine lv_iload hx hb dX9_judge_68 (lv_at hl 0 rfl) ?_
              exact W.iret (v := y_63) hx hb hr (fun t ht hW => ⟨y_63, rfl, (rg_w b_y_63 (by decide) (by decide)), ht⟩) t_nil dX9_judge_70
        ·
          have n_c_56 : (r_55.toInt : Int) = 0 := c_eq rfl (by decide) c_56
          have b_r_55 : (0 : Int) ≤ r_55.toInt ∧ r_55.toInt ≤ 0 := r_eq1 b_r_55 (by decide : (0 : Int) ≤ (0 : Int32).toInt ∧ (0 : Int32).toInt ≤ 0) n_c_56 (by decide)
          refine lv_bipush (v := (-6)) hx hb dX9_judge_36 (by decide) ?_
          exact W.iret (v := (-6)) hx hb hr (fun t ht hW => ⟨(-6), rfl, (rg_w (by decide : (-6 : Int) ≤ ((-6) : Int32).toInt ∧ ((-6) : Int32).toInt ≤ -6) (by decide) (by decide)), ht⟩) t_nil dX9_judge_38
      ·
        rcases (show a1.toInt = 0 ∨ a1.toInt = 1 ∨ a1.toInt = 2 ∨ a1.toInt = 3 by omega) with h_94 | h_94 | h_94 | h_94
        ·
          obtain rfl : a1 = 0 := Int32.toInt_inj.mp (h_94.trans (by decide))
          refine va_aldq hx hb hK hP 2 0 rfl rfl (vp_in_lit (by decide)) dX9_judge_27 ?_
          refine W.eq (g2 := F0 m 28 ls (.ref s0 :: [])) (congrArg (fun v => F0 m 28 ls (va_rf v :: [])) (sf4_0 s0 s1 s2 s3)) ?_
          exact hj_27_54 (s0, wd0, rz0, n0, cJ0, g0) _ ⟨b_wd0, b_rz0, hP.sub [0, 1, 11, 3, 7] rfl, hK.sub [5, 1] rfl, hl⟩
        ·
          obtain rfl : a1 = 1 := Int32.toInt_inj.mp (h_94.trans (by decide))
          refine va_aldq hx hb hK hP 2 0 rfl rfl (vp_in_lit (by decide)) dX9_judge_27 ?_
          refine W.eq (g2 := F0 m 28 ls (.ref s1 :: [])) (congrArg (fun v => F0 m 28 ls (va_rf v :: [])) (sf4_1 s0 s1 s2 s3)) ?_
          exact hj_27_54 (s1, wd1, rz1, n1, cJ1, g1) _ ⟨b_wd1, b_rz1, hP.sub [0, 1, 11, 4, 8] rfl, hK.sub [5, 2] rfl, hl⟩
        ·
          obtain rfl : a1 = 2 := Int32.toInt_inj.mp (h_94.trans (by decide))
          refine va_aldq hx hb hK hP 2 0 rfl rfl (vp_in_lit (by decide)) dX9_judge_27 ?_
          refine W.eq (g2 := F0 m 28 ls (.ref s2 :: [])) (congrArg (fun v => F0 m 28 ls (va_rf v :: [])) (sf4_2 s0 s1 s2 s3)) ?_
          exact hj_27_54 (s2, wd2, rz2, n2, cJ2, g2) _ ⟨b_wd2, b_rz2, hP.sub [0, 1, 11, 5, 9] rfl, hK.sub [5, 3] rfl, hl⟩
        ·
          obtain rfl : a1 = 3 := Int32.toInt_inj.mp (h_94.trans (by decide))
          refine va_aldq hx hb hK hP 2 0 rfl rfl (vp_in_lit (by decide)) dX9_judge_27 ?_
          refine W.eq (g2 := F0 m 28 ls (.ref s3 :: [])) (congrArg (fun v => F0 m 28 ls (va_rf v :: [])) (sf4_3 s0 s1 s2 s3)) ?_
          exact hj_27_54 (s3, wd3, rz3, n3, cJ3, g3) _ ⟨b_wd3, b_rz3, hP.sub [0, 1, 11, 6, 10] rfl, hK.sub [5, 4] rfl, hl⟩
    ·
      have n_c_52 : (r_51.toInt : Int) = 0 := c_eq rfl (by decide) c_52
      have b_r_51 : (0 : Int) ≤ r_51.toInt ∧ r_51.toInt ≤ 0 := r_eq1 b_r_51 (by decide : (0 : Int) ≤ (0 : Int32).toInt ∧ (0 : Int32).toInt ≤ 0) n_c_52 (by decide)
      refine lv_bipush (v := (-2)) hx hb dX9_judge_19 (by decide) ?_
      exact W.iret (v := (-2)) hx hb hr (fun t ht hW => ⟨(-2), rfl, (rg_w (by decide : (-2 : Int) ≤ ((-2) : Int32).toInt ∧ ((-2) : Int32).toInt ≤ -2) (by decide) (by decide)), ht⟩) t_nil dX9_judge_21
theorem dX9_kept_0 : decode cX9_kept 0 = .ok (.aload_n 0, 1) := by decide +kernel
theorem dX9_kept_1 : decode cX9_kept 1 = .ok (.iload_n 1, 1) := by decide +kernel
theorem dX9_kept_2 : decode cX9_kept 2 = .ok (.invokevirtual 206, 3) := by decide +kernel
theorem dX9_kept_5 : decode cX9_kept 5 = .ok (.ifCond .eq 14, 3) := by decide +kernel
theorem dX9_kept_8 : decode cX9_kept 8 = .ok (.aload_n 0, 1) := by decide +kernel
theorem dX9_kept_9 : decode cX9_kept 9 = .ok (.getfield 35, 3) := by decide +kernel
theorem dX9_kept_12 : decode cX9_kept 12 = .ok (.iload_n 2, 1) := by decide +kernel
theorem dX9_kept_13 : decode cX9_kept 13 = .ok (.invokevirtual 149, 3) := by decide +kernel
theorem dX9_kept_16 : decode cX9_kept 16 = .ok (.ifCond .ne 6, 3) := by decide +kernel
theorem dX9_kept_19 : decode cX9_kept 19 = .ok (.bipush (-2), 2) := by decide +kernel
theorem dX9_kept_21 : decode cX9_kept 21 = .ok (.ireturn, 1) := by decide +kernel
theorem dX9_kept_22 : decode cX9_kept 22 = .ok (.aload_n 0, 1) := by decide +kernel
theorem dX9_kept_23 : decode cX9_kept 23 = .ok (.getfield 50, 3) := by decide +kernel
theorem dX9_kept_26 : decode cX9_kept 26 = .ok (.iload_n 1, 1) := by decide +kernel
theorem dX9_kept_27 : decode cX9_kept 27 = .ok (.aaload, 1) := by decide +kernel
theorem dX9_kept_28 : decode cX9_kept 28 = .ok (.astore_n 3, 1) := by decide +kernel
theorem dX9_kept_29 : decode cX9_kept 29 = .ok (.aload_n 3, 1) := by decide +kernel
theorem dX9_kept_30 : decode cX9_kept 30 = .ok (.invokevirtual 270, 3) := by decide +kernel
theorem dX9_kept_33 : decode cX9_kept 33 = .ok (.ifCond .ne 6, 3) := by decide +kernel
theorem dX9_kept_36 : decode cX9_kept 36 = .ok (.bipush (-6), 2) := by decide +kernel
theorem dX9_kept_38 : decode cX9_kept 38 = .ok (.ireturn, 1) := by decide +kernel
theorem dX9_kept_39 : decode cX9_kept 39 = .ok (.iconst 0, 1) := by decide +kernel
theorem dX9_kept_40 : decode cX9_kept 40 = .ok (.istore 4, 2) := by decide +kernel
theorem dX9_kept_42 : decode cX9_kept 42 = .ok (.iconst 0, 1) := by decide +kernel
theorem dX9_kept_43 : decode cX9_kept 43 = .ok (.istore 5, 2) := by decide +kernel
theorem dX9_kept_45 : decode cX9_kept 45 = .ok (.iload 5, 2) := by decide +kernel
theorem dX9_kept_47 : decode cX9_kept 47 = .ok (.aload_n 3, 1) := by decide +kernel
theorem dX9_kept_48 : decode cX9_kept 48 = .ok (.getfield 271, 3) := by decide +kernel
theorem dX9_kept_51 : decode cX9_kept 51 = .ok (.if_icmp .ge 38, 3) := by decide +kernel
theorem dX9_kept_54 : decode cX9_kept 54 = .ok (.aload_n 0, 1) := by decide +kernel
theorem dX9_kept_55 : decode cX9_kept 55 = .ok (.getfield 35, 3) := by decide +kernel
theorem dX9_kept_58 : decode cX9_kept 58 = .ok (.iload_n 2, 1) := by decide +kernel
theorem dX9_kept_59 : decode cX9_kept 59 = .ok (.aload_n 3, 1) := by decide +kernel
theorem dX9_kept_60 : decode cX9_kept 60 = .ok (.iload 5, 2) := by decide +kernel
theorem dX9_kept_62 : decode cX9_kept 62 = .ok (.invokevirtual 240, 3) := by decide +kernel
theorem dX9_kept_65 : decode cX9_kept 65 = .ok (.invokevirtual 272, 3) := by decide +kernel
theorem dX9_kept_68 : decode cX9_kept 68 = .ok (.ifCond .eq 15, 3) := by decide +kernel
theorem dX9_kept_71 : decode cX9_kept 71 = .ok (.aload_n 3, 1) := by decide +kernel
theorem dX9_kept_72 : decode cX9_kept 72 = .ok (.iload 5, 2) := by decide +kernel
theorem dX9_kept_74 : decode cX9_kept 74 = .ok (.invokevirtual 276, 3) := by decide +kernel
theorem dX9_kept_77 : decode cX9_kept 77 = .ok (.ifCond .eq 6, 3) := by decide +kernel
theorem dX9_kept_80 : decode cX9_kept 80 = .ok (.iinc 4 1, 3) := by decide +kernel
theorem dX9_kept_83 : decode cX9_kept 83 = .ok (.iinc 5 1, 3) := by decide +kernel
theorem dX9_kept_86 : decode cX9_kept 86 = .ok (.goto (-41), 3) := by decide +kernel
theorem dX9_kept_89 : decode cX9_kept 89 = .ok (.iload 4, 2) := by decide +kernel
theorem dX9_kept_91 : decode cX9_kept 91 = .ok (.ireturn, 1) := by decide +kernel
theorem hd_yX9_kept : yX9_kept.cls = RX9 ∧ yX9_kept.cls ≠ "java/lang/invoke/MethodHandle" ∧ yX9_kept.cls ≠ "java/lang/invoke/VarHandle" ∧ (parseMethodDescriptor yX9_kept.desc).map (fun d => d.parameters.length) = some 2 := by decide +kernel
def uX9_kept : List Cond := List.cons (.code yX9_kept cX9_kept 6 (some .int)) (HAppend.hAppend ([.methodLink RX9 206 yX9_hasSlot, .instanceMethod yX9_hasSlot, .selects RX9 yX9_hasSlot yX9_hasSlot, .initialized RX9, .fieldLink RX9 35 "LuckyTicket" "current" "LLuckyTicket$Roll;", .methodLink RX9 149 yX2_hasLaw, .instanceMethod yX2_hasLaw, .selects RX2 yX2_hasLaw yX2_hasLaw, .initialized RX2, .fieldLink RX9 50 "LuckyTicket" "slots" "[LLuckyTicket$Row;", .methodLink RX9 270 yX3_stands, .instanceMethod yX3_stands, .selects RX3 yX3_stands yX3_stands, .initialized RX3, .methodLink RX9 240 yX3_numberAt, .instanceMethod yX3_numberAt, .selects RX3 yX3_numberAt yX3_numberAt, .methodLink RX9 272 yX2_isLuckyNumber, .instanceMethod yX2_isLuckyNumber, .selects RX2 yX2_isLuckyNumber yX2_isLuckyNumber, .methodLink RX9 276 yX3_isNewAt, .instanceMethod yX3_isNewAt, .selects RX3 yX3_isNewAt yX3_isNewAt] : List Cond) (HAppend.hAppend uX9_hasSlot (HAppend.hAppend uX2_hasLaw (HAppend.hAppend uX3_stands (HAppend.hAppend uX3_numberAt (HAppend.hAppend uX2_isLuckyNumber (HAppend.hAppend uX3_isNewAt (HAppend.hAppend wsX90 wsX30))))))))
theorem iX9_kept_X9 : ∀ w ∈ wsX90, w ∈ uX9_kept := fun _ h => (List.mem_cons_of_mem _ (List.mem_append_right _ (List.mem_append_right _ (List.mem_append_right _ (List.mem_append_right _ (List.mem_append_right _ (List.mem_append_right _ (List.mem_append_right _ (List.mem_append_left _ h)))))))))
theorem iX9_kept_X3 : ∀ w ∈ wsX30, w ∈ uX9_kept := fun _ h => (List.mem_cons_of_mem _ (List.mem_append_right _ (List.mem_append_right _ (List.mem_append_right _ (List.mem_append_right _ (List.mem_append_right _ (List.mem_append_right _ (List.mem_append_right _ (List.mem_append_right _ h)))))))))
theorem guX9_kept : GU uX9_kept := gu_cons (gu_app (by decide +kernel) (gu_ap guX9_hasSlot (gu_ap guX2_hasLaw (gu_ap guX3_stands (gu_ap guX3_numberAt (gu_ap guX2_isLuckyNumber (gu_ap guX3_isNewAt (gu_ap gws_X9 gws_X3))))))))
theorem gX9_kept__X9_hasSlot_V206 : GoodIn uX9_kept (wsV RX9 206 RX9 yX9_hasSlot uX9_hasSlot) := gin_V (List.mem_of_getElem? (i := 1) rfl) (List.mem_of_getElem? (i := 2) rfl) (List.mem_of_getElem? (i := 3) rfl) (List.mem_of_getElem? (i := 4) rfl) (fun _ h => (List.mem_cons_of_mem _ (List.mem_append_right _ (List.mem_append_left _ h)))) guX9_hasSlot
theorem gX9_kept__X2_hasLaw_V149 : GoodIn uX9_kept (wsV RX9 149 RX2 yX2_hasLaw uX2_hasLaw) := gin_V (List.mem_of_getElem? (i := 6) rfl) (List.mem_of_getElem? (i := 7) rfl) (List.mem_of_getElem? (i := 8) rfl) (List.mem_of_getElem? (i := 9) rfl) (fun _ h => (List.mem_cons_of_mem _ (List.mem_append_right _ (List.mem_append_right _ (List.mem_append_left _ h))))) guX2_hasLaw
theorem gX9_kept__X3_stands_V270 : GoodIn uX9_kept (wsV RX9 270 RX3 yX3_stands uX3_stands) := gin_V (List.mem_of_getElem? (i := 11) rfl) (List.mem_of_getElem? (i := 12) rfl) (List.mem_of_getElem? (i := 13) rfl) (List.mem_of_getElem? (i := 14) rfl) (fun _ h => (List.mem_cons_of_mem _ (List.mem_append_right _ (List.mem_append_right _ (List.mem_append_right _ (List.mem_append_left _ h)))))) guX3_stands
theorem gX9_kept__X3_numberAt_V240 : GoodIn uX9_kept (wsV RX9 240 RX3 yX3_numberAt uX3_numberAt) := gin_V (List.mem_of_getElem? (i := 15) rfl) (List.mem_of_getElem? (i := 16) rfl) (List.mem_of_getElem? (i := 17) rfl) (List.mem_of_getElem? (i := 14) rfl) (fun _ h => (List.mem_cons_of_mem _ (List.mem_append_right _ (List.mem_append_right _ (List.mem_append_right _ (List.mem_append_right _ (List.mem_append_left _ h))))))) guX3_numberAt
theorem gX9_kept__X2_isLuckyNumber_V272 : GoodIn uX9_kept (wsV RX9 272 RX2 yX2_isLuckyNumber uX2_isLuckyNumber) := gin_V (List.mem_of_getElem? (i := 18) rfl) (List.mem_of_getElem? (i := 19) rfl) (List.mem_of_getElem? (i := 20) rfl) (List.mem_of_getElem? (i := 9) rfl) (fun _ h => (List.mem_cons_of_mem _ (List.mem_append_right _ (List.mem_append_right _ (List.mem_append_right _ (List.mem_append_right _ (List.mem_append_right _ (List.mem_append_left _ h)))))))) guX2_isLuckyNumber
theorem gX9_kept__X3_isNewAt_V276 : GoodIn uX9_kept (wsV RX9 276 RX3 yX3_isNewAt uX3_isNewAt) := gin_V (List.mem_of_getElem? (i := 21) rfl) (List.mem_of_getElem? (i := 22) rfl) (List.mem_of_getElem? (i := 23) rfl) (List.mem_of_getElem? (i := 14) rfl) (fun _ h => (List.mem_cons_of_mem _ (List.mem_append_right _ (List.mem_append_right _ (List.mem_append_right _ (List.mem_append_right _ (List.mem_append_right _ (List.mem_append_right _ (List.mem_append_left _ h))))))))) guX3_isNewAt
set_option maxHeartbeats 4000000 in
set_option maxRecDepth 100000 in
theorem kX9_kept (l : Launch) (dC : Nat → ClassId) (dI : Nat → Nat → Nat) (h0 : Nat) (tp : Nat) (sc : Nat) (rd : Nat) (cu : Nat) (im : Nat) (ig : Nat) (sl : Nat) (se : Nat) (sm : Nat) (fc : Nat) (ln : Int32) (bs : Int32) (tk : Int32) (lw : Int32) (li : Int32) (fa : Nat) (lu : Nat) (cS : ClassId) (s0 : Nat) (s1 : Nat) (s2 : Nat) (s3 : Nat) (n0 : Nat) (n1 : Nat) (n2 : Nat) (n3 : Nat) (wd0 : Int32) (wd1 : Int32) (wd2 : Int32) (wd3 : Int32) (rz0 : Int32) (rz1 : Int32) (rz2 : Int32) (rz3 : Int32) (cJ0 : ClassId) (cJ1 : ClassId) (cJ2 : ClassId) (cJ3 : ClassId) (g0 : Nat → Int64) (g1 : Nat → Int64) (g2 : Nat → Int64) (g3 : Nat → Int64) (cL : ClassId) (nl : Nat) (fl : Nat → Int32) (a1 : Int32) (a2 : Int32) (b_ln : (0 : Int) ≤ ln.toInt ∧ ln.toInt ≤ 12) (b_bs : (0 : Int) ≤ bs.toInt ∧ bs.toInt ≤ 16) (b_tk : (0 : Int) ≤ tk.toInt ∧ tk.toInt ≤ 20000) (b_lw : (0 : Int) ≤ lw.toInt ∧ lw.toInt ≤ 9) (b_wd0 : (-1 : Int) ≤ wd0.toInt ∧ wd0.toInt ≤ 3) (b_wd1 : (-1 : Int) ≤ wd1.toInt ∧ wd1.toInt ≤ 3) (b_wd2 : (-1 : Int) ≤ wd2.toInt ∧ wd2.toInt ≤ 3) (b_wd3 : (-1 : Int) ≤ wd3.toInt ∧ wd3.toInt ≤ 3) (b_rz0 : (0 : Int) ≤ rz0.toInt ∧ rz0.toInt ≤ 60) (b_rz1 : (0 : Int) ≤ rz1.toInt ∧ rz1.toInt ≤ 60) (b_rz2 : (0 : Int) ≤ rz2.toInt ∧ rz2.toInt ≤ 60) (b_rz3 : (0 : Int) ≤ rz3.toInt ∧ rz3.toInt ≤ 60) (hl1 : tk.toInt ≤ (nl : Int)) : Met l yX9_kept uX9_kept ({ frames := 2, cells := 0, slots := 0, locals := 45 }) (va_Pc [.ref h0, .int a1, .int a2] (pw (dC, dI) vwCl [(h0, .inr (7, [.ref tp, .ref sc, .ref rd, .ref cu, .ref im, .ref ig, .ref sl, .ref se, .ref sm, .ref fc])), (cu, .inr (1, [.int ln, .int bs, .int tk, .int lw, .int li, .ref fa, .ref lu])), (sl, .inl (cS, 4, .inr (.inr (.inr (.inr (sf4 s0 s1 s2 s3)))))), (s0, .inr (2, [.int wd0, .int rz0, .ref n0])), (s1, .inr (2, [.int wd1, .int rz1, .ref n1])), (s2, .inr (2, [.int wd2, .int rz2, .ref n2])), (s3, .inr (2, [.int wd3, .int rz3, .ref n3])), (n0, .inl (cJ0, 60, .inr (.inl g0))), (n1, .inl (cJ1, 60, .inr (.inl g1))), (n2, .inl (cJ2, 60, .inr (.inl g2))), (n3, .inl (cJ3, 60, .inr (.inl g3))), (lu, .inl (cL, nl, .inl fl))] [(cS, .object RX3), (cJ0, .long), (cJ1, .long), (cJ2, .long), (cJ3, .long), (cL, .int)])) (vp_Si (fun r => True)) 0 0 (fun _ => False) := by
  refine Met.ofW (cc := cX9_kept) (maxL := 6) (ret := (some .int)) pn_X9 rfl ?_
  intro p e s m args below meth c s₁ B hml hv
  obtain ⟨rfl, hP, hK, hN⟩ := hv
  have hx := B.exec
  have hb := B.bytes
  have hr := B.returns
  have hts := atoms_spec (ws := uX9_kept) B.pre
  have hown : s.vm.findClass RX9 = some m.cls := hown_of B.named rfl
  have hlocks := B.notSynchronized
  have hl := lv_entry ([.ref h0, .int a1, .int a2]) (n := 6) (Nat.le_of_ble_eq_true rfl)
  rw [lg_entry_eq]
  generalize (lg_sl ([.ref h0, .int a1, .int a2]) ++ List.replicate (6 - (lg_sl ([.ref h0, .int a1, .int a2])).length) Slot.unset).toArray = ls at hl ⊢
  have hl : lv_has ls 6 [(0, .ref h0), (1, .int a1), (2, .int a2)] := hl
  refine lv_aload_n hx hb dX9_kept_0 rfl (lv_at hl 0 rfl) ?_
  refine lv_iload_n hx hb dX9_kept_1 rfl (lv_at hl 1 rfl) ?_
  refine vp_callSi (W.runV (As := [.int a1]) (rest := []) ⟨hx, hb, hml, hown, hts⟩ (kX9_hasSlot l dC dI h0 tp sc rd cu im ig sl se sm fc cS s0 s1 s2 s3 a1 ) (cwV 1 hts gX9_kept__X9_hasSlot_V206 rfl rfl rfl hd_yX9_hasSlot ⟨lel 2 2 rfl, lel 43 45 rfl⟩) ⟨pw_fb, rcv_X9 hK hP (q0 := 0) rfl, (pw_use hP hK hN [0, 2] rfl [0] rfl)⟩ rfl rfl hl.1 rfl (lv_room (Nat.le_of_ble_eq_true rfl)) dX9_kept_2 ⟨lel 0 0 rfl, lel 0 0 rfl⟩) (fun r_218 h_r_218 => ?_)
  obtain ⟨b_r_218, nz_r_218⟩ := h_r_218
  have b_r_218 : (0 : Int) ≤ r_218.toInt ∧ r_218.toInt ≤ 1 := b_r_218
  refine lv_if_eq (tgt := 19) hx hb dX9_kept_5 (by decide) (fun c_219 => ?_) (fun c_219 => ?_)
  ·
    have n_c_219 : (r_218.toInt : Int) = 0 := c_eq rfl (by decide) c_219
    have b_r_218 : (0 : Int) ≤ r_218.toInt ∧ r_218.toInt ≤ 0 := r_eq1 b_r_218 (by decide : (0 : Int) ≤ (0 : Int32).toInt ∧ (0 : Int32).toInt ≤ 0) n_c_219 (by decide)
    refine lv_bipush (v := (-2)) hx hb dX9_kept_19 (by decide) ?_
    exact W.iret (v := (-2)) hx hb hr (fun t ht hW => ⟨(-2), rfl, trivial, ht⟩) t_nil dX9_kept_21
  ·
    have n_c_219 : (r_218.toInt : Int) ≠ 0 := c_ne rfl (by decide) c_219
    have b_r_218 : (1 : Int) ≤ r_218.toInt ∧ r_218.toInt ≤ 1 := r_ne1 b_r_218 (by decide : (0 : Int) ≤ (0 : Int32).toInt ∧ (0 : Int32).toInt ≤ 0) n_c_219 (by decide)
    obtain ⟨b_a1, g_220⟩ := nz_r_218 c_219
    refine lv_aload_n hx hb dX9_kept_8 rfl (lv_at hl 0 rfl) ?_
    refine va_get (D := (dC, dI)) (ci := 7) (v := .ref cu) (C := RX9) (T := TX9) (N := 10) hx hb hts iX9_kept_X9 hown hK hP 0 rfl rfl 3 (by decide) (hts (.fieldLink RX9 35 "LuckyTicket" "current" "LLuckyTicket$Roll;") (List.mem_of_getElem? (i := 5) rfl)) (fun _ h9 => h9) rfl dX9_kept_9 ?_
    refine lv_iload_n hx hb dX9_kept_12 rfl (lv_at hl 2 rfl) ?_
    refine vp_callSi (W.runV (As := [.int a2]) (rest := []) ⟨hx, hb, hml, hown, hts⟩ (kX2_hasLaw l dC dI cu ln bs tk lw li fa lu a2 b_ln b_bs b_tk b_lw) (cwV 1 hts gX9_kept__X2_hasLaw_V149 rfl rfl rfl hd_yX2_hasLaw ⟨lel 1 2 rfl, lel 21 45 rfl⟩) ⟨pw_fb, rcv_X2 hK hP (q0 := 1) rfl, (pw_use hP hK hN [1] rfl [] rfl)⟩ rfl rfl hl.1 rfl (lv_room (Nat.le_of_ble_eq_true rfl)) dX9_kept_13 ⟨lel 0 0 rfl, lel 0 0 rfl⟩) (fun r_221 h_r_221 => ?_)
    obtain ⟨b_r_221, nz_r_221⟩ := h_r_221
    have b_r_221 : (0 : Int) ≤ r_221.toInt ∧ r_221.toInt ≤ 1 := b_r_221
    refine lv_if_ne (tgt := 22) hx hb dX9_kept_16 (by decide) (fun c_222 => ?_) (fun c_222 => ?_)
    ·
      have n_c_222 : (r_221.toInt : Int) ≠ 0 := c_ne rfl (by decide) c_222
      have b_r_221 : (1 : Int) ≤ r_221.toInt ∧ r_221.toInt ≤ 1 := r_ne1 b_r_221 (by decide : (0 : Int) ≤ (0 : Int32).toInt ∧ (0 : Int32).toInt ≤ 0) n_c_222 (by decide)
      obtain ⟨b_a2, g_223⟩ := nz_r_221 c_222
      refine lv_aload_n hx hb dX9_kept_22 rfl (lv_at hl 0 rfl) ?_
      refine va_get (D := (dC, dI)) (ci := 7) (v := .ref sl) (C := RX9) (T := TX9) (N := 10) hx hb hts iX9_kept_X9 hown hK hP 0 rfl rfl 6 (by decide) (hts (.fieldLink RX9 50 "LuckyTicket" "slots" "[LLuckyTicket$Row;") (List.mem_of_getElem? (i := 10) rfl)) (fun _ h9 => h9) rfl dX9_kept_23 ?_
      refine lv_iload_n hx hb dX9_kept_26 rfl (lv_at hl 1 rfl) ?_
      refine cutP (σ := Nat × Int32 × Int32 × Nat × ClassId × (Nat → Int64)) (pc2 := 28) (st2 := fun v => .ref v.1 :: []) (cells2 := 0) (slots2 := 0) (fun v ls => ((-1 : Int) ≤ v.2.1.toInt ∧ v.2.1.toInt ≤ 3) ∧ ((0 : Int) ≤ v.2.2.1.toInt ∧ v.2.2.1.toInt ≤ 60) ∧ (va_P (dC, dI) vwCl [(h0, .inr (7, [.ref tp, .ref sc, .ref rd, .ref cu, .ref im, .ref ig, .ref sl, .ref se, .ref sm, .ref fc])), (cu, .inr (1, [.int ln, .int bs, .int tk, .int lw, .int li, .ref fa, .ref lu])), (lu, .inl (cL, nl, .inl fl)), (v.1, .inr (2, [.int v.2.1, .int v.2.2.1, .ref v.2.2.2.1])), (v.2.2.2.1, .inl (v.2.2.2.2.1, 60, .inr (.inl v.2.2.2.2.2)))] s.heap) ∧ (va_K (dC, dI) vwCl [(cL, .int), (v.2.2.2.2.1, .long)] s) ∧ (lv_has ls 6 [(0, .ref h0), (1, .int a1), (2, .int a2)])) (fun v ls hI => ?_) (fun hj_27_224 => ?_)
      ·
        obtain ⟨rw_224, wd_224, rz_224, nu_224, cN_224, fn_224⟩ := v
        obtain ⟨b_wd_224, b_rz_224, hP, hK, hl⟩ := hI
        have b_wd_224 : (-1 : Int) ≤ wd_224.toInt ∧ wd_224.toInt ≤ 3 := b_wd_224
        have b_rz_224 : (0 : Int) ≤ rz_224.toInt ∧ rz_224.toInt ≤ 60 := b_rz_224
        have hP : va_P (dC, dI) vwCl [(h0, .inr (7, [.ref tp, .ref sc, .ref rd, .ref cu, .ref im, .ref ig, .ref sl, .ref se, .ref sm, .ref fc])), (cu, .inr (1, [.int ln, .int bs, .int tk, .int lw, .int li, .ref fa, .ref lu])), (lu, .inl (cL, nl, .inl fl)), (rw_224, .inr (2, [.int wd_224, .int rz_224, .ref nu_224])), (nu_224, .inl (cN_224, 60, .inr (.inl fn_224)))] s.heap := hP
        have hK : va_K (dC, dI) vwCl [(cL, .int), (cN_224, .long)] s := hK
        have hl : lv_has ls 6 [(0, .ref h0), (1, .int a1), (2, .int a2)] := hl
        refine lv_astore_n (lv' := [(3, .ref rw_224), (0, .ref h0), (1, .int a1), (2, .int a2)]) hx hb dX9_kept_28 rfl hl (by decide) rfl (fun ls hl => ?_)
        refine lv_aload_n hx hb dX9_kept_29 rfl (lv_at hl 0 rfl) ?_
        refine vp_callSi (W.runV (As := []) (rest := []) ⟨hx, hb, hml, hown, hts⟩ (kX3_stands l dC dI rw_224 wd_224 rz_224 nu_224 b_wd_224 b_rz_224) (cwV 0 hts gX9_kept__X3_stands_V270 rfl rfl rfl hd_yX3_stands ⟨lel 1 2 rfl, lel 20 45 rfl⟩) ⟨pw_fb, rcv_X3 hK hP (q0 := 3) rfl, (pw_use hP hK hN [3] rfl [] rfl)⟩ rfl rfl hl.1 rfl (lv_room (Nat.le_of_ble_eq_true rfl)) dX9_kept_30 ⟨lel 0 0 rfl, lel 0 0 rfl⟩) (fun r_225 h_r_225 => ?_)
        obtain ⟨b_r_225, nz_r_225⟩ := h_r_225
        have b_r_225 : (0 : Int) ≤ r_225.toInt ∧ r_225.toInt ≤ 1 := b_r_225
        refine lv_if_ne (tgt := 39) hx hb dX9_kept_33 (by decide) (fun c_226 => ?_) (fun c_226 => ?_)
        ·
          have n_c_226 : (r_225.toInt : Int) ≠ 0 := c_ne rfl (by decide) c_226
          have b_r_225 : (1 : Int) ≤ r_225.toInt ∧ r_225.toInt ≤ 1 := r_ne1 b_r_225 (by decide : (0 : Int) ≤ (0 : Int32).toInt ∧ (0 : Int32).toInt ≤ 0) n_c_226 (by decide)
          obtain ⟨b_wd_224, g_227⟩ := nz_r_225 c_226
          refine lv_iconst (v := 0) hx hb dX9_kept_39 (by decide) ?_
          refine lv_istore (lv' := [(4, .int 0), (3, .ref rw_224), (0, .ref h0), (1, .int a1), (2, .int a2)]) hx hb dX9_kept_40 hl (by decide) rfl (fun ls hl => ?_)
          refine lv_iconst (v := 0) hx hb dX9_kept_42 (by decide) ?_
          refine lv_istore (lv' := [(5, .int 0), (4, .int 0), (3, .ref rw_224), (0, .ref h0), (1, .int a1), (2, .int a2)]) hx hb dX9_kept_43 hl (by decide) rfl (fun ls hl => ?_)
          refine loopP (σ := Int32 × Int32) (fun v => (60 - v.1.toInt).toNat) (fun v ls => ((0 : Int) ≤ v.1.toInt ∧ v.1.toInt ≤ 60) ∧ lv_has ls 6 [(5, .int v.1), (4, .int v.2), (3, .ref rw_224), (0, .ref h0), (1, .int a1), (2, .int a2)]) (fun v ls hI ih_45_421 => ?_) ((0 : Int32), (0 : Int32)) ⟨(show (0 : Int) ≤ (0 : Int32).toInt ∧ (0 : Int32).toInt ≤ 60 from (rg_w (by decide : (0 : Int) ≤ (0 : Int32).toInt ∧ (0 : Int32).toInt ≤ 0) (by decide) (by decide))), lv_sub hl [0, 1, 2, 3, 4, 5] rfl⟩
          obtain ⟨y_240, y_241⟩ := v
          obtain ⟨b_y_240, hl⟩ := hI
          have b_y_240 : (0 : Int) ≤ y_240.toInt ∧ y_240.toInt ≤ 60 := b_y_240
          have hl : lv_has ls 6 [(5, .int y_240), (4, .int y_241), (3, .ref rw_224), (0, .ref h0), (1, .int a1), (2, .int a2)] := hl
          refine lv_iload hx hb dX9_kept_45 (lv_at hl 0 rfl) ?_
          refine lv_aload_n hx hb dX9_kept_47 rfl (lv_at hl 2 rfl) ?_
          refine va_getN (own := RX9) (index := 271) (ref := RX3) (host := RX9) (D := (dC, dI)) (ci := 2) (v := .int rz_224) (C := RX3) (T := TX3) (N := 3) hx hb hts iX9_kept_X3 hown hK hP 3 rfl rfl 1 (by decide) (va_Nw.use rfl (hN _ (List.mem_of_getElem? (i := 22) rfl))) (fun _ h9 => h9) rfl dX9_kept_48 ?_
          refine lv_icmp_ge (tgt := 89) hx hb dX9_kept_51 (by decide) (fun c_422 => ?_) (fun c_422 => ?_)
          ·
            have n_c_422 : (rz_224.toInt : Int) ≤ y_240.toInt := c_ge rfl rfl c_422
            refine lv_iload hx hb dX9_kept_89 (lv_at hl 1 rfl) ?_
            exact W.iret (v := y_241) hx hb hr (fun t ht hW => ⟨y_241, rfl, trivial, ht⟩) t_nil dX9_kept_91
          ·
            have n_c_422 : (y_240.toInt : Int) < rz_224.toInt := c_nge rfl rfl c_422
            have b_y_240 : (0 : Int) ≤ y_240.toInt ∧ y_240.toInt ≤ 59 := r_lt1 b_y_240 b_rz_224 n_c_422 (by decide)
            have b_rz_224 : (1 : Int) ≤ rz_224.toInt ∧ rz_224.toInt ≤ 60 := r_lt2 b_y_240 b_rz_224 n_c_422 (by decide)
            refine lv_aload_n hx hb dX9_kept_54 rfl (lv_at hl 3 rfl) ?_
            refine va_get (D := (dC, dI)) (ci := 7) (v := .ref cu) (C := RX9) (T := TX9) (N := 10) hx hb hts iX9_kept_X9 hown hK hP 0 rfl rfl 3 (by decide) (hts (.fieldLink RX9 35 "LuckyTicket" "current" "LLuckyTicket$Roll;") (List.mem_of_getElem? (i := 5) rfl)) (fun _ h9 => h9) rfl dX9_kept_55 ?_
            refine lv_iload_n hx hb dX9_kept_58 rfl (lv_at hl 5 rfl) ?_
            refine lv_aload_n hx hb dX9_kept_59 rfl (lv_at hl 2 rfl) ?_
            refine lv_iload hx hb dX9_kept_60 (lv_at hl 0 rfl) ?_
            refine vp_callSl (W.runV (As := [.int y_240]) (rest := [.int a2, .ref cu]) ⟨hx, hb, hml, hown, hts⟩ (kX3_numberAt l dC dI rw_224 wd_224 rz_224 nu_224 cN_224 fn_224 y_240 (rg_w b_wd_224 (by decide) (by decide)) (rg_w b_rz_224 (by decide) (by decide))) (cwV 1 hts gX9_kept__X3_numberAt_V240 rfl rfl rfl hd_yX3_numberAt ⟨lel 1 2 rfl, lel 21 45 rfl⟩) ⟨pw_fb, rcv_X3 hK hP (q0 := 3) rfl, (pw_use hP hK hN [3, 4] rfl [1] rfl)⟩ rfl rfl hl.1 rfl (lv_room (Nat.le_of_ble_eq_true rfl)) dX9_kept_62 ⟨lel 0 0 rfl, lel 0 0 rfl⟩) (fun r_423 h_r_423 => ?_)
            refine vp_callSi (W.runV (As := [.int a2, .long r_423]) (rest := []) ⟨hx, hb, hml, hown, hts⟩ (kX2_isLuckyNumber l dC dI cu ln bs tk lw li fa lu cL nl fl a2 r_423 b_ln b_bs b_tk b_lw (by omega)) (cwV 2 hts gX9_kept__X2_isLuckyNumber_V272 rfl rfl rfl hd_yX2_isLuckyNumber ⟨lel 2 2 rfl, lel 45 45 rfl⟩) ⟨pw_fb, rcv_X2 hK hP (q0 := 1) rfl, (pw_use hP hK hN [1, 2] rfl [0] rfl)⟩ rfl rfl hl.1 rfl (lv_room (Nat.le_of_ble_eq_true rfl)) dX9_kept_65 ⟨lel 0 0 rfl, lel 0 0 rfl⟩) (fun r_424 h_r_424 => ?_)
            have b_r_424 := h_r_424
            have b_r_424 : (0 : Int) ≤ r_424.toInt ∧ r_424.toInt ≤ 1 := b_r_424
            refine cutP (σ := Int32) (pc2 := 83) (st2 := fun v => []) (cells2 := 0) (slots2 := 0) (fun v ls => lv_has ls 6 [(5, .int y_240), (4, .int v), (3, .ref rw_224), (0, .ref h0), (1, .int a1), (2, .int a2)]) (fun v ls hI => ?_) (fun hj_83_429 => ?_)
            ·
              obtain ⟨y_429, rfl⟩ : ∃ z, z = v := ⟨_, rfl⟩
              have hl := hI
              have hl : lv_has ls 6 [(5, .int y_240), (4, .int y_429), (3, .ref rw_224), (0, .ref h0), (1, .int a1), (2, .int a2)] := hl
              obtain ⟨z_430, e_z_430⟩ : ∃ y : Int32, y = y_240 + 1 := ⟨_, rfl⟩
              refine lv_iinc (v := z_430) (lv' := [(5, .int z_430), (4, .int y_429), (3, .ref rw_224), (0, .ref h0), (1, .int a1), (2, .int a2)]) hx hb dX9_kept_83 hl (k := 0) rfl (by rw [e_z_430]; rfl) (by decide) rfl (fun ls hl => ?_)
              obtain ⟨q_z_430, b_z_430⟩ := ti_add (lo := 1) (hi := 60) e_z_430 rfl (by decide : (1 : Int32).toInt = 1) b_y_240 (by decide : (1 : Int) ≤ (1 : Int32).toInt ∧ (1 : Int32).toInt ≤ 1) (by decide)
              refine lv_goto (tgt := 45) hx hb dX9_kept_86 (by decide) ?_
              exact ih_45_421 (z_430, y_429) _ ⟨(show (0 : Int) ≤ z_430.toInt ∧ z_430.toInt ≤ 60 from (rg_w b_z_430 (by decide) (by decide))), lv_sub hl [0, 1, 2, 3, 4, 5] rfl⟩ (show (60 - z_430.toInt).toNat < (60 - y_240.toInt).toNat by omega)
            ·
              refine lv_if_eq (tgt := 83) hx hb dX9_kept_68 (by decide) (fun c_425 => ?_) (fun c_425 => ?_)
              ·
                have n_c_425 : (r_424.toInt : Int) = 0 := c_eq rfl (by decide) c_425
                have b_r_424 : (0 : Int) ≤ r_424.toInt ∧ r_424.toInt ≤ 0 := r_eq1 b_r_424 (by decide : (0 : Int) ≤ (0 : Int32).toInt ∧ (0 : Int32).toInt ≤ 0) n_c_425 (by decide)
                exact hj_83_429 y_241 _ (lv_sub hl [0, 1, 2, 3, 4, 5] rfl)
              ·
                have n_c_425 : (r_424.toInt : Int) ≠ 0 := c_ne rfl (by decide) c_425
                have b_r_424 : (1 : Int) ≤ r_424.toInt ∧ r_424.toInt ≤ 1 := r_ne1 b_r_424 (by decide : (0 : Int) ≤ (0 : Int32).toInt ∧ (0 : Int32).toInt ≤ 0) n_c_425 (by decide)
                refine lv_aload_n hx hb dX9_kept_71 rfl (lv_at hl 2 rfl) ?_
                refine lv_iload hx hb dX9_kept_72 (lv_at hl 0 rfl) ?_
                refine vp_callSi (W.runV (As := [.int y_240]) (rest := []) ⟨hx, hb, hml, hown, hts⟩ (kX3_isNewAt l dC dI rw_224 wd_224 rz_224 nu_224 cN_224 fn_224 y_240 (rg_w b_wd_224 (by decide) (by decide)) (rg_w b_rz_224 (by decide) (by decide))) (cwV 1 hts gX9_kept__X3_isNewAt_V276 rfl rfl rfl hd_yX3_isNewAt ⟨lel 2 2 rfl, lel 43 45 rfl⟩) ⟨pw_fb, rcv_X3 hK hP (q0 := 3) rfl, (pw_use hP hK hN [3, 4] rfl [1] rfl)⟩ rfl rfl hl.1 rfl (lv_room (Nat.le_of_ble_eq_true rfl)) dX9_kept_74 ⟨lel 0 0 rfl, lel 0 0 rfl⟩) (fun r_431 h_r_431 => ?_)
                have b_r_431 := h_r_431
                have b_r_431 : (0 : Int) ≤ r_431.toInt ∧ r_431.toInt ≤ 1 := b_r_431
                refine lv_if_eq (tgt := 83) hx hb dX9_kept_77 (by decide) (fun c_432 => ?_) (fun c_432 => ?_)
                ·
                  have n_c_432 : (r_431.toInt : Int) = 0 := c_eq rfl (by decide) c_432
                  have b_r_431 : (0 : Int) ≤ r_431.toInt ∧ r_431.toInt ≤ 0 := r_eq1 b_r_431 (by decide : (0 : Int) ≤ (0 : Int32).toInt ∧ (0 : Int32).toInt ≤ 0) n_c_432 (by decide)
                  exact hj_83_429 y_241 _ (lv_sub hl [0, 1, 2, 3, 4, 5] rfl)
                ·
                  have n_c_432 : (r_431.toInt : Int) ≠ 0 := c_ne rfl (by decide) c_432
                  have b_r_431 : (1 : Int) ≤ r_431.toInt ∧ r_431.toInt ≤ 1 := r_ne1 b_r_431 (by decide : (0 : Int) ≤ (0 : Int32).toInt ∧ (0 : Int32).toInt ≤ 0) n_c_432 (by decide)
                  obtain ⟨z_433, e_z_433⟩ : ∃ y : Int32, y = y_241 + 1 := ⟨_, rfl⟩
                  refine lv_iinc (v := z_433) (lv' := [(4, .int z_433), (5, .int y_240), (3, .ref rw_224), (0, .ref h0), (1, .int a1), (2, .int a2)]) hx hb dX9_kept_80 hl (k := 1) rfl (by rw [e_z_433]; rfl) (by decide) rfl (fun ls hl => ?_)
                  exact hj_83_429 z_433 _ (lv_sub hl [1, 0, 2, 3, 4, 5] rfl)
        ·
          have n_c_226 : (r_225.toInt : Int) = 0 := c_eq rfl (by decide) c_226
          have b_r_225 : (0 : Int) ≤ r_225.toInt ∧ r_225.toInt ≤ 0 := r_eq1 b_r_225 (by decide : (0 : Int) ≤ (0 : Int32).toInt ∧ (0 : Int32).toInt ≤ 0) n_c_226 (by decide)
          refine lv_bipush (v := (-6)) hx hb dX9_kept_36 (by decide) ?_
          exact W.iret (v := (-6)) hx hb hr (fun t ht hW => ⟨(-6), rfl, trivial, ht⟩) t_nil dX9_kept_38
      ·
        rcases (show a1.toInt = 0 ∨ a1.toInt = 1 ∨ a1.toInt = 2 ∨ a1.toInt = 3 by omega) with h_434 | h_434 | h_434 | h_434
        ·
          obtain rfl : a1 = 0 := Int32.toInt_inj.mp (h_434.trans (by decide))
          refine va_aldq hx hb hK hP 2 0 rfl rfl (vp_in_lit (by decide)) dX9_kept_27 ?_
          refine W.eq (g2 := F0 m 28 ls (.ref s0 :: [])) (congrArg (fun v => F0 m 28 ls (va_rf v :: [])) (sf4_0 s0 s1 s2 s3)) ?_
          exact hj_27_224 (s0, wd0, rz0, n0, cJ0, g0) _ ⟨b_wd0, b_rz0, hP.sub [0, 1, 11, 3, 7] rfl, hK.sub [5, 1] rfl, hl⟩
        ·
          obtain rfl : a1 = 1 := Int32.toInt_inj.mp (h_434.trans (by decide))
          refine va_aldq hx hb hK hP 2 0 rfl rfl (vp_in_lit (by decide)) dX9_kept_27 ?_
          refine W.eq (g2 := F0 m 28 ls (.ref s1 :: [])) (congrArg (fun v => F0 m 28 ls (va_rf v :: [])) (sf4_1 s0 s1 s2 s3)) ?_
          exact hj_27_224 (s1, wd1, rz1, n1, cJ1, g1) _ ⟨b_wd1, b_rz1, hP.sub [0, 1, 11, 4, 8] rfl, hK.sub [5, 2] rfl, hl⟩
        ·
          obtain rfl : a1 = 2 := Int32.toInt_inj.mp (h_434.trans (by decide))
          refine va_aldq hx hb hK hP 2 0 rfl rfl (vp_in_lit (by decide)) dX9_kept_27 ?_
          refine W.eq (g2 := F0 m 28 ls (.ref s2 :: [])) (congrArg (fun v => F0 m 28 ls (va_rf v :: [])) (sf4_2 s0 s1 s2 s3)) ?_
          exact hj_27_224 (s2, wd2, rz2, n2, cJ2, g2) _ ⟨b_wd2, b_rz2, hP.sub [0, 1, 11, 5, 9] rfl, hK.sub [5, 3] rfl, hl⟩
        ·
          obtain rfl : a1 = 3 := Int32.toInt_inj.mp (h_434.trans (by decide))
          refine va_aldq hx hb hK hP 2 0 rfl rfl (vp_in_lit (by decide)) dX9_kept_27 ?_
          refine W.eq (g2 := F0 m 28 ls (.ref s3 :: [])) (congrArg (fun v => F0 m 28 ls (va_rf v :: [])) (sf4_3 s0 s1 s2 s3)) ?_
          exact hj_27_224 (s3, wd3, rz3, n3, cJ3, g3) _ ⟨b_wd3, b_rz3, hP.sub [0, 1, 11, 6, 10] rfl, hK.sub [5, 4] rfl, hl⟩
    ·
      have n_c_222 : (r_221.toInt : Int) = 0 := c_eq rfl (by decide) c_222
      have b_r_221 : (0 : Int) ≤ r_221.toInt ∧ r_221.toInt ≤ 0 := r_eq1 b_r_221 (by decide : (0 : Int) ≤ (0 : Int32).toInt ∧ (0 : Int32).toInt ≤ 0) n_c_222 (by decide)
      refine lv_bipush (v := (-2)) hx hb dX9_kept_19 (by decide) ?_
      exact W.iret (v := (-2)) hx hb hr (fun t ht hW => ⟨(-2), rfl, trivial, ht⟩) t_nil dX9_kept_21
theorem dX9_refusalOfWorn_0 : decode cX9_refusalOfWorn 0 = .ok (.aload_n 1, 1) := by decide +kernel
theorem dX9_refusalOfWorn_1 : decode cX9_refusalOfWorn 1 = .ok (.invokevirtual 270, 3) := by decide +kernel
theorem dX9_refusalOfWorn_4 : decode cX9_refusalOfWorn 4 = .ok (.ifCond .ne 6, 3) := by decide +kernel
theorem dX9_refusalOfWorn_7 : decode cX9_refusalOfWorn 7 = .ok (.bipush (-6), 2) := by decide +kernel
theorem dX9_refusalOfWorn_9 : decode cX9_refusalOfWorn 9 = .ok (.ireturn, 1) := by decide +kernel
theorem dX9_refusalOfWorn_10 : decode cX9_refusalOfWorn 10 = .ok (.aload_n 1, 1) := by decide +kernel
theorem dX9_refusalOfWorn_11 : decode cX9_refusalOfWorn 11 = .ok (.getfield 271, 3) := by decide +kernel
theorem dX9_refusalOfWorn_14 : decode cX9_refusalOfWorn 14 = .ok (.aload_n 0, 1) := by decide +kernel
theorem dX9_refusalOfWorn_15 : decode cX9_refusalOfWorn 15 = .ok (.getfield 35, 3) := by decide +kernel
theorem dX9_refusalOfWorn_18 : decode cX9_refusalOfWorn 18 = .ok (.getfield 110, 3) := by decide +kernel
theorem dX9_refusalOfWorn_21 : decode cX9_refusalOfWorn 21 = .ok (.if_icmp .ne 7, 3) := by decide +kernel
theorem dX9_refusalOfWorn_24 : decode cX9_refusalOfWorn 24 = .ok (.iconst 0, 1) := by decide +kernel
theorem dX9_refusalOfWorn_25 : decode cX9_refusalOfWorn 25 = .ok (.goto 5, 3) := by decide +kernel
theorem dX9_refusalOfWorn_28 : decode cX9_refusalOfWorn 28 = .ok (.bipush (-7), 2) := by decide +kernel
theorem dX9_refusalOfWorn_30 : decode cX9_refusalOfWorn 30 = .ok (.ireturn, 1) := by decide +kernel
theorem hd_yX9_refusalOfWorn : yX9_refusalOfWorn.cls = RX9 ∧ yX9_refusalOfWorn.cls ≠ "java/lang/invoke/MethodHandle" ∧ yX9_refusalOfWorn.cls ≠ "java/lang/invoke/VarHandle" ∧ (parseMethodDescriptor yX9_refusalOfWorn.desc).map (fun d => d.parameters.length) = some 1 := by decide +kernel
def uX9_refusalOfWorn : List Cond := List.cons (.code yX9_refusalOfWorn cX9_refusalOfWorn 2 (some .int)) (HAppend.hAppend ([.methodLink RX9 270 yX3_stands, .instanceMethod yX3_stands, .selects RX3 yX3_stands yX3_stands, .initialized RX3, .fieldLink RX9 35 "LuckyTicket" "current" "LLuckyTicket$Roll;"] : List Cond) (HAppend.hAppend uX3_stands (HAppend.hAppend wsX30 (HAppend.hAppend wsX90 wsX20))))
theorem iX9_refusalOfWorn_X3 : ∀ w ∈ wsX30, w ∈ uX9_refusalOfWorn := fun _ h => (List.mem_cons_of_mem _ (List.mem_append_right _ (List.mem_append_right _ (List.mem_append_left _ h))))
theorem iX9_refusalOfWorn_X9 : ∀ w ∈ wsX90, w ∈ uX9_refusalOfWorn := fun _ h => (List.mem_cons_of_mem _ (List.mem_append_right _ (List.mem_append_right _ (List.mem_append_right _ (List.mem_append_left _ h)))))
theorem iX9_refusalOfWorn_X2 : ∀ w ∈ wsX20, w ∈ uX9_refusalOfWorn := fun _ h => (List.mem_cons_of_mem _ (List.mem_append_right _ (List.mem_append_right _ (List.mem_append_right _ (List.mem_append_right _ h)))))
theorem guX9_refusalOfWorn : GU uX9_refusalOfWorn := gu_cons (gu_app (by decide +kernel) (gu_ap guX3_stands (gu_ap gws_X3 (gu_ap gws_X9 gws_X2))))
theorem gX9_refusalOfWorn__X3_stands_V270 : GoodIn uX9_refusalOfWorn (wsV RX9 270 RX3 yX3_stands uX3_stands) := gin_V (List.mem_of_getElem? (i := 1) rfl) (List.mem_of_getElem? (i := 2) rfl) (List.mem_of_getElem? (i := 3) rfl) (List.mem_of_getElem? (i := 4) rfl) (fun _ h => (List.mem_cons_of_mem _ (List.mem_append_right _ (List.mem_append_left _ h)))) guX3_stands
set_option maxHeartbeats 4000000 in
set_option maxRecDepth 100000 in
theorem kX9_refusalOfWorn (l : Launch) (dC : Nat → ClassId) (dI : Nat → Nat → Nat) (h0 : Nat) (tp : Nat) (sc : Nat) (rd : Nat) (cu : Nat) (im : Nat) (ig : Nat) (sl : Nat) (se : Nat) (sm : Nat) (fc : Nat) (ln : Int32) (bs : Int32) (tk : Int32) (lw : Int32) (li : Int32) (fa : Nat) (lu : Nat) (rw : Nat) (wd : Int32) (rz : Int32) (nu : Nat) (cN : ClassId) (fn : Nat → Int64) (b_ln : (0 : Int) ≤ ln.toInt ∧ ln.toInt ≤ 12) (b_bs : (0 : Int) ≤ bs.toInt ∧ bs.toInt ≤ 16) (b_tk : (0 : Int) ≤ tk.toInt ∧ tk.toInt ≤ 20000) (b_lw : (0 : Int) ≤ lw.toInt ∧ lw.toInt ≤ 9) (b_wd : (-1 : Int) ≤ wd.toInt ∧ wd.toInt ≤ 3) (b_rz : (0 : Int) ≤ rz.toInt ∧ rz.toInt ≤ 60) : Met l yX9_refusalOfWorn uX9_refusalOfWorn ({ frames := 1, cells := 0, slots := 0, locals := 20 }) (va_Pc [.ref h0, .ref rw] (pw (dC, dI) vwCl [(h0, .inr (7, [.ref tp, .ref sc, .ref rd, .ref cu, .ref im, .ref ig, .ref sl, .ref se, .ref sm, .ref fc])), (cu, .inr (1, [.int ln, .int bs, .int tk, .int lw, .int li, .ref fa, .ref lu])), (rw, .inr (2, [.int wd, .int rz, .ref nu])), (nu, .inl (cN, 60, .inr (.inl fn)))] [(cN, .long)])) (vp_Si (fun r => ((-7 : Int) ≤ r.toInt ∧ r.toInt ≤ 0))) 0 0 (fun _ => False) := by
  refine Met.ofW (cc := cX9_refusalOfWorn) (maxL := 2) (ret := (some .int)) pn_X9 rfl ?_
  intro p e s m args below meth c s₁ B hml hv
  obtain ⟨rfl, hP, hK, hN⟩ := hv
  have hx := B.exec
  have hb := B.bytes
  have hr := B.returns
  have hts := atoms_spec (ws := uX9_refusalOfWorn) B.pre
  have hown : s.vm.findClass RX9 = some m.cls := hown_of B.named rfl
  have hlocks := B.notSynchronized
  have hl := lv_entry ([.ref h0, .ref rw]) (n := 2) (Nat.le_of_ble_eq_true rfl)
  rw [lg_entry_eq]
  generalize (lg_sl ([.ref h0, .ref rw]) ++ List.replicate (2 - (lg_sl ([.ref h0, .ref rw])).length) Slot.unset).toArray = ls at hl ⊢
  have hl : lv_has ls 2 [(0, .ref h0), (1, .ref rw)] := hl
  refine lv_aload_n hx hb dX9_refusalOfWorn_0 rfl (lv_at hl 1 rfl) ?_
  refine vp_callSi (W.runV (As := []) (rest := []) ⟨hx, hb, hml, hown, hts⟩ (kX3_stands l dC dI rw wd rz nu b_wd b_rz) (cwV 0 hts gX9_refusalOfWorn__X3_stands_V270 rfl rfl rfl hd_yX3_stands ⟨lel 1 1 rfl, lel 20 20 rfl⟩) ⟨pw_fb, rcv_X3 hK hP (q0 := 2) rfl, (pw_use hP hK hN [2] rfl [] rfl)⟩ rfl rfl hl.1 rfl (lv_room (Nat.le_of_ble_eq_true rfl)) dX9_refusalOfWorn_1 ⟨lel 0 0 rfl, lel 0 0 rfl⟩) (fun r_5 h_r_5 => ?_)
  obtain ⟨b_r_5, nz_r_5⟩ := h_r_5
  have b_r_5 : (0 : Int) ≤ r_5.toInt ∧ r_5.toInt ≤ 1 := b_r_5
  refine lv_if_ne (tgt := 10) hx hb dX9_refusalOfWorn_4 (by decide) (fun c_6 => ?_) (fun c_6 => ?_)
  ·
    have n_c_6 : (r_5.toInt : Int) ≠ 0 := c_ne rfl (by decide) c_6
    have b_r_5 : (1 : Int) ≤ r_5.toInt ∧ r_5.toInt ≤ 1 := r_ne1 b_r_5 (by decide : (0 : Int) ≤ (0 : Int32).toInt ∧ (0 : Int32).toInt ≤ 0) n_c_6 (by decide)
    obtain ⟨b_wd, g_7⟩ := nz_r_5 c_6
    refine lv_aload_n hx hb dX9_refusalOfWorn_10 rfl (lv_at hl 1 rfl) ?_
    refine va_getN (own := RX9) (index := 271) (ref := RX3) (host := RX9) (D := (dC, dI)) (ci := 2) (v := .int rz) (C := RX3) (T := TX3) (N := 3) hx hb hts iX9_refusalOfWorn_X3 hown hK hP 2 rfl rfl 1 (by decide) (va_Nw.use rfl (hN _ (List.mem_of_getElem? (i := 22) rfl))) (fun _ h9 => h9) rfl dX9_refusalOfWorn_11 ?_
    refine lv_aload_n hx hb dX9_refusalOfWorn_14 rfl (lv_at hl 0 rfl) ?_
    refine va_get (D := (dC, dI)) (ci := 7) (v := .ref cu) (C := RX9) (T := TX9) (N := 10) hx hb hts iX9_refusalOfWorn_X9 hown hK hP 0 rfl rfl 3 (by decide) (hts (.fieldLink RX9 35 "LuckyTicket" "current" "LLuckyTicket$Roll;") (List.mem_of_getElem? (i := 5) rfl)) (fun _ h9 => h9) rfl dX9_refusalOfWorn_15 ?_
    refine va_getN (own := RX9) (index := 110) (ref := RX2) (host := RX9) (D := (dC, dI)) (ci := 1) (v := .int ln) (C := RX2) (T := TX2) (N := 7) hx hb hts iX9_refusalOfWorn_X2 hown hK hP 1 rfl rfl 0 (by decide) (va_Nw.use rfl (hN _ (List.mem_of_getElem? (i := 14) rfl))) (fun _ h9 => h9) rfl dX9_refusalOfWorn_18 ?_
    refine lv_icmp_ne (tgt := 28) hx hb dX9_refusalOfWorn_21 (by decide) (fun c_8 => ?_) (fun c_8 => ?_)
    ·
      have n_c_8 : (rz.toInt : Int) ≠ ln.toInt := c_ne rfl rfl c_8
      refine lv_bipush (v := (-7)) hx hb dX9_refusalOfWorn_28 (by decide) ?_
      exact W.iret (v := (-7)) hx hb hr (fun t ht hW => ⟨(-7), rfl, (rg_w (by decide : (-7 : Int) ≤ ((-7) : Int32).toInt ∧ ((-7) : Int32).toInt ≤ -7) (by decide) (by decide)), ht⟩) t_nil dX9_refusalOfWorn_30
    ·
      have n_c_8 : (rz.toInt : Int) = ln.toInt := c_eq rfl rfl c_8
      have b_rz : (0 : Int) ≤ rz.toInt ∧ rz.toInt ≤ 12 := r_eq1 b_rz b_ln n_c_8 (by decide)
      refine lv_iconst (v := 0) hx hb dX9_refusalOfWorn_24 (by decide) ?_
      refine lv_goto (tgt := 30) hx hb dX9_refusalOfWorn_25 (by decide) ?_
      exact W.iret (v := 0) hx hb hr (fun t ht hW => ⟨0, rfl, (rg_w (by decide : (0 : Int) ≤ (0 : Int32).toInt ∧ (0 : Int32).toInt ≤ 0) (by decide) (by decide)), ht⟩) t_nil dX9_refusalOfWorn_30
  ·
    have n_c_6 : (r_5.toInt : Int) = 0 := c_eq rfl (by decide) c_6
    have b_r_5 : (0 : Int) ≤ r_5.toInt ∧ r_5.toInt ≤ 0 := r_eq1 b_r_5 (by decide : (0 : Int) ≤ (0 : Int32).toInt ∧ (0 : Int32).toInt ≤ 0) n_c_6 (by decide)
    refine lv_bipush (v := (-6)) hx hb dX9_refusalOfWorn_7 (by decide) ?_
    exact W.iret (v := (-6)) hx hb hr (fun t ht hW => ⟨(-6), rfl, (rg_w (by decide : (-6 : Int) ≤ ((-6) : Int32).toInt ∧ ((-6) : Int32).toInt ≤ -6) (by decide) (by decide)), ht⟩) t_nil dX9_refusalOfWorn_9
theorem dX9_gonePlaces_0 : decode cX9_gonePlaces 0 = .ok (.iconst 0, 1) := by decide +kernel
theorem dX9_gonePlaces_1 : decode cX9_gonePlaces 1 = .ok (.istore_n 2, 1) := by decide +kernel
theorem dX9_gonePlaces_2 : decode cX9_gonePlaces 2 = .ok (.iconst 0, 1) := by decide +kernel
theorem dX9_gonePlaces_3 : decode cX9_gonePlaces 3 = .ok (.istore_n 3, 1) := by decide +kernel
theorem dX9_gonePlaces_4 : decode cX9_gonePlaces 4 = .ok (.iload_n 3, 1) := by decide +kernel
theorem dX9_gonePlaces_5 : decode cX9_gonePlaces 5 = .ok (.aload_n 0, 1) := by decide +kernel
theorem dX9_gonePlaces_6 : decode cX9_gonePlaces 6 = .ok (.getfield 35, 3) := by decide +kernel
theorem dX9_gonePlaces_9 : decode cX9_gonePlaces 9 = .ok (.getfield 110, 3) := by decide +kernel
theorem dX9_gonePlaces_12 : decode cX9_gonePlaces 12 = .ok (.if_icmp .ge 30, 3) := by decide +kernel
theorem dX9_gonePlaces_15 : decode cX9_gonePlaces 15 = .ok (.aload_n 0, 1) := by decide +kernel
theorem dX9_gonePlaces_16 : decode cX9_gonePlaces 16 = .ok (.getfield 35, 3) := by decide +kernel
theorem dX9_gonePlaces_19 : decode cX9_gonePlaces 19 = .ok (.aload_n 1, 1) := by decide +kernel
theorem dX9_gonePlaces_20 : decode cX9_gonePlaces 20 = .ok (.iload_n 3, 1) := by decide +kernel
theorem dX9_gonePlaces_21 : decode cX9_gonePlaces 21 = .ok (.invokevirtual 240, 3) := by decide +kernel
theorem dX9_gonePlaces_24 : decode cX9_gonePlaces 24 = .ok (.invokevirtual 236, 3) := by decide +kernel
theorem dX9_gonePlaces_27 : decode cX9_gonePlaces 27 = .ok (.ifCond .ne 9, 3) := by decide +kernel
theorem dX9_gonePlaces_30 : decode cX9_gonePlaces 30 = .ok (.iload_n 2, 1) := by decide +kernel
theorem dX9_gonePlaces_31 : decode cX9_gonePlaces 31 = .ok (.iconst 1, 1) := by decide +kernel
theorem dX9_gonePlaces_32 : decode cX9_gonePlaces 32 = .ok (.iload_n 3, 1) := by decide +kernel
theorem dX9_gonePlaces_33 : decode cX9_gonePlaces 33 = .ok (.ishl, 1) := by decide +kernel
theorem dX9_gonePlaces_34 : decode cX9_gonePlaces 34 = .ok (.ior, 1) := by decide +kernel
theorem dX9_gonePlaces_35 : decode cX9_gonePlaces 35 = .ok (.istore_n 2, 1) := by decide +kernel
theorem dX9_gonePlaces_36 : decode cX9_gonePlaces 36 = .ok (.iinc 3 1, 3) := by decide +kernel
theorem dX9_gonePlaces_39 : decode cX9_gonePlaces 39 = .ok (.goto (-35), 3) := by decide +kernel
theorem dX9_gonePlaces_42 : decode cX9_gonePlaces 42 = .ok (.iload_n 2, 1) := by decide +kernel
theorem dX9_gonePlaces_43 : decode cX9_gonePlaces 43 = .ok (.ireturn, 1) := by decide +kernel
theorem hd_yX9_gonePlaces : yX9_gonePlaces.cls = RX9 ∧ yX9_gonePlaces.cls ≠ "java/lang/invoke/MethodHandle" ∧ yX9_gonePlaces.cls ≠ "java/lang/invoke/VarHandle" ∧ (parseMethodDescriptor yX9_gonePlaces.desc).map (fun d => d.parameters.length) = some 1 := by decide +kernel
def uX9_gonePlaces : List Cond := List.cons (.code yX9_gonePlaces cX9_gonePlaces 4 (some .int)) (HAppend.hAppend ([.fieldLink RX9 35 "LuckyTicket" "current" "LLuckyTicket$Roll;", .methodLink RX9 240 yX3_numberAt, .instanceMethod yX3_numberAt, .selects RX3 yX3_numberAt yX3_numberAt, .initialized RX3, .methodLink RX9 236 yX2_hasFigure, .instanceMethod yX2_hasFigure, .selects RX2 yX2_hasFigure yX2_hasFigure, .initialized RX2] : List Cond) (HAppend.hAppend uX3_numberAt (HAppend.hAppend uX2_hasFigure (HAppend.hAppend wsX90 wsX20))))
theorem iX9_gonePlaces_X9 : ∀ w ∈ wsX90, w ∈ uX9_gonePlaces := fun _ h => (List.mem_cons_of_mem _ (List.mem_append_right _ (List.mem_append_right _ (List.mem_append_right _ (List.mem_append_left _ h)))))
theorem iX9_gonePlaces_X2 : ∀ w ∈ wsX20, w ∈ uX9_gonePlaces := fun _ h => (List.mem_cons_of_mem _ (List.mem_append_right _ (List.mem_append_right _ (List.mem_append_right _ (List.mem_append_right _ h)))))
theorem guX9_gonePlaces : GU uX9_gonePlaces := gu_cons (gu_app (by decide +kernel) (gu_ap guX3_numberAt (gu_ap guX2_hasFigure (gu_ap gws_X9 gws_X2))))
theorem gX9_gonePlaces__X3_numberAt_V240 : GoodIn uX9_gonePlaces (wsV RX9 240 RX3 yX3_numberAt uX3_numberAt) := gin_V (List.mem_of_getElem? (i := 2) rfl) (List.mem_of_getElem? (i := 3) rfl) (List.mem_of_getElem? (i := 4) rfl) (List.mem_of_getElem? (i := 5) rfl) (fun _ h => (List.mem_cons_of_mem _ (List.mem_append_right _ (List.mem_append_left _ h)))) guX3_numberAt
theorem gX9_gonePlaces__X2_hasFigure_V236 : GoodIn uX9_gonePlaces (wsV RX9 236 RX2 yX2_hasFigure uX2_hasFigure) := gin_V (List.mem_of_getElem? (i := 6) rfl) (List.mem_of_getElem? (i := 7) rfl) (List.mem_of_getElem? (i := 8) rfl) (List.mem_of_getElem? (i := 9) rfl) (fun _ h => (List.mem_cons_of_mem _ (List.mem_append_right _ (List.mem_append_right _ (List.mem_append_left _ h))))) guX2_hasFigure
set_option maxHeartbeats 4000000 in
set_option maxRecDepth 100000 in
theorem kX9_gonePlaces (l : Launch) (dC : Nat → ClassId) (dI : Nat → Nat → Nat) (h0 : Nat) (tp : Nat) (sc : Nat) (rd : Nat) (cu : Nat) (im : Nat) (ig : Nat) (sl : Nat) (se : Nat) (sm : Nat) (fc : Nat) (ln : Int32) (bs : Int32) (tk : Int32) (lw : Int32) (li : Int32) (fa : Nat) (lu : Nat) (rw : Nat) (wd : Int32) (rz : Int32) (nu : Nat) (cN : ClassId) (fn : Nat → Int64) (b_ln : (0 : Int) ≤ ln.toInt ∧ ln.toInt ≤ 12) (b_bs : (0 : Int) ≤ bs.toInt ∧ bs.toInt ≤ 16) (b_tk : (0 : Int) ≤ tk.toInt ∧ tk.toInt ≤ 20000) (b_lw : (0 : Int) ≤ lw.toInt ∧ lw.toInt ≤ 9) (b_wd : (-1 : Int) ≤ wd.toInt ∧ wd.toInt ≤ 3) (b_rz : (0 : Int) ≤ rz.toInt ∧ rz.toInt ≤ 60) : Met l yX9_gonePlaces uX9_gonePlaces ({ frames := 1, cells := 0, slots := 0, locals := 22 }) (va_Pc [.ref h0, .ref rw] (pw (dC, dI) vwCl [(h0, .inr (7, [.ref tp, .ref sc, .ref rd, .ref cu, .ref im, .ref ig, .ref sl, .ref se, .ref sm, .ref fc])), (cu, .inr (1, [.int ln, .int bs, .int tk, .int lw, .int li, .ref fa, .ref lu])), (rw, .inr (2, [.int wd, .int rz, .ref nu])), (nu, .inl (cN, 60, .inr (.inl fn)))] [(cN, .long)])) (vp_Si (fun r => True)) 0 0 (fun _ => False) := by
  refine Met.ofW (cc := cX9_gonePlaces) (maxL := 4) (ret := (some .int)) pn_X9 rfl ?_
  intro p e s m args below meth c s₁ B hml hv
  obtain ⟨rfl, hP, hK, hN⟩ := hv
  have hx := B.exec
  have hb := B.bytes
  have hr := B.returns
  have hts := atoms_spec (ws := uX9_gonePlaces) B.pre
  have hown : s.vm.findClass RX9 = some m.cls := hown_of B.named rfl
  have hlocks := B.notSynchronized
  have hl := lv_entry ([.ref h0, .ref rw]) (n := 4) (Nat.le_of_ble_eq_true rfl)
  rw [lg_entry_eq]
  generalize (lg_sl ([.ref h0, .ref rw]) ++ List.replicate (4 - (lg_sl ([.ref h0, .ref rw])).length) Slot.unset).toArray = ls at hl ⊢
  have hl : lv_has ls 4 [(0, .ref h0), (1, .ref rw)] := hl
  refine lv_iconst (v := 0) hx hb dX9_gonePlaces_0 (by decide) ?_
  refine lv_istore_n (lv' := [(2, .int 0), (0, .ref h0), (1, .ref rw)]) hx hb dX9_gonePlaces_1 rfl hl (by decide) rfl (fun ls hl => ?_)
  refine lv_iconst (v := 0) hx hb dX9_gonePlaces_2 (by decide) ?_
  refine lv_istore_n (lv' := [(3, .int 0), (2, .int 0), (0, .ref h0), (1, .ref rw)]) hx hb dX9_gonePlaces_3 rfl hl (by decide) rfl (fun ls hl => ?_)
  refine loopP (σ := Int32 × Int32) (fun v => (12 - v.1.toInt).toNat) (fun v ls => ((0 : Int) ≤ v.1.toInt ∧ v.1.toInt ≤ 12) ∧ lv_has ls 4 [(3, .int v.1), (2, .int v.2), (0, .ref h0), (1, .ref rw)]) (fun v ls hI ih_4_94 => ?_) ((0 : Int32), (0 : Int32)) ⟨(show (0 : Int) ≤ (0 : Int32).toInt ∧ (0 : Int32).toInt ≤ 12 from (rg_w (by decide : (0 : Int) ≤ (0 : Int32).toInt ∧ (0 : Int32).toInt ≤ 0) (by decide) (by decide))), lv_sub hl [0, 1, 2, 3] rfl⟩
  obtain ⟨y_63, y_64⟩ := v
  obtain ⟨b_y_63, hl⟩ := hI
  have b_y_63 : (0 : Int) ≤ y_63.toInt ∧ y_63.toInt ≤ 12 := b_y_63
  have hl : lv_has ls 4 [(3, .int y_63), (2, .int y_64), (0, .ref h0), (1, .ref rw)] := hl
  refine lv_iload_n hx hb dX9_gonePlaces_4 rfl (lv_at hl 0 rfl) ?_
  refine lv_aload_n hx hb dX9_gonePlaces_5 rfl (lv_at hl 2 rfl) ?_
  refine va_get (D := (dC, dI)) (ci := 7) (v := .ref cu) (C := RX9) (T := TX9) (N := 10) hx hb hts iX9_gonePlaces_X9 hown hK hP 0 rfl rfl 3 (by decide) (hts (.fieldLink RX9 35 "LuckyTicket" "current" "LLuckyTicket$Roll;") (List.mem_of_getElem? (i := 1) rfl)) (fun _ h9 => h9) rfl dX9_gonePlaces_6 ?_
  refine va_getN (own := RX9) (index := 110) (ref := RX2) (host := RX9) (D := (dC, dI)) (ci := 1) (v := .int ln) (C := RX2) (T := TX2) (N := 7) hx hb hts iX9_gonePlaces_X2 hown hK hP 1 rfl rfl 0 (by decide) (va_Nw.use rfl (hN _ (List.mem_of_getElem? (i := 14) rfl))) (fun _ h9 => h9) rfl dX9_gonePlaces_9 ?_
  refine lv_icmp_ge (tgt := 42) hx hb dX9_gonePlaces_12 (by decide) (fun c_95 => ?_) (fun c_95 => ?_)
  ·
    have n_c_95 : (ln.toInt : Int) ≤ y_63.toInt := c_ge rfl rfl c_95
    refine lv_iload_n hx hb dX9_gonePlaces_42 rfl (lv_at hl 1 rfl) ?_
    exact W.iret (v := y_64) hx hb hr (fun t ht hW => ⟨y_64, rfl, trivial, ht⟩) t_nil dX9_gonePlaces_43
  ·
    have n_c_95 : (y_63.toInt : Int) < ln.toInt := c_nge rfl rfl c_95
    have b_y_63 : (0 : Int) ≤ y_63.toInt ∧ y_63.toInt ≤ 11 := r_lt1 b_y_63 b_ln n_c_95 (by decide)
    have b_ln : (1 : Int) ≤ ln.toInt ∧ ln.toInt ≤ 12 := r_lt2 b_y_63 b_ln n_c_95 (by decide)
    refine lv_aload_n hx hb dX9_gonePlaces_15 rfl (lv_at hl 2 rfl) ?_
    refine va_get (D := (dC, dI)) (ci := 7) (v := .ref cu) (C := RX9) (T := TX9) (N := 10) hx hb hts iX9_gonePlaces_X9 hown hK hP 0 rfl rfl 3 (by decide) (hts (.fieldLink RX9 35 "LuckyTicket" "current" "LLuckyTicket$Roll;") (List.mem_of_getElem? (i := 1) rfl)) (fun _ h9 => h9) rfl dX9_gonePlaces_16 ?_
    refine lv_aload_n hx hb dX9_gonePlaces_19 rfl (lv_at hl 3 rfl) ?_
    refine lv_iload_n hx hb dX9_gonePlaces_20 rfl (lv_at hl 0 rfl) ?_
    refine vp_callSl (W.runV (As := [.int y_63]) (rest := [.ref cu]) ⟨hx, hb, hml, hown, hts⟩ (kX3_numberAt l dC dI rw wd rz nu cN fn y_63 b_wd b_rz) (cwV 1 hts gX9_gonePlaces__X3_numberAt_V240 rfl rfl rfl hd_yX3_numberAt ⟨lel 1 1 rfl, lel 21 22 rfl⟩) ⟨pw_fb, rcv_X3 hK hP (q0 := 2) rfl, (pw_use hP hK hN [2, 3] rfl [0] rfl)⟩ rfl rfl hl.1 rfl (lv_room (Nat.le_of_ble_eq_true rfl)) dX9_gonePlaces_21 ⟨lel 0 0 rfl, lel 0 0 rfl⟩) (fun r_96 h_r_96 => ?_)
    refine vp_callSi (W.runV (As := [.long r_96]) (rest := []) ⟨hx, hb, hml, hown, hts⟩ (kX2_hasFigure l dC dI cu ln bs tk lw li fa lu r_96 (rg_w b_ln (by decide) (by decide)) b_bs b_tk b_lw) (cwV 1 hts gX9_gonePlaces__X2_hasFigure_V236 rfl rfl rfl hd_yX2_hasFigure ⟨lel 1 1 rfl, lel 22 22 rfl⟩) ⟨pw_fb, rcv_X2 hK hP (q0 := 1) rfl, (pw_use hP hK hN [1] rfl [] rfl)⟩ rfl rfl hl.1 rfl (lv_room (Nat.le_of_ble_eq_true rfl)) dX9_gonePlaces_24 ⟨lel 0 0 rfl, lel 0 0 rfl⟩) (fun r_97 h_r_97 => ?_)
    have b_r_97 := h_r_97
    have b_r_97 : (0 : Int) ≤ r_97.toInt ∧ r_97.toInt ≤ 1 := b_r_97
    refine cutP (σ := Int32) (pc2 := 36) (st2 := fun v => []) (cells2 := 0) (slots2 := 0) (fun v ls => lv_has ls 4 [(3, .int y_63), (2, .int v), (0, .ref h0), (1, .ref rw)]) (fun v ls hI => ?_) (fun hj_36_101 => ?_)
    ·
      obtain ⟨y_101, rfl⟩ : ∃ z, z = v := ⟨_, rfl⟩
      have hl := hI
      have hl : lv_has ls 4 [(3, .int y_63), (2, .int y_101), (0, .ref h0), (1, .ref rw)] := hl
      obtain ⟨z_102, e_z_102⟩ : ∃ y : Int32, y = y_63 + 1 := ⟨_, rfl⟩
      refine lv_iinc (v := z_102) (lv' := [(3, .int z_102), (2, .int y_101), (0, .ref h0), (1, .ref rw)]) hx hb dX9_gonePlaces_36 hl (k := 0) rfl (by rw [e_z_102]; rfl) (by decide) rfl (fun ls hl => ?_)
      obtain ⟨q_z_102, b_z_102⟩ := ti_add (lo := 1) (hi := 12) e_z_102 rfl (by decide : (1 : Int32).toInt = 1) b_y_63 (by decide : (1 : Int) ≤ (1 : Int32).toInt ∧ (1 : Int32).toInt ≤ 1) (by decide)
      refine lv_goto (tgt := 4) hx hb dX9_gonePlaces_39 (by decide) ?_
      exact ih_4_94 (z_102, y_101) _ ⟨(show (0 : Int) ≤ z_102.toInt ∧ z_102.toInt ≤ 12 from (rg_w b_z_102 (by decide) (by decide))), lv_sub hl [0, 1, 2, 3] rfl⟩ (show (12 - z_102.toInt).toNat < (12 - y_63.toInt).toNat by omega)
    ·
      refine lv_if_ne (tgt := 36) hx hb dX9_gonePlaces_27 (by decide) (fun c_98 => ?_) (fun c_98 => ?_)
      ·
        have n_c_98 : (r_97.toInt : Int) ≠ 0 := c_ne rfl (by decide) c_98
        have b_r_97 : (1 : Int) ≤ r_97.toInt ∧ r_97.toInt ≤ 1 := r_ne1 b_r_97 (by decide : (0 : Int) ≤ (0 : Int32).toInt ∧ (0 : Int32).toInt ≤ 0) n_c_98 (by decide)
        exact hj_36_101 y_64 _ (lv_sub hl [0, 1, 2, 3] rfl)
      ·
        have n_c_98 : (r_97.toInt : Int) = 0 := c_eq rfl (by decide) c_98
        have b_r_97 : (0 : Int) ≤ r_97.toInt ∧ r_97.toInt ≤ 0 := r_eq1 b_r_97 (by decide : (0 : Int) ≤ (0 : Int32).toInt ∧ (0 : Int32).toInt ≤ 0) n_c_98 (by decide)
        refine lv_iload_n hx hb dX9_gonePlaces_30 rfl (lv_at hl 1 rfl) ?_
        refine lv_iconst (v := 1) hx hb dX9_gonePlaces_31 (by decide) ?_
        refine lv_iload_n hx hb dX9_gonePlaces_32 rfl (lv_at hl 0 rfl) ?_
        refine lv_ishl hx hb dX9_gonePlaces_33 ?_
        refine lv_topi (fun z_103 e_z_103 => ?_)
        refine lv_ior hx hb dX9_gonePlaces_34 ?_
        refine lv_topi (fun z_104 e_z_104 => ?_)
        refine lv_istore_n (lv' := [(2, .int z_104), (3, .int y_63), (0, .ref h0), (1, .ref rw)]) hx hb dX9_gonePlaces_35 rfl hl (by decide) rfl (fun ls hl => ?_)
        exact hj_36_101 z_104 _ (lv_sub hl [1, 0, 2, 3] rfl)
theorem dX9_knownPlaces_0 : decode cX9_knownPlaces 0 = .ok (.lconst 0, 1) := by decide +kernel
theorem dX9_knownPlaces_1 : decode cX9_knownPlaces 1 = .ok (.lstore_n 2, 1) := by decide +kernel
theorem dX9_knownPlaces_2 : decode cX9_knownPlaces 2 = .ok (.iconst 0, 1) := by decide +kernel
theorem dX9_knownPlaces_3 : decode cX9_knownPlaces 3 = .ok (.istore 4, 2) := by decide +kernel
theorem dX9_knownPlaces_5 : decode cX9_knownPlaces 5 = .ok (.iload 4, 2) := by decide +kernel
theorem dX9_knownPlaces_7 : decode cX9_knownPlaces 7 = .ok (.aload_n 0, 1) := by decide +kernel
theorem dX9_knownPlaces_8 : decode cX9_knownPlaces 8 = .ok (.getfield 35, 3) := by decide +kernel
theorem dX9_knownPlaces_11 : decode cX9_knownPlaces 11 = .ok (.getfield 110, 3) := by decide +kernel
theorem dX9_knownPlaces_14 : decode cX9_knownPlaces 14 = .ok (.if_icmp .ge 40, 3) := by decide +kernel
theorem dX9_knownPlaces_17 : decode cX9_knownPlaces 17 = .ok (.aload_n 0, 1) := by decide +kernel
theorem dX9_knownPlaces_18 : decode cX9_knownPlaces 18 = .ok (.getfield 35, 3) := by decide +kernel
theorem dX9_knownPlaces_21 : decode cX9_knownPlaces 21 = .ok (.aload_n 1, 1) := by decide +kernel
theorem dX9_knownPlaces_22 : decode cX9_knownPlaces 22 = .ok (.iload 4, 2) := by decide +kernel
theorem dX9_knownPlaces_24 : decode cX9_knownPlaces 24 = .ok (.invokevirtual 240, 3) := by decide +kernel
theorem dX9_knownPlaces_27 : decode cX9_knownPlaces 27 = .ok (.invokevirtual 236, 3) := by decide +kernel
theorem dX9_knownPlaces_30 : decode cX9_knownPlaces 30 = .ok (.ifCond .eq 18, 3) := by decide +kernel
theorem dX9_knownPlaces_33 : decode cX9_knownPlaces 33 = .ok (.lload_n 2, 1) := by decide +kernel
theorem dX9_knownPlaces_34 : decode cX9_knownPlaces 34 = .ok (.aload_n 0, 1) := by decide +kernel
theorem dX9_knownPlaces_35 : decode cX9_knownPlaces 35 = .ok (.getfield 35, 3) := by decide +kernel
theorem dX9_knownPlaces_38 : decode cX9_knownPlaces 38 = .ok (.getfield 110, 3) := by decide +kernel
theorem dX9_knownPlaces_41 : decode cX9_knownPlaces 41 = .ok (.iload 4, 2) := by decide +kernel
theorem dX9_knownPlaces_43 : decode cX9_knownPlaces 43 = .ok (.invokestatic 243, 3) := by decide +kernel
theorem dX9_knownPlaces_46 : decode cX9_knownPlaces 46 = .ok (.lor, 1) := by decide +kernel
theorem dX9_knownPlaces_47 : decode cX9_knownPlaces 47 = .ok (.lstore_n 2, 1) := by decide +kernel
theorem dX9_knownPlaces_48 : decode cX9_knownPlaces 48 = .ok (.iinc 4 1, 3) := by decide +kernel
theorem dX9_knownPlaces_51 : decode cX9_knownPlaces 51 = .ok (.goto (-46), 3) := by decide +kernel
theorem dX9_knownPlaces_54 : decode cX9_knownPlaces 54 = .ok (.lload_n 2, 1) := by decide +kernel
theorem dX9_knownPlaces_55 : decode cX9_knownPlaces 55 = .ok (.lreturn, 1) := by decide +kernel
theorem hd_yX9_knownPlaces : yX9_knownPlaces.cls = RX9 ∧ yX9_knownPlaces.cls ≠ "java/lang/invoke/MethodHandle" ∧ yX9_knownPlaces.cls ≠ "java/lang/invoke/VarHandle" ∧ (parseMethodDescriptor yX9_knownPlaces.desc).map (fun d => d.parameters.length) = some 1 := by decide +kernel
def uX9_knownPlaces : List Cond := List.cons (.code yX9_knownPlaces cX9_knownPlaces 5 (some .long)) (HAppend.hAppend ([.fieldLink RX9 35 "LuckyTicket" "current" "LLuckyTicket$Roll;", .methodLink RX9 240 yX3_numberAt, .instanceMethod yX3_numberAt, .selects RX3 yX3_numberAt yX3_numberAt, .initialized RX3, .methodLink RX9 236 yX2_hasFigure, .instanceMethod yX2_hasFigure, .selects RX2 yX2_hasFigure yX2_hasFigure, .initialized RX2, .methodLink RX9 243 yX0_maskAt, .static yX0_maskAt, .initialized RX0] : List Cond) (HAppend.hAppend uX3_numberAt (HAppend.hAppend uX2_hasFigure (HAppend.hAppend uX0_maskAt (HAppend.hAppend wsX90 wsX20)))))
theorem iX9_knownPlaces_X9 : ∀ w ∈ wsX90, w ∈ uX9_knownPlaces := fun _ h => (List.mem_cons_of_mem _ (List.mem_append_right _ (List.mem_append_right _ (List.mem_append_right _ (List.mem_append_right _ (List.mem_append_left _ h))))))
theorem iX9_knownPlaces_X2 : ∀ w ∈ wsX20, w ∈ uX9_knownPlaces := fun _ h => (List.mem_cons_of_mem _ (List.mem_append_right _ (List.mem_append_right _ (List.mem_append_right _ (List.mem_append_right _ (List.mem_append_right _ h))))))
theorem guX9_knownPlaces : GU uX9_knownPlaces := gu_cons (gu_app (by decide +kernel) (gu_ap guX3_numberAt (gu_ap guX2_hasFigure (gu_ap guX0_maskAt (gu_ap gws_X9 gws_X2)))))
theorem gX9_knownPlaces__X3_numberAt_V240 : GoodIn uX9_knownPlaces (wsV RX9 240 RX3 yX3_numberAt uX3_numberAt) := gin_V (List.mem_of_getElem? (i := 2) rfl) (List.mem_of_getElem? (i := 3) rfl) (List.mem_of_getElem? (i := 4) rfl) (List.mem_of_getElem? (i := 5) rfl) (fun _ h => (List.mem_cons_of_mem _ (List.mem_append_right _ (List.mem_append_left _ h)))) guX3_numberAt
theorem gX9_knownPlaces__X2_hasFigure_V236 : GoodIn uX9_knownPlaces (wsV RX9 236 RX2 yX2_hasFigure uX2_hasFigure) := gin_V (List.mem_of_getElem? (i := 6) rfl) (List.mem_of_getElem? (i := 7) rfl) (List.mem_of_getElem? (i := 8) rfl) (List.mem_of_getElem? (i := 9) rfl) (fun _ h => (List.mem_cons_of_mem _ (List.mem_append_right _ (List.mem_append_right _ (List.mem_append_left _ h))))) guX2_hasFigure
theorem gX9_knownPlaces__X0_maskAt_S243 : GoodIn uX9_knownPlaces (va_wsS RX9 243 yX0_maskAt uX0_maskAt) := gin_S (List.mem_of_getElem? (i := 10) rfl) (List.mem_of_getElem? (i := 11) rfl) (List.mem_of_getElem? (i := 12) rfl) (fun _ h => (List.mem_cons_of_mem _ (List.mem_append_right _ (List.mem_append_right _ (List.mem_append_right _ (List.mem_append_left _ h)))))) guX0_maskAt
set_option maxHeartbeats 4000000 in
set_option maxRecDepth 100000 in
theorem kX9_knownPlaces (l : Launch) (dC : Nat → ClassId) (dI : Nat → Nat → Nat) (h0 : Nat) (tp : Nat) (sc : Nat) (rd : Nat) (cu : Nat) (im : Nat) (ig : Nat) (sl : Nat) (se : Nat) (sm : Nat) (fc : Nat) (ln : Int32) (bs : Int32) (tk : Int32) (lw : Int32) (li : Int32) (fa : Nat) (lu : Nat) (rw : Nat) (wd : Int32) (rz : Int32) (nu : Nat) (cN : ClassId) (fn : Nat → Int64) (b_ln : (0 : Int) ≤ ln.toInt ∧ ln.toInt ≤ 12) (b_bs : (0 : Int) ≤ bs.toInt ∧ bs.toInt ≤ 16) (b_tk : (0 : Int) ≤ tk.toInt ∧ tk.toInt ≤ 20000) (b_lw : (0 : Int) ≤ lw.toInt ∧ lw.toInt ≤ 9) (b_wd : (-1 : Int) ≤ wd.toInt ∧ wd.toInt ≤ 3) (b_rz : (0 : Int) ≤ rz.toInt ∧ rz.toInt ≤ 60) : Met l yX9_knownPlaces uX9_knownPlaces ({ frames := 1, cells := 0, slots := 0, locals := 22 }) (va_Pc [.ref h0, .ref rw] (pw (dC, dI) vwCl [(h0, .inr (7, [.ref tp, .ref sc, .ref rd, .ref cu, .ref im, .ref ig, .ref sl, .ref se, .ref sm, .ref fc])), (cu, .inr (1, [.int ln, .int bs, .int tk, .int lw, .int li, .ref fa, .ref lu])), (rw, .inr (2, [.int wd, .int rz, .ref nu])), (nu, .inl (cN, 60, .inr (.inl fn)))] [(cN, .long)])) (vp_Sl (fun r => True)) 0 0 (fun _ => False) := by
  refine Met.ofW (cc := cX9_knownPlaces) (maxL := 5) (ret := (some .long)) pn_X9 rfl ?_
  intro p e s m args below meth c s₁ B hml hv
  obtain ⟨rfl, hP, hK, hN⟩ := hv
  have hx := B.exec
  have hb := B.bytes
  have hr := B.returns
  have hts := atoms_spec (ws := uX9_knownPlaces) B.pre
  have hown : s.vm.findClass RX9 = some m.cls := hown_of B.named rfl
  have hlocks := B.notSynchronized
  have hl := lv_entry ([.ref h0, .ref rw]) (n := 5) (Nat.le_of_ble_eq_true rfl)
  rw [lg_entry_eq]
  generalize (lg_sl ([.ref h0, .ref rw]) ++ List.replicate (5 - (lg_sl ([.ref h0, .ref rw])).length) Slot.unset).toArray = ls at hl ⊢
  have hl : lv_has ls 5 [(0, .ref h0), (1, .ref rw)] := hl
  refine lv_lconst (v := 0) hx hb dX9_knownPlaces_0 (by decide) ?_
  refine lv_lstore_n (lv' := [(2, .long 0), (0, .ref h0), (1, .ref rw)]) hx hb dX9_knownPlaces_1 rfl hl (by decide) rfl (fun ls hl => ?_)
  refine lv_iconst (v := 0) hx hb dX9_knownPlaces_2 (by decide) ?_
  refine lv_istore (lv' := [(4, .int 0), (2, .long 0), (0, .ref h0), (1, .ref rw)]) hx hb dX9_knownPlaces_3 hl (by decide) rfl (fun ls hl => ?_)
  refine loopP (σ := Int32 × Int64) (fun v => (12 - v.1.toInt).toNat) (fun v ls => ((0 : Int) ≤ v.1.toInt ∧ v.1.toInt ≤ 12) ∧ lv_has ls 5 [(4, .int v.1), (2, .long v.2), (0, .ref h0), (1, .ref rw)]) (fun v ls hI ih_5_94 => ?_) ((0 : Int32), (0 : Int64)) ⟨(show (0 : Int) ≤ (0 : Int32).toInt ∧ (0 : Int32).toInt ≤ 12 from (rg_w (by decide : (0 : Int) ≤ (0 : Int32).toInt ∧ (0 : Int32).toInt ≤ 0) (by decide) (by decide))), lv_sub hl [0, 1, 2, 3] rfl⟩
  obtain ⟨y_63, y_64⟩ := v
  obtain ⟨b_y_63, hl⟩ := hI
  have b_y_63 : (0 : Int) ≤ y_63.toInt ∧ y_63.toInt ≤ 12 := b_y_63
  have hl : lv_has ls 5 [(4, .int y_63), (2, .long y_64), (0, .ref h0), (1, .ref rw)] := hl
  refine lv_iload hx hb dX9_knownPlaces_5 (lv_at hl 0 rfl) ?_
  refine lv_aload_n hx hb dX9_knownPlaces_7 rfl (lv_at hl 2 rfl) ?_
  refine va_get (D := (dC, dI)) (ci := 7) (v := .ref cu) (C := RX9) (T := TX9) (N := 10) hx hb hts iX9_knownPlaces_X9 hown hK hP 0 rfl rfl 3 (by decide) (hts (.fieldLink RX9 35 "LuckyTicket" "current" "LLuckyTicket$Roll;") (List.mem_of_getElem? (i := 1) rfl)) (fun _ h9 => h9) rfl dX9_knownPlaces_8 ?_
  refine va_getN (own := RX9) (index := 110) (ref := RX2) (host := RX9) (D := (dC, dI)) (ci := 1) (v := .int ln) (C := RX2) (T := TX2) (N := 7) hx hb hts iX9_knownPlaces_X2 hown hK hP 1 rfl rfl 0 (by decide) (va_Nw.use rfl (hN _ (List.mem_of_getElem? (i := 14) rfl))) (fun _ h9 => h9) rfl dX9_knownPlaces_11 ?_
  refine lv_icmp_ge (tgt := 54) hx hb dX9_knownPlaces_14 (by decide) (fun c_95 => ?_) (fun c_95 => ?_)
  ·
    have n_c_95 : (ln.toInt : Int) ≤ y_63.toInt := c_ge rfl rfl c_95
    refine lv_lload_n hx hb dX9_knownPlaces_54 rfl (lv_at hl 1 rfl) ?_
    exact W.lret (v := y_64) hx hb hr (fun t ht hW => ⟨y_64, rfl, trivial, ht⟩) t_nil dX9_knownPlaces_55
  ·
    have n_c_95 : (y_63.toInt : Int) < ln.toInt := c_nge rfl rfl c_95
    have b_y_63 : (0 : Int) ≤ y_63.toInt ∧ y_63.toInt ≤ 11 := r_lt1 b_y_63 b_ln n_c_95 (by decide)
    have b_ln : (1 : Int) ≤ ln.toInt ∧ ln.toInt ≤ 12 := r_lt2 b_y_63 b_ln n_c_95 (by decide)
    refine lv_aload_n hx hb dX9_knownPlaces_17 rfl (lv_at hl 2 rfl) ?_
    refine va_get (D := (dC, dI)) (ci := 7) (v := .ref cu) (C := RX9) (T := TX9) (N := 10) hx hb hts iX9_knownPlaces_X9 hown hK hP 0 rfl rfl 3 (by decide) (hts (.fieldLink RX9 35 "LuckyTicket" "current" "LLuckyTicket$Roll;") (List.mem_of_getElem? (i := 1) rfl)) (fun _ h9 => h9) rfl dX9_knownPlaces_18 ?_
    refine lv_aload_n hx hb dX9_knownPlaces_21 rfl (lv_at hl 3 rfl) ?_
    refine lv_iload hx hb dX9_knownPlaces_22 (lv_at hl 0 rfl) ?_
    refine vp_callSl (W.runV (As := [.int y_63]) (rest := [.ref cu]) ⟨hx, hb, hml, hown, hts⟩ (kX3_numberAt l dC dI rw wd rz nu cN fn y_63 b_wd b_rz) (cwV 1 hts gX9_knownPlaces__X3_numberAt_V240 rfl rfl rfl hd_yX3_numberAt ⟨lel 1 1 rfl, lel 21 22 rfl⟩) ⟨pw_fb, rcv_X3 hK hP (q0 := 2) rfl, (pw_use hP hK hN [2, 3] rfl [0] rfl)⟩ rfl rfl hl.1 rfl (lv_room (Nat.le_of_ble_eq_true rfl)) dX9_knownPlaces_24 ⟨lel 0 0 rfl, lel 0 0 rfl⟩) (fun r_96 h_r_96 => ?_)
    refine vp_callSi (W.runV (As := [.long r_96]) (rest := []) ⟨hx, hb, hml, hown, hts⟩ (kX2_hasFigure l dC dI cu ln bs tk lw li fa lu r_96 (rg_w b_ln (by decide) (by decide)) b_bs b_tk b_lw) (cwV 1 hts gX9_knownPlaces__X2_hasFigure_V236 rfl rfl rfl hd_yX2_hasFigure ⟨lel 1 1 rfl, lel 22 22 rfl⟩) ⟨pw_fb, rcv_X2 hK hP (q0 := 1) rfl, (pw_use hP hK hN [1] rfl [] rfl)⟩ rfl rfl hl.1 rfl (lv_room (Nat.le_of_ble_eq_true rfl)) dX9_knownPlaces_27 ⟨lel 0 0 rfl, lel 0 0 rfl⟩) (fun r_97 h_r_97 => ?_)
    have b_r_97 := h_r_97
    have b_r_97 : (0 : Int) ≤ r_97.toInt ∧ r_97.toInt ≤ 1 := b_r_97
    refine cutP (σ := Int64) (pc2 := 48) (st2 := fun v => []) (cells2 := 0) (slots2 := 0) (fun v ls => lv_has ls 5 [(4, .int y_63), (2, .long v), (0, .ref h0), (1, .ref rw)]) (fun v ls hI => ?_) (fun hj_48_101 => ?_)
    ·
      obtain ⟨y_101, rfl⟩ : ∃ z, z = v := ⟨_, rfl⟩
      have hl := hI
      have hl : lv_has ls 5 [(4, .int y_63), (2, .long y_101), (0, .ref h0), (1, .ref rw)] := hl
      obtain ⟨z_102, e_z_102⟩ : ∃ y : Int32, y = y_63 + 1 := ⟨_, rfl⟩
      refine lv_iinc (v := z_102) (lv' := [(4, .int z_102), (2, .long y_101), (0, .ref h0), (1, .ref rw)]) hx hb dX9_knownPlaces_48 hl (k := 0) rfl (by rw [e_z_102]; rfl) (by decide) rfl (fun ls hl => ?_)
      obtain ⟨q_z_102, b_z_102⟩ := ti_add (lo := 1) (hi := 12) e_z_102 rfl (by decide : (1 : Int32).toInt = 1) b_y_63 (by decide : (1 : Int) ≤ (1 : Int32).toInt ∧ (1 : Int32).toInt ≤ 1) (by decide)
      refine lv_goto (tgt := 5) hx hb dX9_knownPlaces_51 (by decide) ?_
      exact ih_5_94 (z_102, y_101) _ ⟨(show (0 : Int) ≤ z_102.toInt ∧ z_102.toInt ≤ 12 from (rg_w b_z_102 (by decide) (by decide))), lv_sub hl [0, 1, 2, 3] rfl⟩ (show (12 - z_102.toInt).toNat < (12 - y_63.toInt).toNat by omega)
    ·
      refine lv_if_eq (tgt := 48) hx hb dX9_knownPlaces_30 (by decide) (fun c_98 => ?_) (fun c_98 => ?_)
      ·
        have n_c_98 : (r_97.toInt : Int) = 0 := c_eq rfl (by decide) c_98
        have b_r_97 : (0 : Int) ≤ r_97.toInt ∧ r_97.toInt ≤ 0 := r_eq1 b_r_97 (by decide : (0 : Int) ≤ (0 : Int32).toInt ∧ (0 : Int32).toInt ≤ 0) n_c_98 (by decide)
        exact hj_48_101 y_64 _ (lv_sub hl [0, 1, 2, 3] rfl)
      ·
        have n_c_98 : (r_97.toInt : Int) ≠ 0 := c_ne rfl (by decide) c_98
        have b_r_97 : (1 : Int) ≤ r_97.toInt ∧ r_97.toInt ≤ 1 := r_ne1 b_r_97 (by decide : (0 : Int) ≤ (0 : Int32).toInt ∧ (0 : Int32).toInt ≤ 0) n_c_98 (by decide)
        refine lv_lload_n hx hb dX9_knownPlaces_33 rfl (lv_at hl 1 rfl) ?_
        refine lv_aload_n hx hb dX9_knownPlaces_34 rfl (lv_at hl 2 rfl) ?_
        refine va_get (D := (dC, dI)) (ci := 7) (v := .ref cu) (C := RX9) (T := TX9) (N := 10) hx hb hts iX9_knownPlaces_X9 hown hK hP 0 rfl rfl 3 (by decide) (hts (.fieldLink RX9 35 "LuckyTicket" "current" "LLuckyTicket$Roll;") (List.mem_of_getElem? (i := 1) rfl)) (fun _ h9 => h9) rfl dX9_knownPlaces_35 ?_
        refine va_getN (own := RX9) (index := 110) (ref := RX2) (host := RX9) (D := (dC, dI)) (ci := 1) (v := .int ln) (C := RX2) (T := TX2) (N := 7) hx hb hts iX9_knownPlaces_X2 hown hK hP 1 rfl rfl 0 (by decide) (va_Nw.use rfl (hN _ (List.mem_of_getElem? (i := 14) rfl))) (fun _ h9 => h9) rfl dX9_knownPlaces_38 ?_
        refine lv_iload hx hb dX9_knownPlaces_41 (lv_at hl 0 rfl) ?_
        refine vp_callSl (W.runS (As := [.int ln, .int y_63]) (rest := [.long y_64]) ⟨hx, hb, hml, hown, hts⟩ (kX0_maskAt l dC dI ln y_63 ) (va_cwS 2 hts gX9_knownPlaces__X0_maskAt_S243 rfl rfl rfl hd_yX0_maskAt.2 ⟨lel 1 1 rfl, lel 21 22 rfl⟩) ⟨pn_fb, pn_use⟩ rfl rfl hl.1 rfl (lv_room (Nat.le_of_ble_eq_true rfl)) dX9_knownPlaces_43 ⟨lel 0 0 rfl, lel 0 0 rfl⟩) (fun r_103 h_r_103 => ?_)
        refine lv_lor hx hb dX9_knownPlaces_46 ?_
        refine lv_topl (fun z_104 e_z_104 => ?_)
        refine lv_lstore_n (lv' := [(2, .long z_104), (4, .int y_63), (0, .ref h0), (1, .ref rw)]) hx hb dX9_knownPlaces_47 rfl hl (by decide) rfl (fun ls hl => ?_)
        exact hj_48_101 z_104 _ (lv_sub hl [1, 0, 2, 3] rfl)
theorem dX9_knownFigures_0 : decode cX9_knownFigures 0 = .ok (.lconst 0, 1) := by decide +kernel
theorem dX9_knownFigures_1 : decode cX9_knownFigures 1 = .ok (.lstore_n 2, 1) := by decide +kernel
theorem dX9_knownFigures_2 : decode cX9_knownFigures 2 = .ok (.iconst 0, 1) := by decide +kernel
theorem dX9_knownFigures_3 : decode cX9_knownFigures 3 = .ok (.istore 4, 2) := by decide +kernel
theorem dX9_knownFigures_5 : decode cX9_knownFigures 5 = .ok (.iload 4, 2) := by decide +kernel
theorem dX9_knownFigures_7 : decode cX9_knownFigures 7 = .ok (.aload_n 0, 1) := by decide +kernel
theorem dX9_knownFigures_8 : decode cX9_knownFigures 8 = .ok (.getfield 35, 3) := by decide +kernel
theorem dX9_knownFigures_11 : decode cX9_knownFigures 11 = .ok (.getfield 110, 3) := by decide +kernel
theorem dX9_knownFigures_14 : decode cX9_knownFigures 14 = .ok (.if_icmp .ge 46, 3) := by decide +kernel
theorem dX9_knownFigures_17 : decode cX9_knownFigures 17 = .ok (.aload_n 1, 1) := by decide +kernel
theorem dX9_knownFigures_18 : decode cX9_knownFigures 18 = .ok (.iload 4, 2) := by decide +kernel
theorem dX9_knownFigures_20 : decode cX9_knownFigures 20 = .ok (.invokevirtual 240, 3) := by decide +kernel
theorem dX9_knownFigures_23 : decode cX9_knownFigures 23 = .ok (.lstore 5, 2) := by decide +kernel
theorem dX9_knownFigures_25 : decode cX9_knownFigures 25 = .ok (.aload_n 0, 1) := by decide +kernel
theorem dX9_knownFigures_26 : decode cX9_knownFigures 26 = .ok (.getfield 35, 3) := by decide +kernel
theorem dX9_knownFigures_29 : decode cX9_knownFigures 29 = .ok (.lload 5, 2) := by decide +kernel
theorem dX9_knownFigures_31 : decode cX9_knownFigures 31 = .ok (.invokevirtual 236, 3) := by decide +kernel
theorem dX9_knownFigures_34 : decode cX9_knownFigures 34 = .ok (.ifCond .eq 20, 3) := by decide +kernel
theorem dX9_knownFigures_37 : decode cX9_knownFigures 37 = .ok (.lload_n 2, 1) := by decide +kernel
theorem dX9_knownFigures_38 : decode cX9_knownFigures 38 = .ok (.aload_n 0, 1) := by decide +kernel
theorem dX9_knownFigures_39 : decode cX9_knownFigures 39 = .ok (.getfield 35, 3) := by decide +kernel
theorem dX9_knownFigures_42 : decode cX9_knownFigures 42 = .ok (.getfield 110, 3) := by decide +kernel
theorem dX9_knownFigures_45 : decode cX9_knownFigures 45 = .ok (.iload 4, 2) := by decide +kernel
theorem dX9_knownFigures_47 : decode cX9_knownFigures 47 = .ok (.lload 5, 2) := by decide +kernel
theorem dX9_knownFigures_49 : decode cX9_knownFigures 49 = .ok (.invokestatic 246, 3) := by decide +kernel
theorem dX9_knownFigures_52 : decode cX9_knownFigures 52 = .ok (.lor, 1) := by decide +kernel
theorem dX9_knownFigures_53 : decode cX9_knownFigures 53 = .ok (.lstore_n 2, 1) := by decide +kernel
theorem dX9_knownFigures_54 : decode cX9_knownFigures 54 = .ok (.iinc 4 1, 3) := by decide +kernel
theorem dX9_knownFigures_57 : decode cX9_knownFigures 57 = .ok (.goto (-52), 3) := by decide +kernel
theorem dX9_knownFigures_60 : decode cX9_knownFigures 60 = .ok (.lload_n 2, 1) := by decide +kernel
theorem dX9_knownFigures_61 : decode cX9_knownFigures 61 = .ok (.lreturn, 1) := by decide +kernel
theorem hd_yX9_knownFigures : yX9_knownFigures.cls = RX9 ∧ yX9_knownFigures.cls ≠ "java/lang/invoke/MethodHandle" ∧ yX9_knownFigures.cls ≠ "java/lang/invoke/VarHandle" ∧ (parseMethodDescriptor yX9_knownFigures.desc).map (fun d => d.parameters.length) = some 1 := by decide +kernel
def uX9_knownFigures : List Cond := List.cons (.code yX9_knownFigures cX9_knownFigures 7 (some .long)) (HAppend.hAppend ([.fieldLink RX9 35 "LuckyTicket" "current" "LLuckyTicket$Roll;", .methodLink RX9 240 yX3_numberAt, .instanceMethod yX3_numberAt, .selects RX3 yX3_numberAt yX3_numberAt, .initialized RX3, .methodLink RX9 236 yX2_hasFigure, .instanceMethod yX2_hasFigure, .selects RX2 yX2_hasFigure yX2_hasFigure, .initialized RX2, .methodLink RX9 246 yX0_figureTold, .static yX0_figureTold, .initialized RX0] : List Cond) (HAppend.hAppend uX3_numberAt (HAppend.hAppend uX2_hasFigure (HAppend.hAppend uX0_figureTold (HAppend.hAppend wsX90 wsX20)))))
theorem iX9_knownFigures_X9 : ∀ w ∈ wsX90, w ∈ uX9_knownFigures := fun _ h => (List.mem_cons_of_mem _ (List.mem_append_right _ (List.mem_append_right _ (List.mem_append_right _ (List.mem_append_right _ (List.mem_append_left _ h))))))
theorem iX9_knownFigures_X2 : ∀ w ∈ wsX20, w ∈ uX9_knownFigures := fun _ h => (List.mem_cons_of_mem _ (List.mem_append_right _ (List.mem_append_right _ (List.mem_append_right _ (List.mem_append_right _ (List.mem_append_right _ h))))))
theorem guX9_knownFigures : GU uX9_knownFigures := gu_cons (gu_app (by decide +kernel) (gu_ap guX3_numberAt (gu_ap guX2_hasFigure (gu_ap guX0_figureTold (gu_ap gws_X9 gws_X2)))))
theorem gX9_knownFigures__X3_numberAt_V240 : GoodIn uX9_knownFigures (wsV RX9 240 RX3 yX3_numberAt uX3_numberAt) := gin_V (List.mem_of_getElem? (i := 2) rfl) (List.mem_of_getElem? (i := 3) rfl) (List.mem_of_getElem? (i := 4) rfl) (List.mem_of_getElem? (i := 5) rfl) (fun _ h => (List.mem_cons_of_mem _ (List.mem_append_right _ (List.mem_append_left _ h)))) guX3_numberAt
theorem gX9_knownFigures__X2_hasFigure_V236 : GoodIn uX9_knownFigures (wsV RX9 236 RX2 yX2_hasFigure uX2_hasFigure) := gin_V (List.mem_of_getElem? (i := 6) rfl) (List.mem_of_getElem? (i := 7) rfl) (List.mem_of_getElem? (i := 8) rfl) (List.mem_of_getElem? (i := 9) rfl) (fun _ h => (List.mem_cons_of_mem _ (List.mem_append_right _ (List.mem_append_right _ (List.mem_append_left _ h))))) guX2_hasFigure
theorem gX9_knownFigures__X0_figureTold_S246 : GoodIn uX9_knownFigures (va_wsS RX9 246 yX0_figureTold uX0_figureTold) := gin_S (List.mem_of_getElem? (i := 10) rfl) (List.mem_of_getElem? (i := 11) rfl) (List.mem_of_getElem? (i := 12) rfl) (fun _ h => (List.mem_cons_of_mem _ (List.mem_append_right _ (List.mem_append_right _ (List.mem_append_right _ (List.mem_append_left _ h)))))) guX0_figureTold
set_option maxHeartbeats 4000000 in
set_option maxRecDepth 100000 in
theorem kX9_knownFigures (l : Launch) (dC : Nat → ClassId) (dI : Nat → Nat → Nat) (h0 : Nat) (tp : Nat) (sc : Nat) (rd : Nat) (cu : Nat) (im : Nat) (ig : Nat) (sl : Nat) (se : Nat) (sm : Nat) (fc : Nat) (ln : Int32) (bs : Int32) (tk : Int32) (lw : Int32) (li : Int32) (fa : Nat) (lu : Nat) (rw : Nat) (wd : Int32) (rz : Int32) (nu : Nat) (cN : ClassId) (fn : Nat → Int64) (b_ln : (0 : Int) ≤ ln.toInt ∧ ln.toInt ≤ 12) (b_bs : (0 : Int) ≤ bs.toInt ∧ bs.toInt ≤ 16) (b_tk : (0 : Int) ≤ tk.toInt ∧ tk.toInt ≤ 20000) (b_lw : (0 : Int) ≤ lw.toInt ∧ lw.toInt ≤ 9) (b_wd : (-1 : Int) ≤ wd.toInt ∧ wd.toInt ≤ 3) (b_rz : (0 : Int) ≤ rz.toInt ∧ rz.toInt ≤ 60) : Met l yX9_knownFigures uX9_knownFigures ({ frames := 1, cells := 0, slots := 0, locals := 23 }) (va_Pc [.ref h0, .ref rw] (pw (dC, dI) vwCl [(h0, .inr (7, [.ref tp, .ref sc, .ref rd, .ref cu, .ref im, .ref ig, .ref sl, .ref se, .ref sm, .ref fc])), (cu, .inr (1, [.int ln, .int bs, .int tk, .int lw, .int li, .ref fa, .ref lu])), (rw, .inr (2, [.int wd, .int rz, .ref nu])), (nu, .inl (cN, 60, .inr (.inl fn)))] [(cN, .long)])) (vp_Sl (fun r => True)) 0 0 (fun _ => False) := by
  refine Met.ofW (cc := cX9_knownFigures) (maxL := 7) (ret := (some .long)) pn_X9 rfl ?_
  intro p e s m args below meth c s₁ B hml hv
  obtain ⟨rfl, hP, hK, hN⟩ := hv
  have hx := B.exec
  have hb := B.bytes
  have hr := B.returns
  have hts := atoms_spec (ws := uX9_knownFigures) B.pre
  have hown : s.vm.findClass RX9 = some m.cls := hown_of B.named rfl
  have hlocks := B.notSynchronized
  have hl := lv_entry ([.ref h0, .ref rw]) (n := 7) (Nat.le_of_ble_eq_true rfl)
  rw [lg_entry_eq]
  generalize (lg_sl ([.ref h0, .ref rw]) ++ List.replicate (7 - (lg_sl ([.ref h0, .ref rw])).length) Slot.unset).toArray = ls at hl ⊢
  have hl : lv_has ls 7 [(0, .ref h0), (1, .ref rw)] := hl
  refine lv_lconst (v := 0) hx hb dX9_knownFigures_0 (by decide) ?_
  refine lv_lstore_n (lv' := [(2, .long 0), (0, .ref h0), (1, .ref rw)]) hx hb dX9_knownFigures_1 rfl hl (by decide) rfl (fun ls hl => ?_)
  refine lv_iconst (v := 0) hx hb dX9_knownFigures_2 (by decide) ?_
  refine lv_istore (lv' := [(4, .int 0), (2, .long 0), (0, .ref h0), (1, .ref rw)]) hx hb dX9_knownFigures_3 hl (by decide) rfl (fun ls hl => ?_)
  refine loopP (σ := Int32 × Int64) (fun v => (12 - v.1.toInt).toNat) (fun v ls => ((0 : Int) ≤ v.1.toInt ∧ v.1.toInt ≤ 12) ∧ lv_has ls 7 [(4, .int v.1), (2, .long v.2), (0, .ref h0), (1, .ref rw)]) (fun v ls hI ih_5_94 => ?_) ((0 : Int32), (0 : Int64)) ⟨(show (0 : Int) ≤ (0 : Int32).toInt ∧ (0 : Int32).toInt ≤ 12 from (rg_w (by decide : (0 : Int) ≤ (0 : Int32).toInt ∧ (0 : Int32).toInt ≤ 0) (by decide) (by decide))), lv_sub hl [0, 1, 2, 3] rfl⟩
  obtain ⟨y_63, y_64⟩ := v
  obtain ⟨b_y_63, hl⟩ := hI
  have b_y_63 : (0 : Int) ≤ y_63.toInt ∧ y_63.toInt ≤ 12 := b_y_63
  have hl : lv_has ls 7 [(4, .int y_63), (2, .long y_64), (0, .ref h0), (1, .ref rw)] := hl
  refine lv_iload hx hb dX9_knownFigures_5 (lv_at hl 0 rfl) ?_
  refine lv_aload_n hx hb dX9_knownFigures_7 rfl (lv_at hl 2 rfl) ?_
  refine va_get (D := (dC, dI)) (ci := 7) (v := .ref cu) (C := RX9) (T := TX9) (N := 10) hx hb hts iX9_knownFigures_X9 hown hK hP 0 rfl rfl 3 (by decide) (hts (.fieldLink RX9 35 "LuckyTicket" "current" "LLuckyTicket$Roll;") (List.mem_of_getElem? (i := 1) rfl)) (fun _ h9 => h9) rfl dX9_knownFigures_8 ?_
  refine va_getN (own := RX9) (index := 110) (ref := RX2) (host := RX9) (D := (dC, dI)) (ci := 1) (v := .int ln) (C := RX2) (T := TX2) (N := 7) hx hb hts iX9_knownFigures_X2 hown hK hP 1 rfl rfl 0 (by decide) (va_Nw.use rfl (hN _ (List.mem_of_getElem? (i := 14) rfl))) (fun _ h9 => h9) rfl dX9_knownFigures_11 ?_
  refine lv_icmp_ge (tgt := 60) hx hb dX9_knownFigures_14 (by decide) (fun c_95 => ?_) (fun c_95 => ?_)
  ·
    have n_c_95 : (ln.toInt : Int) ≤ y_63.toInt := c_ge rfl rfl c_95
    refine lv_lload_n hx hb dX9_knownFigures_60 rfl (lv_at hl 1 rfl) ?_
    exact W.lret (v := y_64) hx hb hr (fun t ht hW => ⟨y_64, rfl, trivial, ht⟩) t_nil dX9_knownFigures_61
  ·
    have n_c_95 : (y_63.toInt : Int) < ln.toInt := c_nge rfl rfl c_95
    have b_y_63 : (0 : Int) ≤ y_63.toInt ∧ y_63.toInt ≤ 11 := r_lt1 b_y_63 b_ln n_c_95 (by decide)
    have b_ln : (1 : Int) ≤ ln.toInt ∧ ln.toInt ≤ 12 := r_lt2 b_y_63 b_ln n_c_95 (by decide)
    refine lv_aload_n hx hb dX9_knownFigures_17 rfl (lv_at hl 3 rfl) ?_
    refine lv_iload hx hb dX9_knownFigures_18 (lv_at hl 0 rfl) ?_
    refine vp_callSl (W.runV (As := [.int y_63]) (rest := []) ⟨hx, hb, hml, hown, hts⟩ (kX3_numberAt l dC dI rw wd rz nu cN fn y_63 b_wd b_rz) (cwV 1 hts gX9_knownFigures__X3_numberAt_V240 rfl rfl rfl hd_yX3_numberAt ⟨lel 1 1 rfl, lel 21 23 rfl⟩) ⟨pw_fb, rcv_X3 hK hP (q0 := 2) rfl, (pw_use hP hK hN [2, 3] rfl [0] rfl)⟩ rfl rfl hl.1 rfl (lv_room (Nat.le_of_ble_eq_true rfl)) dX9_knownFigures_20 ⟨lel 0 0 rfl, lel 0 0 rfl⟩) (fun r_96 h_r_96 => ?_)
    refine lv_lstore (lv' := [(5, .long r_96), (4, .int y_63), (2, .long y_64), (0, .ref h0), (1, .ref rw)]) hx hb dX9_knownFigures_23 hl (by decide) rfl (fun ls hl => ?_)
    refine lv_aload_n hx hb dX9_knownFigures_25 rfl (lv_at hl 3 rfl) ?_
    refine va_get (D := (dC, dI)) (ci := 7) (v := .ref cu) (C := RX9) (T := TX9) (N := 10) hx hb hts iX9_knownFigures_X9 hown hK hP 0 rfl rfl 3 (by decide) (hts (.fieldLink RX9 35 "LuckyTicket" "current" "LLuckyTicket$Roll;") (List.mem_of_getElem? (i := 1) rfl)) (fun _ h9 => h9) rfl dX9_knownFigures_26 ?_
    refine lv_lload hx hb dX9_knownFigures_29 (lv_at hl 0 rfl) ?_
    refine vp_callSi (W.runV (As := [.long r_96]) (rest := []) ⟨hx, hb, hml, hown, hts⟩ (kX2_hasFigure l dC dI cu ln bs tk lw li fa lu r_96 (rg_w b_ln (by decide) (by decide)) b_bs b_tk b_lw) (cwV 1 hts gX9_knownFigures__X2_hasFigure_V236 rfl rfl rfl hd_yX2_hasFigure ⟨lel 1 1 rfl, lel 22 23 rfl⟩) ⟨pw_fb, rcv_X2 hK hP (q0 := 1) rfl, (pw_use hP hK hN [1] rfl [] rfl)⟩ rfl rfl hl.1 rfl (lv_room (Nat.le_of_ble_eq_true rfl)) dX9_knownFigures_31 ⟨lel 0 0 rfl, lel 0 0 rfl⟩) (fun r_97 h_r_97 => ?_)
    have b_r_97 := h_r_97
    have b_r_97 : (0 : Int) ≤ r_97.toInt ∧ r_97.toInt ≤ 1 := b_r_97
    refine cutP (σ := Int64) (pc2 := 54) (st2 := fun v => []) (cells2 := 0) (slots2 := 0) (fun v ls => lv_has ls 7 [(5, .long r_96), (4, .int y_63), (2, .long v), (0, .ref h0), (1, .ref rw)]) (fun v ls hI => ?_) (fun hj_54_101 => ?_)
    ·
      obtain ⟨y_101, rfl⟩ : ∃ z, z = v := ⟨_, rfl⟩
      have hl := hI
      have hl : lv_has ls 7 [(5, .long r_96), (4, .int y_63), (2, .long y_101), (0, .ref h0), (1, .ref rw)] := hl
      obtain ⟨z_102, e_z_102⟩ : ∃ y : Int32, y = y_63 + 1 := ⟨_, rfl⟩
      refine lv_iinc (v := z_102) (lv' := [(4, .int z_102), (5, .long r_96), (2, .long y_101), (0, .ref h0), (1, .ref rw)]) hx hb dX9_knownFigures_54 hl (k := 1) rfl (by rw [e_z_102]; rfl) (by decide) rfl (fun ls hl => ?_)
      obtain ⟨q_z_102, b_z_102⟩ := ti_add (lo := 1) (hi := 12) e_z_102 rfl (by decide : (1 : Int32).toInt = 1) b_y_63 (by decide : (1 : Int) ≤ (1 : Int32).toInt ∧ (1 : Int32).toInt ≤ 1) (by decide)
      refine lv_goto (tgt := 5) hx hb dX9_knownFigures_57 (by decide) ?_
      exact ih_5_94 (z_102, y_101) _ ⟨(show (0 : Int) ≤ z_102.toInt ∧ z_102.toInt ≤ 12 from (rg_w b_z_102 (by decide) (by decide))), lv_sub hl [0, 2, 3, 4] rfl⟩ (show (12 - z_102.toInt).toNat < (12 - y_63.toInt).toNat by omega)
    ·
      refine lv_if_eq (tgt := 54) hx hb dX9_knownFigures_34 (by decide) (fun c_98 => ?_) (fun c_98 => ?_)
      ·
        have n_c_98 : (r_97.toInt : Int) = 0 := c_eq rfl (by decide) c_98
        have b_r_97 : (0 : Int) ≤ r_97.toInt ∧ r_97.toInt ≤ 0 := r_eq1 b_r_97 (by decide : (0 : Int) ≤ (0 : Int32).toInt ∧ (0 : Int32).toInt ≤ 0) n_c_98 (by decide)
        exact hj_54_101 y_64 _ (lv_sub hl [0, 1, 2, 3, 4] rfl)
      ·
        have n_c_98 : (r_97.toInt : Int) ≠ 0 := c_ne rfl (by decide) c_98
        have b_r_97 : (1 : Int) ≤ r_97.toInt ∧ r_97.toInt ≤ 1 := r_ne1 b_r_97 (by decide : (0 : Int) ≤ (0 : Int32).toInt ∧ (0 : Int32).toInt ≤ 0) n_c_98 (by decide)
        refine lv_lload_n hx hb dX9_knownFigures_37 rfl (lv_at hl 2 rfl) ?_
        refine lv_aload_n hx hb dX9_knownFigures_38 rfl (lv_at hl 3 rfl) ?_
        refine va_get (D := (dC, dI)) (ci := 7) (v := .ref cu) (C := RX9) (T := TX9) (N := 10) hx hb hts iX9_knownFigures_X9 hown hK hP 0 rfl rfl 3 (by decide) (hts (.fieldLink RX9 35 "LuckyTicket" "current" "LLuckyTicket$Roll;") (List.mem_of_getElem? (i := 1) rfl)) (fun _ h9 => h9) rfl dX9_knownFigures_39 ?_
        refine va_getN (own := RX9) (index := 110) (ref := RX2) (host := RX9) (D := (dC, dI)) (ci := 1) (v := .int ln) (C := RX2) (T := TX2) (N := 7) hx hb hts iX9_knownFigures_X2 hown hK hP 1 rfl rfl 0 (by decide) (va_Nw.use rfl (hN _ (List.mem_of_getElem? (i := 14) rfl))) (fun _ h9 => h9) rfl dX9_knownFigures_42 ?_
        refine lv_iload hx hb dX9_knownFigures_45 (lv_at hl 1 rfl) ?_
        refine lv_lload hx hb dX9_knownFigures_47 (lv_at hl 0 rfl) ?_
        refine vp_callSl (W.runS (As := [.int ln, .int y_63, .long r_96]) (rest := [.long y_64]) ⟨hx, hb, hml, hown, hts⟩ (kX0_figureTold l dC dI ln y_63 r_96 ) (va_cwS 3 hts gX9_knownFigures__X0_figureTold_S246 rfl rfl rfl hd_yX0_figureTold.2 ⟨lel 1 1 rfl, lel 23 23 rfl⟩) ⟨pn_fb, pn_use⟩ rfl rfl hl.1 rfl (lv_room (Nat.le_of_ble_eq_true rfl)) dX9_knownFigures_49 ⟨lel 0 0 rfl, lel 0 0 rfl⟩) (fun r_103 h_r_103 => ?_)
        refine lv_lor hx hb dX9_knownFigures_52 ?_
        refine lv_topl (fun z_104 e_z_104 => ?_)
        refine lv_lstore_n (lv' := [(2, .long z_104), (5, .long r_96), (4, .int y_63), (0, .ref h0), (1, .ref rw)]) hx hb dX9_knownFigures_53 rfl hl (by decide) rfl (fun ls hl => ?_)
        exact hj_54_101 z_104 _ (lv_sub hl [1, 2, 0, 3, 4] rfl)
theorem dX9_worn_0 : decode cX9_worn 0 = .ok (.aload_n 0, 1) := by decide +kernel
theorem dX9_worn_1 : decode cX9_worn 1 = .ok (.iload_n 1, 1) := by decide +kernel
theorem dX9_worn_2 : decode cX9_worn 2 = .ok (.invokevirtual 206, 3) := by decide +kernel
theorem dX9_worn_5 : decode cX9_worn 5 = .ok (.ifCond .eq 23, 3) := by decide +kernel
theorem dX9_worn_8 : decode cX9_worn 8 = .ok (.aload_n 0, 1) := by decide +kernel
theorem dX9_worn_9 : decode cX9_worn 9 = .ok (.getfield 35, 3) := by decide +kernel
theorem dX9_worn_12 : decode cX9_worn 12 = .ok (.iload_n 2, 1) := by decide +kernel
theorem dX9_worn_13 : decode cX9_worn 13 = .ok (.invokevirtual 149, 3) := by decide +kernel
theorem dX9_worn_16 : decode cX9_worn 16 = .ok (.ifCond .eq 12, 3) := by decide +kernel
theorem dX9_worn_19 : decode cX9_worn 19 = .ok (.iload_n 3, 1) := by decide +kernel
theorem dX9_worn_20 : decode cX9_worn 20 = .ok (.iconst 0, 1) := by decide +kernel
theorem dX9_worn_21 : decode cX9_worn 21 = .ok (.iconst 3, 1) := by decide +kernel
theorem dX9_worn_22 : decode cX9_worn 22 = .ok (.invokestatic 158, 3) := by decide +kernel
theorem dX9_worn_25 : decode cX9_worn 25 = .ok (.ifCond .ne 6, 3) := by decide +kernel
theorem dX9_worn_28 : decode cX9_worn 28 = .ok (.bipush (-2), 2) := by decide +kernel
theorem dX9_worn_30 : decode cX9_worn 30 = .ok (.ireturn, 1) := by decide +kernel
theorem dX9_worn_31 : decode cX9_worn 31 = .ok (.aload_n 0, 1) := by decide +kernel
theorem dX9_worn_32 : decode cX9_worn 32 = .ok (.getfield 50, 3) := by decide +kernel
theorem dX9_worn_35 : decode cX9_worn 35 = .ok (.iload_n 1, 1) := by decide +kernel
theorem dX9_worn_36 : decode cX9_worn 36 = .ok (.aaload, 1) := by decide +kernel
theorem dX9_worn_37 : decode cX9_worn 37 = .ok (.astore 4, 2) := by decide +kernel
theorem dX9_worn_39 : decode cX9_worn 39 = .ok (.aload_n 0, 1) := by decide +kernel
theorem dX9_worn_40 : decode cX9_worn 40 = .ok (.aload 4, 2) := by decide +kernel
theorem dX9_worn_42 : decode cX9_worn 42 = .ok (.invokevirtual 209, 3) := by decide +kernel
theorem dX9_worn_45 : decode cX9_worn 45 = .ok (.istore 5, 2) := by decide +kernel
theorem dX9_worn_47 : decode cX9_worn 47 = .ok (.iload 5, 2) := by decide +kernel
theorem dX9_worn_49 : decode cX9_worn 49 = .ok (.ifCond .eq 6, 3) := by decide +kernel
theorem dX9_worn_52 : decode cX9_worn 52 = .ok (.iload 5, 2) := by decide +kernel
theorem dX9_worn_54 : decode cX9_worn 54 = .ok (.ireturn, 1) := by decide +kernel
theorem dX9_worn_55 : decode cX9_worn 55 = .ok (.aload_n 0, 1) := by decide +kernel
theorem dX9_worn_56 : decode cX9_worn 56 = .ok (.aload 4, 2) := by decide +kernel
theorem dX9_worn_58 : decode cX9_worn 58 = .ok (.invokevirtual 213, 3) := by decide +kernel
theorem dX9_worn_61 : decode cX9_worn 61 = .ok (.lstore 6, 2) := by decide +kernel
theorem dX9_worn_63 : decode cX9_worn 63 = .ok (.aload_n 0, 1) := by decide +kernel
theorem dX9_worn_64 : decode cX9_worn 64 = .ok (.aload 4, 2) := by decide +kernel
theorem dX9_worn_66 : decode cX9_worn 66 = .ok (.invokevirtual 217, 3) := by decide +kernel
theorem dX9_worn_69 : decode cX9_worn 69 = .ok (.lstore 8, 2) := by decide +kernel
theorem dX9_worn_71 : decode cX9_worn 71 = .ok (.iload_n 3, 1) := by decide +kernel
theorem dX9_worn_72 : decode cX9_worn 72 = .ok (.tableswitch 74 0 2 #[28, 48, 61], 28) := by decide +kernel
theorem dX9_worn_100 : decode cX9_worn 100 = .ok (.aload_n 0, 1) := by decide +kernel
theorem dX9_worn_101 : decode cX9_worn 101 = .ok (.getfield 35, 3) := by decide +kernel
theorem dX9_worn_104 : decode cX9_worn 104 = .ok (.getfield 220, 3) := by decide +kernel
theorem dX9_worn_107 : decode cX9_worn 107 = .ok (.aload_n 0, 1) := by decide +kernel
theorem dX9_worn_108 : decode cX9_worn 108 = .ok (.aload 4, 2) := by decide +kernel
theorem dX9_worn_110 : decode cX9_worn 110 = .ok (.invokevirtual 223, 3) := by decide +kernel
theorem dX9_worn_113 : decode cX9_worn 113 = .ok (.invokestatic 198, 3) := by decide +kernel
theorem dX9_worn_116 : decode cX9_worn 116 = .ok (.invokestatic 226, 3) := by decide +kernel
theorem dX9_worn_119 : decode cX9_worn 119 = .ok (.ireturn, 1) := by decide +kernel
theorem dX9_worn_120 : decode cX9_worn 120 = .ok (.aload_n 0, 1) := by decide +kernel
theorem dX9_worn_121 : decode cX9_worn 121 = .ok (.getfield 35, 3) := by decide +kernel
theorem dX9_worn_124 : decode cX9_worn 124 = .ok (.iload_n 2, 1) := by decide +kernel
theorem dX9_worn_125 : decode cX9_worn 125 = .ok (.lload 6, 2) := by decide +kernel
theorem dX9_worn_127 : decode cX9_worn 127 = .ok (.lload 8, 2) := by decide +kernel
theorem dX9_worn_129 : decode cX9_worn 129 = .ok (.invokevirtual 229, 3) := by decide +kernel
theorem dX9_worn_132 : decode cX9_worn 132 = .ok (.ireturn, 1) := by decide +kernel
theorem dX9_worn_133 : decode cX9_worn 133 = .ok (.aload_n 0, 1) := by decide +kernel
theorem dX9_worn_134 : decode cX9_worn 134 = .ok (.getfield 35, 3) := by decide +kernel
theorem dX9_worn_137 : decode cX9_worn 137 = .ok (.iload_n 2, 1) := by decide +kernel
theorem dX9_worn_138 : decode cX9_worn 138 = .ok (.lload 6, 2) := by decide +kernel
theorem dX9_worn_140 : decode cX9_worn 140 = .ok (.lload 8, 2) := by decide +kernel
theorem dX9_worn_142 : decode cX9_worn 142 = .ok (.invokevirtual 233, 3) := by decide +kernel
theorem dX9_worn_145 : decode cX9_worn 145 = .ok (.ireturn, 1) := by decide +kernel
theorem dX9_worn_146 : decode cX9_worn 146 = .ok (.aload_n 0, 1) := by decide +kernel
theorem dX9_worn_147 : decode cX9_worn 147 = .ok (.aload 4, 2) := by decide +kernel
theorem dX9_worn_149 : decode cX9_worn 149 = .ok (.invokevirtual 223, 3) := by decide +kernel
theorem dX9_worn_152 : decode cX9_worn 152 = .ok (.ireturn, 1) := by decide +kernel
theorem hd_yX9_worn : yX9_worn.cls = RX9 ∧ yX9_worn.cls ≠ "java/lang/invoke/MethodHandle" ∧ yX9_worn.cls ≠ "java/lang/invoke/VarHandle" ∧ (parseMethodDescriptor yX9_worn.desc).map (fun d => d.parameters.length) = some 3 := by decide +kernel
def uX9_worn : List Cond := List.cons (.code yX9_worn cX9_worn 10 (some .int)) (HAppend.hAppend ([.methodLink RX9 206 yX9_hasSlot, .instanceMethod yX9_hasSlot, .selects RX9 yX9_hasSlot yX9_hasSlot, .initialized RX9, .fieldLink RX9 35 "LuckyTicket" "current" "LLuckyTicket$Roll;", .methodLink RX9 149 yX2_hasLaw, .instanceMethod yX2_hasLaw, .selects RX2 yX2_hasLaw yX2_hasLaw, .initialized RX2, .methodLink RX9 158 yX9_isWithin, .static yX9_isWithin, .fieldLink RX9 50 "LuckyTicket" "slots" "[LLuckyTicket$Row;", .methodLink RX9 209 yX9_refusalOfWorn, .instanceMethod yX9_refusalOfWorn, .selects RX9 yX9_refusalOfWorn yX9_refusalOfWorn, .methodLink RX9 213 yX9_knownPlaces, .instanceMethod yX9_knownPlaces, .selects RX9 yX9_knownPlaces yX9_knownPlaces, .methodLink RX9 217 yX9_knownFigures, .instanceMethod yX9_knownFigures, .selects RX9 yX9_knownFigures yX9_knownFigures, .methodLink RX9 223 yX9_gonePlaces, .instanceMethod yX9_gonePlaces, .selects RX9 yX9_gonePlaces yX9_gonePlaces, .methodLink RX9 198 yJ6_bitCount_0f7a4, .static yJ6_bitCount_0f7a4, .initialized RJ6, .methodLink RX9 226 yX9_power, .static yX9_power, .methodLink RX9 229 yX2_tallyFitting, .instanceMethod yX2_tallyFitting, .selects RX2 yX2_tallyFitting yX2_tallyFitting, .methodLink RX9 233 yX2_firstFitting, .instanceMethod yX2_firstFitting, .selects RX2 yX2_firstFitting yX2_firstFitting] : List Cond) (HAppend.hAppend uX9_hasSlot (HAppend.hAppend uX2_hasLaw (HAppend.hAppend uX9_isWithin (HAppend.hAppend uX9_refusalOfWorn (HAppend.hAppend uX9_knownPlaces (HAppend.hAppend uX9_knownFigures (HAppend.hAppend uX9_gonePlaces (HAppend.hAppend uJ6_bitCount_0f7a4 (HAppend.hAppend uX9_power (HAppend.hAppend uX2_tallyFitting (HAppend.hAppend uX2_firstFitting (HAppend.hAppend wsX90 wsX20)))))))))))))
theorem iX9_worn_X9 : ∀ w ∈ wsX90, w ∈ uX9_worn := fun _ h => (List.mem_cons_of_mem _ (List.mem_append_right _ (List.mem_append_right _ (List.mem_append_right _ (List.mem_append_right _ (List.mem_append_right _ (List.mem_append_right _ (List.mem_append_right _ (List.mem_append_right _ (List.mem_append_right _ (List.mem_append_right _ (List.mem_append_right _ (List.mem_append_right _ (List.mem_append_left _ h))))))))))))))
theorem iX9_worn_X2 : ∀ w ∈ wsX20, w ∈ uX9_worn := fun _ h => (List.mem_cons_of_mem _ (List.mem_append_right _ (List.mem_append_right _ (List.mem_append_right _ (List.mem_append_right _ (List.mem_append_right _ (List.mem_append_right _ (List.mem_append_right _ (List.mem_append_right _ (List.mem_append_right _ (List.mem_append_right _ (List.mem_append_right _ (List.mem_append_right _ (List.mem_append_right _ h))))))))))))))
theorem guX9_worn : GU uX9_worn := gu_cons (gu_app (by decide +kernel) (gu_ap guX9_hasSlot (gu_ap guX2_hasLaw (gu_ap guX9_isWithin (gu_ap guX9_refusalOfWorn (gu_ap guX9_knownPlaces (gu_ap guX9_knownFigures (gu_ap guX9_gonePlaces (gu_ap guJ6_bitCount_0f7a4 (gu_ap guX9_power (gu_ap guX2_tallyFitting (gu_ap guX2_firstFitting (gu_ap gws_X9 gws_X2)))))))))))))
theorem gX9_worn__X9_hasSlot_V206 : GoodIn uX9_worn (wsV RX9 206 RX9 yX9_hasSlot uX9_hasSlot) := gin_V (List.mem_of_getElem? (i := 1) rfl) (List.mem_of_getElem? (i := 2) rfl) (List.mem_of_getElem? (i := 3) rfl) (List.mem_of_getElem? (i := 4) rfl) (fun _ h => (List.mem_cons_of_mem _ (List.mem_append_right _ (List.mem_append_left _ h)))) guX9_hasSlot
theorem gX9_worn__X2_hasLaw_V149 : GoodIn uX9_worn (wsV RX9 149 RX2 yX2_hasLaw uX2_hasLaw) := gin_V (List.mem_of_getElem? (i := 6) rfl) (List.mem_of_getElem? (i := 7) rfl) (List.mem_of_getElem? (i := 8) rfl) (List.mem_of_getElem? (i := 9) rfl) (fun _ h => (List.mem_cons_of_mem _ (List.mem_append_right _ (List.mem_append_right _ (List.mem_append_left _ h))))) guX2_hasLaw
theorem gX9_worn__X9_isWithin_S158 : GoodIn uX9_worn (va_wsS RX9 158 yX9_isWithin uX9_isWithin) := gin_S (List.mem_of_getElem? (i := 10) rfl) (List.mem_of_getElem? (i := 11) rfl) (List.mem_of_getElem? (i := 4) rfl) (fun _ h => (List.mem_cons_of_mem _ (List.mem_append_right _ (List.mem_append_right _ (List.mem_append_right _ (List.mem_append_left _ h)))))) guX9_isWithin
theorem gX9_worn__X9_refusalOfWorn_V209 : GoodIn uX9_worn (wsV RX9 209 RX9 yX9_refusalOfWorn uX9_refusalOfWorn) := gin_V (List.mem_of_getElem? (i := 13) rfl) (List.mem_of_getElem? (i := 14) rfl) (List.mem_of_getElem? (i := 15) rfl) (List.mem_of_getElem? (i := 4) rfl) (fun _ h => (List.mem_cons_of_mem _ (List.mem_append_right _ (List.mem_append_right _ (List.mem_append_right _ (List.mem_append_right _ (List.mem_append_left _ h))))))) guX9_refusalOfWorn
theorem gX9_worn__X9_knownPlaces_V213 : GoodIn uX9_worn (wsV RX9 213 RX9 yX9_knownPlaces uX9_knownPlaces) := gin_V (List.mem_of_getElem? (i := 16) rfl) (List.mem_of_getElem? (i := 17) rfl) (List.mem_of_getElem? (i := 18) rfl) (List.mem_of_getElem? (i := 4) rfl) (fun _ h => (List.mem_cons_of_mem _ (List.mem_append_right _ (List.mem_append_right _ (List.mem_append_right _ (List.mem_append_right _ (List.mem_append_right _ (List.mem_append_left _ h)))))))) guX9_knownPlaces
theorem gX9_worn__X9_knownFigures_V217 : GoodIn uX9_worn (wsV RX9 217 RX9 yX9_knownFigures uX9_knownFigures) := gin_V (List.mem_of_getElem? (i := 19) rfl) (List.mem_of_getElem? (i := 20) rfl) (List.mem_of_getElem? (i := 21) rfl) (List.mem_of_getElem? (i := 4) rfl) (fun _ h => (List.mem_cons_of_mem _ (List.mem_append_right _ (List.mem_append_right _ (List.mem_append_right _ (List.mem_append_right _ (List.mem_append_right _ (List.mem_append_right _ (List.mem_append_left _ h))))))))) guX9_knownFigures
theorem gX9_worn__X9_gonePlaces_V223 : GoodIn uX9_worn (wsV RX9 223 RX9 yX9_gonePlaces uX9_gonePlaces) := gin_V (List.mem_of_getElem? (i := 22) rfl) (List.mem_of_getElem? (i := 23) rfl) (List.mem_of_getElem? (i := 24) rfl) (List.mem_of_getElem? (i := 4) rfl) (fun _ h => (List.mem_cons_of_mem _ (List.mem_append_right _ (List.mem_append_right _ (List.mem_append_right _ (List.mem_append_right _ (List.mem_append_right _ (List.mem_append_right _ (List.mem_append_right _ (List.mem_append_left _ h)))))))))) guX9_gonePlaces
theorem gX9_worn__J6_bitCount_0f7a4_S198 : GoodIn uX9_worn (va_wsS RX9 198 yJ6_bitCount_0f7a4 uJ6_bitCount_0f7a4) := gin_S (List.mem_of_getElem? (i := 25) rfl) (List.mem_of_getElem? (i := 26) rfl) (List.mem_of_getElem? (i := 27) rfl) (fun _ h => (List.mem_cons_of_mem _ (List.mem_append_right _ (List.mem_append_right _ (List.mem_append_right _ (List.mem_append_right _ (List.mem_append_right _ (List.mem_append_right _ (List.mem_append_right _ (List.mem_append_right _ (List.mem_append_left _ h))))))))))) guJ6_bitCount_0f7a4
theorem gX9_worn__X9_power_S226 : GoodIn uX9_worn (va_wsS RX9 226 yX9_power uX9_power) := gin_S (List.mem_of_getElem? (i := 28) rfl) (List.mem_of_getElem? (i := 29) rfl) (List.mem_of_getElem? (i := 4) rfl) (fun _ h => (List.mem_cons_of_mem _ (List.mem_append_right _ (List.mem_append_right _ (List.mem_append_right _ (List.mem_append_right _ (List.mem_append_right _ (List.mem_append_right _ (List.mem_append_right _ (List.mem_append_right _ (List.mem_append_right _ (List.mem_append_left _ h)))))))))))) guX9_power
theorem gX9_worn__X2_tallyFitting_V229 : GoodIn uX9_worn (wsV RX9 229 RX2 yX2_tallyFitting uX2_tallyFitting) := gin_V (List.mem_of_getElem? (i := 30) rfl) (List.mem_of_getElem? (i := 31) rfl) (List.mem_of_getElem? (i := 32) rfl) (List.mem_of_getElem? (i := 9) rfl) (fun _ h => (List.mem_cons_of_mem _ (List.mem_append_right _ (List.mem_append_right _ (List.mem_append_right _ (List.mem_append_right _ (List.mem_append_right _ (List.mem_append_right _ (List.mem_append_right _ (List.mem_append_right _ (List.mem_append_right _ (List.mem_append_right _ (List.mem_append_left _ h))))))))))))) guX2_tallyFitting
theorem gX9_worn__X2_firstFitting_V233 : GoodIn uX9_worn (wsV RX9 233 RX2 yX2_firstFitting uX2_firstFitting) := gin_V (List.mem_of_getElem? (i := 33) rfl) (List.mem_of_getElem? (i := 34) rfl) (List.mem_of_getElem? (i := 35) rfl) (List.mem_of_getElem? (i := 9) rfl) (fun _ h => (List.mem_cons_of_mem _ (List.mem_append_right _ (List.mem_append_right _ (List.mem_append_right _ (List.mem_append_right _ (List.mem_append_right _ (List.mem_append_right _ (List.mem_append_right _ (List.mem_append_right _ (List.mem_append_right _ (List.mem_append_right _ (List.mem_append_right _ (List.mem_append_left _ h)))))))))))))) guX2_firstFitting
set_option maxHeartbeats 4000000 in
set_option maxRecDepth 100000 in
theorem kX9_worn (l : Launch) (dC : Nat → ClassId) (dI : Nat → Nat → Nat) (h0 : Nat) (tp : Nat) (sc : Nat) (rd : Nat) (cu : Nat) (im : Nat) (ig : Nat) (sl : Nat) (se : Nat) (sm : Nat) (fc : Nat) (ln : Int32) (bs : Int32) (tk : Int32) (lw : Int32) (li : Int32) (fa : Nat) (lu : Nat) (cS : ClassId) (s0 : Nat) (s1 : Nat) (s2 : Nat) (s3 : Nat) (n0 : Nat) (n1 : Nat) (n2 : Nat) (n3 : Nat) (wd0 : Int32) (wd1 : Int32) (wd2 : Int32) (wd3 : Int32) (rz0 : Int32) (rz1 : Int32) (rz2 : Int32) (rz3 : Int32) (cJ0 : ClassId) (cJ1 : ClassId) (cJ2 : ClassId) (cJ3 : ClassId) (g0 : Nat → Int64) (g1 : Nat → Int64) (g2 : Nat → Int64) (g3 : Nat → Int64) (cL : ClassId) (nl : Nat) (fl : Nat → Int32) (cF : ClassId) (nf : Nat) (ff : Nat → Int64) (a1 : Int32) (a2 : Int32) (a3 : Int32) (b_ln : (0 : Int) ≤ ln.toInt ∧ ln.toInt ≤ 12) (b_bs : (0 : Int) ≤ bs.toInt ∧ bs.toInt ≤ 16) (b_tk : (0 : Int) ≤ tk.toInt ∧ tk.toInt ≤ 20000) (b_lw : (0 : Int) ≤ lw.toInt ∧ lw.toInt ≤ 9) (b_wd0 : (-1 : Int) ≤ wd0.toInt ∧ wd0.toInt ≤ 3) (b_wd1 : (-1 : Int) ≤ wd1.toInt ∧ wd1.toInt ≤ 3) (b_wd2 : (-1 : Int) ≤ wd2.toInt ∧ wd2.toInt ≤ 3) (b_wd3 : (-1 : Int) ≤ wd3.toInt ∧ wd3.toInt ≤ 3) (b_rz0 : (0 : Int) ≤ rz0.toInt ∧ rz0.toInt ≤ 60) (b_rz1 : (0 : Int) ≤ rz1.toInt ∧ rz1.toInt ≤ 60) (b_rz2 : (0 : Int) ≤ rz2.toInt ∧ rz2.toInt ≤ 60) (b_rz3 : (0 : Int) ≤ rz3.toInt ∧ rz3.toInt ≤ 60) (hl1 : tk.toInt ≤ (nl : Int)) (hf1 : tk.toInt ≤ (nf : Int)) : Met l yX9_worn uX9_worn ({ frames := 4, cells := 0, slots := 0, locals := 95 }) (va_Pc [.ref h0, .int a1, .int a2, .int a3] (pw (dC, dI) vwCl [(h0, .inr (7, [.ref tp, .ref sc, .ref rd, .ref cu, .ref im, .ref ig, .ref sl, .ref se, .ref sm, .ref fc])), (cu, .inr (1, [.int ln, .int bs, .int tk, .int lw, .int li, .ref fa, .ref lu])), (sl, .inl (cS, 4, .inr (.inr (.inr (.inr (sf4 s0 s1 s2 s3)))))), (s0, .inr (2, [.int wd0, .int rz0, .ref n0])), (s1, .inr (2, [.int wd1, .int rz1, .ref n1])), (s2, .inr (2, [.int wd2, .int rz2, .ref n2])), (s3, .inr (2, [.int wd3, .int rz3, .ref n3])), (n0, .inl (cJ0, 60, .inr (.inl g0))), (n1, .inl (cJ1, 60, .inr (.inl g1))), (n2, .inl (cJ2, 60, .inr (.inl g2))), (n3, .inl (cJ3, 60, .inr (.inl g3))), (lu, .inl (cL, nl, .inl fl)), (fa, .inl (cF, nf, .inr (.inl ff)))] [(cS, .object RX3), (cJ0, .long), (cJ1, .long), (cJ2, .long), (cJ3, .long), (cL, .int), (cF, .long)])) (vp_Si (fun r => True)) 0 0 (fun _ => False) := by
  refine Met.ofW (cc := cX9_worn) (maxL := 10) (ret := (some .int)) pn_X9 rfl ?_
  intro p e s m args below meth c s₁ B hml hv
  obtain ⟨rfl, hP, hK, hN⟩ := hv
  have hx := B.exec
  have hb := B.bytes
  have hr := B.returns
  have hts := atoms_spec (ws := uX9_worn) B.pre
  have hown : s.vm.findClass RX9 = some m.cls := hown_of B.named rfl
  have hlocks := B.notSynchronized
  have hl := lv_entry ([.ref h0, .int a1, .int a2, .int a3]) (n := 10) (Nat.le_of_ble_eq_true rfl)
  rw [lg_entry_eq]
  generalize (lg_sl ([.ref h0, .int a1, .int a2, .int a3]) ++ List.replicate (10 - (lg_sl ([.ref h0, .int a1, .int a2, .int a3])).length) Slot.unset).toArray = ls at hl ⊢
  have hl : lv_has ls 10 [(0, .ref h0), (1, .int a1), (2, .int a2), (3, .int a3)] := hl
  refine lv_aload_n hx hb dX9_worn_0 rfl (lv_at hl 0 rfl) ?_
  refine lv_iload_n hx hb dX9_worn_1 rfl (lv_at hl 1 rfl) ?_
  refine vp_callSi (W.runV (As := [.int a1]) (rest := []) ⟨hx, hb, hml, hown, hts⟩ (kX9_hasSlot l dC dI h0 tp sc rd cu im ig sl se sm fc cS s0 s1 s2 s3 a1 ) (cwV 1 hts gX9_worn__X9_hasSlot_V206 rfl rfl rfl hd_yX9_hasSlot ⟨lel 2 4 rfl, lel 43 95 rfl⟩) ⟨pw_fb, rcv_X9 hK hP (q0 := 0) rfl, (pw_use hP hK hN [0, 2] rfl [0] rfl)⟩ rfl rfl hl.1 rfl (lv_room (Nat.le_of_ble_eq_true rfl)) dX9_worn_2 ⟨lel 0 0 rfl, lel 0 0 rfl⟩) (fun r_23 h_r_23 => ?_)
  obtain ⟨b_r_23, nz_r_23⟩ := h_r_23
  have b_r_23 : (0 : Int) ≤ r_23.toInt ∧ r_23.toInt ≤ 1 := b_r_23
  refine lv_if_eq (tgt := 28) hx hb dX9_worn_5 (by decide) (fun c_24 => ?_) (fun c_24 => ?_)
  ·
    have n_c_24 : (r_23.toInt : Int) = 0 := c_eq rfl (by decide) c_24
    have b_r_23 : (0 : Int) ≤ r_23.toInt ∧ r_23.toInt ≤ 0 := r_eq1 b_r_23 (by decide : (0 : Int) ≤ (0 : Int32).toInt ∧ (0 : Int32).toInt ≤ 0) n_c_24 (by decide)
    refine lv_bipush (v := (-2)) hx hb dX9_worn_28 (by decide) ?_
    exact W.iret (v := (-2)) hx hb hr (fun t ht hW => ⟨(-2), rfl, trivial, ht⟩) t_nil dX9_worn_30
  ·
    have n_c_24 : (r_23.toInt : Int) ≠ 0 := c_ne rfl (by decide) c_24
    have b_r_23 : (1 : Int) ≤ r_23.toInt ∧ r_23.toInt ≤ 1 := r_ne1 b_r_23 (by decide : (0 : Int) ≤ (0 : Int32).toInt ∧ (0 : Int32).toInt ≤ 0) n_c_24 (by decide)
    obtain ⟨b_a1, g_25⟩ := nz_r_23 c_24
    refine lv_aload_n hx hb dX9_worn_8 rfl (lv_at hl 0 rfl) ?_
    refine va_get (D := (dC, dI)) (ci := 7) (v := .ref cu) (C := RX9) (T := TX9) (N := 10) hx hb hts iX9_worn_X9 hown hK hP 0 rfl rfl 3 (by decide) (hts (.fieldLink RX9 35 "LuckyTicket" "current" "LLuckyTicket$Roll;") (List.mem_of_getElem? (i := 5) rfl)) (fun _ h9 => h9) rfl dX9_worn_9 ?_
    refine lv_iload_n hx hb dX9_worn_12 rfl (lv_at hl 2 rfl) ?_
    refine vp_callSi (W.runV (As := [.int a2]) (rest := []) ⟨hx, hb, hml, hown, hts⟩ (kX2_hasLaw l dC dI cu ln bs tk lw li fa lu a2 b_ln b_bs b_tk b_lw) (cwV 1 hts gX9_worn__X2_hasLaw_V149 rfl rfl rfl hd_yX2_hasLaw ⟨lel 1 4 rfl, lel 21 95 rfl⟩) ⟨pw_fb, rcv_X2 hK hP (q0 := 1) rfl, (pw_use hP hK hN [1] rfl [] rfl)⟩ rfl rfl hl.1 rfl (lv_room (Nat.le_of_ble_eq_true rfl)) dX9_worn_13 ⟨lel 0 0 rfl, lel 0 0 rfl⟩) (fun r_26 h_r_26 => ?_)
    obtain ⟨b_r_26, nz_r_26⟩ := h_r_26
    have b_r_26 : (0 : Int) ≤ r_26.toInt ∧ r_26.toInt ≤ 1 := b_r_26
    refine lv_if_eq (tgt := 28) hx hb dX9_worn_16 (by decide) (fun c_27 => ?_) (fun c_27 => ?_)
    ·
      have n_c_27 : (r_26.toInt : Int) = 0 := c_eq rfl (by decide) c_27
      have b_r_26 : (0 : Int) ≤ r_26.toInt ∧ r_26.toInt ≤ 0 := r_eq1 b_r_26 (by decide : (0 : Int) ≤ (0 : Int32).toInt ∧ (0 : Int32).toInt ≤ 0) n_c_27 (by decide)
      refine lv_bipush (v := (-2)) hx hb dX9_worn_28 (by decide) ?_
      exact W.iret (v := (-2)) hx hb hr (fun t ht hW => ⟨(-2), rfl, trivial, ht⟩) t_nil dX9_worn_30
    ·
      have n_c_27 : (r_26.toInt : Int) ≠ 0 := c_ne rfl (by decide) c_27
      have b_r_26 : (1 : Int) ≤ r_26.toInt ∧ r_26.toInt ≤ 1 := r_ne1 b_r_26 (by decide : (0 : Int) ≤ (0 : Int32).toInt ∧ (0 : Int32).toInt ≤ 0) n_c_27 (by decide)
      obtain ⟨b_a2, g_28⟩ := nz_r_26 c_27
      refine lv_iload_n hx hb dX9_worn_19 rfl (lv_at hl 3 rfl) ?_
      refine lv_iconst (v := 0) hx hb dX9_worn_20 (by decide) ?_
      refine lv_iconst (v := 3) hx hb dX9_worn_21 (by decide) ?_
      refine vp_callSi (W.runS (As := [.int a3, .int 0, .int 3]) (rest := []) ⟨hx, hb, hml, hown, hts⟩ (kX9_isWithin l dC dI a3 0 3 ) (va_cwS 3 hts gX9_worn__X9_isWithin_S158 rfl rfl rfl hd_yX9_isWithin.2 ⟨lel 1 4 rfl, lel 22 95 rfl⟩) ⟨pn_fb, pn_use⟩ rfl rfl hl.1 rfl (lv_room (Nat.le_of_ble_eq_true rfl)) dX9_worn_22 ⟨lel 0 0 rfl, lel 0 0 rfl⟩) (fun r_29 h_r_29 => ?_)
      obtain ⟨b_r_29, nz_r_29⟩ := h_r_29
      have b_r_29 : (0 : Int) ≤ r_29.toInt ∧ r_29.toInt ≤ 1 := b_r_29
      refine lv_if_ne (tgt := 31) hx hb dX9_worn_25 (by decide) (fun c_30 => ?_) (fun c_30 => ?_)
      ·
        have n_c_30 : (r_29.toInt : Int) ≠ 0 := c_ne rfl (by decide) c_30
        have b_r_29 : (1 : Int) ≤ r_29.toInt ∧ r_29.toInt ≤ 1 := r_ne1 b_r_29 (by decide : (0 : Int) ≤ (0 : Int32).toInt ∧ (0 : Int32).toInt ≤ 0) n_c_30 (by decide)
        have g_31 := nz_r_29 c_30
        have lt0_g_31 := (by decide : (0 : Int32).toInt = 0)
        have lt1_g_31 := (by decide : (3 : Int32).toInt = 3)
        have b_a3 : (0 : Int) ≤ a3.toInt ∧ a3.toInt ≤ 3 := by
          have q0 := (ti_rng a3)
          have q1 := (by decide : (0 : Int) ≤ (0 : Int32).toInt ∧ (0 : Int32).toInt ≤ 0)
          have q2 := (by decide : (3 : Int) ≤ (3 : Int32).toInt ∧ (3 : Int32).toInt ≤ 3)
          omega
        refine lv_aload_n hx hb dX9_worn_31 rfl (lv_at hl 0 rfl) ?_
        refine va_get (D := (dC, dI)) (ci := 7) (v := .ref sl) (C := RX9) (T := TX9) (N := 10) hx hb hts iX9_worn_X9 hown hK hP 0 rfl rfl 6 (by decide) (hts (.fieldLink RX9 50 "LuckyTicket" "slots" "[LLuckyTicket$Row;") (List.mem_of_getElem? (i := 12) rfl)) (fun _ h9 => h9) rfl dX9_worn_32 ?_
        refine lv_iload_n hx hb dX9_worn_35 rfl (lv_at hl 1 rfl) ?_
        refine cutP (σ := Nat × Int32 × Int32 × Nat × ClassId × (Nat → Int64)) (pc2 := 37) (st2 := fun v => .ref v.1 :: []) (cells2 := 0) (slots2 := 0) (fun v ls => ((-1 : Int) ≤ v.2.1.toInt ∧ v.2.1.toInt ≤ 3) ∧ ((0 : Int) ≤ v.2.2.1.toInt ∧ v.2.2.1.toInt ≤ 60) ∧ (va_P (dC, dI) vwCl [(h0, .inr (7, [.ref tp, .ref sc, .ref rd, .ref cu, .ref im, .ref ig, .ref sl, .ref se, .ref sm, .ref fc])), (cu, .inr (1, [.int ln, .int bs, .int tk, .int lw, .int li, .ref fa, .ref lu])), (lu, .inl (cL, nl, .inl fl)), (fa, .inl (cF, nf, .inr (.inl ff))), (v.1, .inr (2, [.int v.2.1, .int v.2.2.1, .ref v.2.2.2.1])), (v.2.2.2.1, .inl (v.2.2.2.2.1, 60, .inr (.inl v.2.2.2.2.2)))] s.heap) ∧ (va_K (dC, dI) vwCl [(cL, .int), (cF, .long), (v.2.2.2.2.1, .long)] s) ∧ (lv_has ls 10 [(0, .ref h0), (1, .int a1), (2, .int a2), (3, .int a3)])) (fun v ls hI => ?_) (fun hj_36_32 => ?_)
        ·
          obtain ⟨rw_32, wd_32, rz_32, nu_32, cN_32, fn_32⟩ := v
          obtain ⟨b_wd_32, b_rz_32, hP, hK, hl⟩ := hI
          have b_wd_32 : (-1 : Int) ≤ wd_32.toInt ∧ wd_32.toInt ≤ 3 := b_wd_32
          have b_rz_32 : (0 : Int) ≤ rz_32.toInt ∧ rz_32.toInt ≤ 60 := b_rz_32
          have hP : va_P (dC, dI) vwCl [(h0, .inr (7, [.ref tp, .ref sc, .ref rd, .ref cu, .ref im, .ref ig, .ref sl, .ref se, .ref sm, .ref fc])), (cu, .inr (1, [.int ln, .int bs, .int tk, .int lw, .int li, .ref fa, .ref lu])), (lu, .inl (cL, nl, .inl fl)), (fa, .inl (cF, nf, .inr (.inl ff))), (rw_32, .inr (2, [.int wd_32, .int rz_32, .ref nu_32])), (nu_32, .inl (cN_32, 60, .inr (.inl fn_32)))] s.heap := hP
          have hK : va_K (dC, dI) vwCl [(cL, .int), (cF, .long), (cN_32, .long)] s := hK
          have hl : lv_has ls 10 [(0, .ref h0), (1, .int a1), (2, .int a2), (3, .int a3)] := hl
          refine lv_astore (lv' := [(4, .ref rw_32), (0, .ref h0), (1, .int a1), (2, .int a2), (3, .int a3)]) hx hb dX9_worn_37 hl (by decide) rfl (fun ls hl => ?_)
          refine lv_aload_n hx hb dX9_worn_39 rfl (lv_at hl 1 rfl) ?_
          refine lv_aload hx hb dX9_worn_40 (lv_at hl 0 rfl) ?_
          refine vp_callSi (W.runV (As := [.ref rw_32]) (rest := []) ⟨hx, hb, hml, hown, hts⟩ (kX9_refusalOfWorn l dC dI h0 tp sc rd cu im ig sl se sm fc ln bs tk lw li fa lu rw_32 wd_32 rz_32 nu_32 cN_32 fn_32 b_ln b_bs b_tk b_lw b_wd_32 b_rz_32) (cwV 1 hts gX9_worn__X9_refusalOfWorn_V209 rfl rfl rfl hd_yX9_refusalOfWorn ⟨lel 2 4 rfl, lel 41 95 rfl⟩) ⟨pw_fb, rcv_X9 hK hP (q0 := 0) rfl, (pw_use hP hK hN [0, 1, 4, 5] rfl [2] rfl)⟩ rfl rfl hl.1 rfl (lv_room (Nat.le_of_ble_eq_true rfl)) dX9_worn_42 ⟨lel 0 0 rfl, lel 0 0 rfl⟩) (fun r_33 h_r_33 => ?_)
          have b_r_33 := h_r_33
          have b_r_33 : (-7 : Int) ≤ r_33.toInt ∧ r_33.toInt ≤ 0 := b_r_33
          refine lv_istore (lv' := [(5, .int r_33), (4, .ref rw_32), (0, .ref h0), (1, .int a1), (2, .int a2), (3, .int a3)]) hx hb dX9_worn_45 hl (by decide) rfl (fun ls hl => ?_)
          refine lv_iload hx hb dX9_worn_47 (lv_at hl 0 rfl) ?_
          refine lv_if_eq (tgt := 55) hx hb dX9_worn_49 (by decide) (fun c_34 => ?_) (fun c_34 => ?_)
          ·
            have n_c_34 : (r_33.toInt : Int) = 0 := c_eq rfl (by decide) c_34
            have b_r_33 : (0 : Int) ≤ r_33.toInt ∧ r_33.toInt ≤ 0 := r_eq1 b_r_33 (by decide : (0 : Int) ≤ (0 : Int32).toInt ∧ (0 : Int32).toInt ≤ 0) n_c_34 (by decide)
            refine lv_aload_n hx hb dX9_worn_55 rfl (lv_at hl 2 rfl) ?_
            refine lv_aload hx hb dX9_worn_56 (lv_at hl 1 rfl) ?_
            refine vp_callSl (W.runV (As := [.ref rw_32]) (rest := []) ⟨hx, hb, hml, hown, hts⟩ (kX9_knownPlaces l dC dI h0 tp sc rd cu im ig sl se sm fc ln bs tk lw li fa lu rw_32 wd_32 rz_32 nu_32 cN_32 fn_32 b_ln b_bs b_tk b_lw b_wd_32 b_rz_32) (cwV 1 hts gX9_worn__X9_knownPlaces_V213 rfl rfl rfl hd_yX9_knownPlaces ⟨lel 2 4 rfl, lel 46 95 rfl⟩) ⟨pw_fb, rcv_X9 hK hP (q0 := 0) rfl, (pw_use hP hK hN [0, 1, 4, 5] rfl [2] rfl)⟩ rfl rfl hl.1 rfl (lv_room (Nat.le_of_ble_eq_true rfl)) dX9_worn_58 ⟨lel 0 0 rfl, lel 0 0 rfl⟩) (fun r_35 h_r_35 => ?_)
            refine lv_lstore (lv' := [(6, .long r_35), (5, .int r_33), (4, .ref rw_32), (0, .ref h0), (1, .int a1), (2, .int a2), (3, .int a3)]) hx hb dX9_worn_61 hl (by decide) rfl (fun ls hl => ?_)
            refine lv_aload_n hx hb dX9_worn_63 rfl (lv_at hl 3 rfl) ?_
            refine lv_aload hx hb dX9_worn_64 (lv_at hl 2 rfl) ?_
            refine vp_callSl (W.runV (As := [.ref rw_32]) (rest := []) ⟨hx, hb, hml, hown, hts⟩ (kX9_knownFigures l dC dI h0 tp sc rd cu im ig sl se sm fc ln bs tk lw li fa lu rw_32 wd_32 rz_32 nu_32 cN_32 fn_32 b_ln b_bs b_tk b_lw b_wd_32 b_rz_32) (cwV 1 hts gX9_worn__X9_knownFigures_V217 rfl rfl rfl hd_yX9_knownFigures ⟨lel 2 4 rfl, lel 49 95 rfl⟩) ⟨pw_fb, rcv_X9 hK hP (q0 := 0) rfl, (pw_use hP hK hN [0, 1, 4, 5] rfl [2] rfl)⟩ rfl rfl hl.1 rfl (lv_room (Nat.le_of_ble_eq_true rfl)) dX9_worn_66 ⟨lel 0 0 rfl, lel 0 0 rfl⟩) (fun r_36 h_r_36 => ?_)
            refine lv_lstore (lv' := [(8, .long r_36), (6, .long r_35), (5, .int r_33), (4, .ref rw_32), (0, .ref h0), (1, .int a1), (2, .int a2), (3, .int a3)]) hx hb dX9_worn_69 hl (by decide) rfl (fun ls hl => ?_)
            refine lv_iload_n hx hb dX9_worn_71 rfl (lv_at hl 7 rfl) ?_
            rcases (show (a3.toInt < 0 ∨ 2 < a3.toInt) ∨ a3.toInt = 0 ∨ a3.toInt = 1 ∨ a3.toInt = 2 by omega) with c_37 | c_37 | c_37 | c_37
            ·
              refine lv_tableOut (tgt := 146) hx hb dX9_worn_72 c_37 (by decide) ?_
              refine lv_aload_n hx hb dX9_worn_146 rfl (lv_at hl 4 rfl) ?_
              refine lv_aload hx hb dX9_worn_147 (lv_at hl 3 rfl) ?_
              refine vp_callSi (W.runV (As := [.ref rw_32]) (rest := []) ⟨hx, hb, hml, hown, hts⟩ (kX9_gonePlaces l dC dI h0 tp sc rd cu im ig sl se sm fc ln bs tk lw li fa lu rw_32 wd_32 rz_32 nu_32 cN_32 fn_32 b_ln b_bs b_tk b_lw b_wd_32 b_rz_32) (cwV 1 hts gX9_worn__X9_gonePlaces_V223 rfl rfl rfl hd_yX9_gonePlaces ⟨lel 2 4 rfl, lel 45 95 rfl⟩) ⟨pw_fb, rcv_X9 hK hP (q0 := 0) rfl, (pw_use hP hK hN [0, 1, 4, 5] rfl [2] rfl)⟩ rfl rfl hl.1 rfl (lv_room (Nat.le_of_ble_eq_true rfl)) dX9_worn_149 ⟨lel 0 0 rfl, lel 0 0 rfl⟩) (fun r_38 h_r_38 => ?_)
              exact W.iret (v := r_38) hx hb hr (fun t ht hW => ⟨r_38, rfl, trivial, ht⟩) t_nil dX9_worn_152
            ·
              refine lv_tableIn (off := 28) (tgt := 100) hx hb dX9_worn_72 (by omega) (by omega) (by rw [c_37]; rfl) (by decide) ?_
              have b_a3 : (0 : Int) ≤ a3.toInt ∧ a3.toInt ≤ 0 := ⟨by omega, by omega⟩
              refine lv_aload_n hx hb dX9_worn_100 rfl (lv_at hl 4 rfl) ?_
              refine va_get (D := (dC, dI)) (ci := 7) (v := .ref cu) (C := RX9) (T := TX9) (N := 10) hx hb hts iX9_worn_X9 hown hK hP 0 rfl rfl 3 (by decide) (hts (.fieldLink RX9 35 "LuckyTicket" "current" "LLuckyTicket$Roll;") (List.mem_of_getElem? (i := 5) rfl)) (fun _ h9 => h9) rfl dX9_worn_101 ?_
              refine va_getN (own := RX9) (index := 220) (ref := RX2) (host := RX9) (D := (dC, dI)) (ci := 1) (v := .int bs) (C := RX2) (T := TX2) (N := 7) hx hb hts iX9_worn_X2 hown hK hP 1 rfl rfl 1 (by decide) (va_Nw.use rfl (hN _ (List.mem_of_getElem? (i := 16) rfl))) (fun _ h9 => h9) rfl dX9_worn_104 ?_
              refine lv_aload_n hx hb dX9_worn_107 rfl (lv_at hl 4 rfl) ?_
              refine lv_aload hx hb dX9_worn_108 (lv_at hl 3 rfl) ?_
              refine vp_callSi (W.runV (As := [.ref rw_32]) (rest := [.int bs]) ⟨hx, hb, hml, hown, hts⟩ (kX9_gonePlaces l dC dI h0 tp sc rd cu im ig sl se sm fc ln bs tk lw li fa lu rw_32 wd_32 rz_32 nu_32 cN_32 fn_32 b_ln b_bs b_tk b_lw b_wd_32 b_rz_32) (cwV 1 hts gX9_worn__X9_gonePlaces_V223 rfl rfl rfl hd_yX9_gonePlaces ⟨lel 2 4 rfl, lel 45 95 rfl⟩) ⟨pw_fb, rcv_X9 hK hP (q0 := 0) rfl, (pw_use hP hK hN [0, 1, 4, 5] rfl [2] rfl)⟩ rfl rfl hl.1 rfl (lv_room (Nat.le_of_ble_eq_true rfl)) dX9_worn_110 ⟨lel 0 0 rfl, lel 0 0 rfl⟩) (fun r_39 h_r_39 => ?_)
              refine vp_callSi (W.runS (As := [.int r_39]) (rest := [.int bs]) ⟨hx, hb, hml, hown, hts⟩ (kJ6_bitCount_0f7a4 l dC dI r_39 ) (va_cwS 1 hts gX9_worn__J6_bitCount_0f7a4_S198 rfl rfl rfl hd_yJ6_bitCount_0f7a4.2 ⟨lel 1 4 rfl, lel 20 95 rfl⟩) ⟨pn_fb, pn_use⟩ rfl rfl hl.1 rfl (lv_room (Nat.le_of_ble_eq_true rfl)) dX9_worn_113 ⟨lel 0 0 rfl, lel 0 0 rfl⟩) (fun r_40 h_r_40 => ?_)
              have b_r_40 := h_r_40
              have b_r_40 : (0 : Int) ≤ r_40.toInt ∧ r_40.toInt ≤ 63 := b_r_40
              refine vp_callSi (W.runS (As := [.int bs, .int r_40]) (rest := []) ⟨hx, hb, hml, hown, hts⟩ (kX9_power l dC dI bs r_40 ) (va_cwS 2 hts gX9_worn__X9_power_S226 rfl rfl rfl hd_yX9_power.2 ⟨lel 1 4 rfl, lel 23 95 rfl⟩) ⟨pn_fb, pn_use⟩ rfl rfl hl.1 rfl (lv_room (Nat.le_of_ble_eq_true rfl)) dX9_worn_116 ⟨lel 0 0 rfl, lel 0 0 rfl⟩) (fun r_41 h_r_41 => ?_)
              exact W.iret (v := r_41) hx hb hr (fun t ht hW => ⟨r_41, rfl, trivial, ht⟩) t_nil dX9_worn_119
            ·
              refine lv_tableIn (off := 48) (tgt := 120) hx hb dX9_worn_72 (by omega) (by omega) (by rw [c_37]; rfl) (by decide) ?_
              have b_a3 : (1 : Int) ≤ a3.toInt ∧ a3.toInt ≤ 1 := ⟨by omega, by omega⟩
              refine lv_aload_n hx hb dX9_worn_120 rfl (lv_at hl 4 rfl) ?_
              refine va_get (D := (dC, dI)) (ci := 7) (v := .ref cu) (C := RX9) (T := TX9) (N := 10) hx hb hts iX9_worn_X9 hown hK hP 0 rfl rfl 3 (by decide) (hts (.fieldLink RX9 35 "LuckyTicket" "current" "LLuckyTicket$Roll;") (List.mem_of_getElem? (i := 5) rfl)) (fun _ h9 => h9) rfl dX9_worn_121 ?_
              refine lv_iload_n hx hb dX9_worn_124 rfl (lv_at hl 6 rfl) ?_
              refine lv_lload hx hb dX9_worn_125 (lv_at hl 1 rfl) ?_
              refine lv_lload hx hb dX9_worn_127 (lv_at hl 0 rfl) ?_
              refine vp_callSi (W.runV (As := [.int a2, .long r_35, .long r_36]) (rest := []) ⟨hx, hb, hml, hown, hts⟩ (kX2_tallyFitting l dC dI cu ln bs tk lw li fa lu cL nl fl cF nf ff a2 r_35 r_36 b_ln b_bs b_tk b_lw (by omega) (by omega)) (cwV 3 hts gX9_worn__X2_tallyFitting_V229 rfl rfl rfl hd_yX2_tallyFitting ⟨lel 4 4 rfl, lel 95 95 rfl⟩) ⟨pw_fb, rcv_X2 hK hP (q0 := 1) rfl, (pw_use hP hK hN [1, 2, 3] rfl [0, 1] rfl)⟩ rfl rfl hl.1 rfl (lv_room (Nat.le_of_ble_eq_true rfl)) dX9_worn_129 ⟨lel 0 0 rfl, lel 0 0 rfl⟩) (fun r_42 h_r_42 => ?_)
              exact W.iret (v := r_42) hx hb hr (fun t ht hW => ⟨r_42, rfl, trivial, ht⟩) t_nil dX9_worn_132
            ·
              refine lv_tableIn (off := 61) (tgt := 133) hx hb dX9_worn_72 (by omega) (by omega) (by rw [c_37]; rfl) (by decide) ?_
              have b_a3 : (2 : Int) ≤ a3.toInt ∧ a3.toInt ≤ 2 := ⟨by omega, by omega⟩
              refine lv_aload_n hx hb dX9_worn_133 rfl (lv_at hl 4 rfl) ?_
              refine va_get (D := (dC, dI)) (ci := 7) (v := .ref cu) (C := RX9) (T := TX9) (N := 10) hx hb hts iX9_worn_X9 hown hK hP 0 rfl rfl 3 (by decide) (hts (.fieldLink RX9 35 "LuckyTicket" "current" "LLuckyTicket$Roll;") (List.mem_of_getElem? (i := 5) rfl)) (fun _ h9 => h9) rfl dX9_worn_134 ?_
              refine lv_iload_n hx hb dX9_worn_137 rfl (lv_at hl 6 rfl) ?_
              refine lv_lload hx hb dX9_worn_138 (lv_at hl 1 rfl) ?_
              refine lv_lload hx hb dX9_worn_140 (lv_at hl 0 rfl) ?_
              refine vp_callSi (W.runV (As := [.int a2, .long r_35, .long r_36]) (rest := []) ⟨hx, hb, hml, hown, hts⟩ (kX2_firstFitting l dC dI cu ln bs tk lw li fa lu cL nl fl cF nf ff a2 r_35 r_36 b_ln b_bs b_tk b_lw (by omega) (by omega)) (cwV 3 hts gX9_worn__X2_firstFitting_V233 rfl rfl rfl hd_yX2_firstFitting ⟨lel 4 4 rfl, lel 94 95 rfl⟩) ⟨pw_fb, rcv_X2 hK hP (q0 := 1) rfl, (pw_use hP hK hN [1, 2, 3] rfl [0, 1] rfl)⟩ rfl rfl hl.1 rfl (lv_room (Nat.le_of_ble_eq_true rfl)) dX9_worn_142 ⟨lel 0 0 rfl, lel 0 0 rfl⟩) (fun r_43 h_r_43 => ?_)
              have b_r_43 := h_r_43
              have b_r_43 : (-1 : Int) ≤ r_43.toInt ∧ r_43.toInt ≤ 19999 := b_r_43
              exact W.iret (v := r_43) hx hb hr (fun t ht hW => ⟨r_43, rfl, trivial, ht⟩) t_nil dX9_worn_145
          ·
            have n_c_34 : (r_33.toInt : Int) ≠ 0 := c_ne rfl (by decide) c_34
            have b_r_33 : (-7 : Int) ≤ r_33.toInt ∧ r_33.toInt ≤ -1 := r_ne2 b_r_33 (by decide : (0 : Int) ≤ (0 : Int32).toInt ∧ (0 : Int32).toInt ≤ 0) n_c_34 (by decide)
            refine lv_iload hx hb dX9_worn_52 (lv_at hl 0 rfl) ?_
            exact W.iret (v := r_33) hx hb hr (fun t ht hW => ⟨r_33, rfl, trivial, ht⟩) t_nil dX9_worn_54
        ·
          rcases (show a1.toInt = 0 ∨ a1.toInt = 1 ∨ a1.toInt = 2 ∨ a1.toInt = 3 by omega) with h_44 | h_44 | h_44 | h_44
          ·
            obtain rfl : a1 = 0 := Int32.toInt_inj.mp (h_44.trans (by decide))
            refine va_aldq hx hb hK hP 2 0 rfl rfl (vp_in_lit (by decide)) dX9_worn_36 ?_
            refine W.eq (g2 := F0 m 37 ls (.ref s0 :: [])) (congrArg (fun v => F0 m 37 ls (va_rf v :: [])) (sf4_0 s0 s1 s2 s3)) ?_
            exact hj_36_32 (s0, wd0, rz0, n0, cJ0, g0) _ ⟨b_wd0, b_rz0, hP.sub [0, 1, 11, 12, 3, 7] rfl, hK.sub [5, 6, 1] rfl, hl⟩
          ·
            obtain rfl : a1 = 1 := Int32.toInt_inj.mp (h_44.trans (by decide))
            refine va_aldq hx hb hK hP 2 0 rfl rfl (vp_in_lit (by decide)) dX9_worn_36 ?_
            refine W.eq (g2 := F0 m 37 ls (.ref s1 :: [])) (congrArg (fun v => F0 m 37 ls (va_rf v :: [])) (sf4_1 s0 s1 s2 s3)) ?_
            exact hj_36_32 (s1, wd1, rz1, n1, cJ1, g1) _ ⟨b_wd1, b_rz1, hP.sub [0, 1, 11, 12, 4, 8] rfl, hK.sub [5, 6, 2] rfl, hl⟩
          ·
            obtain rfl : a1 = 2 := Int32.toInt_inj.mp (h_44.trans (by decide))
            refine va_aldq hx hb hK hP 2 0 rfl rfl (vp_in_lit (by decide)) dX9_worn_36 ?_
            refine W.eq (g2 := F0 m 37 ls (.ref s2 :: [])) (congrArg (fun v => F0 m 37 ls (va_rf v :: [])) (sf4_2 s0 s1 s2 s3)) ?_
            exact hj_36_32 (s2, wd2, rz2, n2, cJ2, g2) _ ⟨b_wd2, b_rz2, hP.sub [0, 1, 11, 12, 5, 9] rfl, hK.sub [5, 6, 3] rfl, hl⟩
          ·
            obtain rfl : a1 = 3 := Int32.toInt_inj.mp (h_44.trans (by decide))
            refine va_aldq hx hb hK hP 2 0 rfl rfl (vp_in_lit (by decide)) dX9_worn_36 ?_
            refine W.eq (g2 := F0 m 37 ls (.ref s3 :: [])) (congrArg (fun v => F0 m 37 ls (va_rf v :: [])) (sf4_3 s0 s1 s2 s3)) ?_
            exact hj_36_32 (s3, wd3, rz3, n3, cJ3, g3) _ ⟨b_wd3, b_rz3, hP.sub [0, 1, 11, 12, 6, 10] rfl, hK.sub [5, 6, 4] rfl, hl⟩
      ·
        have n_c_30 : (r_29.toInt : Int) = 0 := c_eq rfl (by decide) c_30
        have b_r_29 : (0 : Int) ≤ r_29.toInt ∧ r_29.toInt ≤ 0 := r_eq1 b_r_29 (by decide : (0 : Int) ≤ (0 : Int32).toInt ∧ (0 : Int32).toInt ≤ 0) n_c_30 (by decide)
        refine lv_bipush (v := (-2)) hx hb dX9_worn_28 (by decide) ?_
        exact W.iret (v := (-2)) hx hb hr (fun t ht hW => ⟨(-2), rfl, trivial, ht⟩) t_nil dX9_worn_30
theorem dX9_likely_0 : decode cX9_likely 0 = .ok (.aload_n 0, 1) := by decide +kernel
theorem dX9_likely_1 : decode cX9_likely 1 = .ok (.iload_n 1, 1) := by decide +kernel
theorem dX9_likely_2 : decode cX9_likely 2 = .ok (.invokevirtual 206, 3) := by decide +kernel
theorem dX9_likely_5 : decode cX9_likely 5 = .ok (.ifCond .eq 38, 3) := by decide +kernel
theorem dX9_likely_8 : decode cX9_likely 8 = .ok (.aload_n 0, 1) := by decide +kernel
theorem dX9_likely_9 : decode cX9_likely 9 = .ok (.getfield 35, 3) := by decide +kernel
theorem dX9_likely_12 : decode cX9_likely 12 = .ok (.iload_n 2, 1) := by decide +kernel
theorem dX9_likely_13 : decode cX9_likely 13 = .ok (.invokevirtual 149, 3) := by decide +kernel
theorem dX9_likely_16 : decode cX9_likely 16 = .ok (.ifCond .eq 27, 3) := by decide +kernel
theorem dX9_likely_19 : decode cX9_likely 19 = .ok (.aload_n 0, 1) := by decide +kernel
theorem dX9_likely_20 : decode cX9_likely 20 = .ok (.getfield 35, 3) := by decide +kernel
theorem dX9_likely_23 : decode cX9_likely 23 = .ok (.iload_n 3, 1) := by decide +kernel
theorem dX9_likely_24 : decode cX9_likely 24 = .ok (.invokevirtual 103, 3) := by decide +kernel
theorem dX9_likely_27 : decode cX9_likely 27 = .ok (.ifCond .eq 16, 3) := by decide +kernel
theorem dX9_likely_30 : decode cX9_likely 30 = .ok (.aload_n 0, 1) := by decide +kernel
theorem dX9_likely_31 : decode cX9_likely 31 = .ok (.getfield 35, 3) := by decide +kernel
theorem dX9_likely_34 : decode cX9_likely 34 = .ok (.iload 4, 2) := by decide +kernel
theorem dX9_likely_36 : decode cX9_likely 36 = .ok (.i2l, 1) := by decide +kernel
theorem dX9_likely_37 : decode cX9_likely 37 = .ok (.invokevirtual 236, 3) := by decide +kernel
theorem dX9_likely_40 : decode cX9_likely 40 = .ok (.ifCond .ne 6, 3) := by decide +kernel
theorem dX9_likely_43 : decode cX9_likely 43 = .ok (.bipush (-2), 2) := by decide +kernel
theorem dX9_likely_45 : decode cX9_likely 45 = .ok (.ireturn, 1) := by decide +kernel
theorem dX9_likely_46 : decode cX9_likely 46 = .ok (.aload_n 0, 1) := by decide +kernel
theorem dX9_likely_47 : decode cX9_likely 47 = .ok (.getfield 50, 3) := by decide +kernel
theorem dX9_likely_50 : decode cX9_likely 50 = .ok (.iload_n 1, 1) := by decide +kernel
theorem dX9_likely_51 : decode cX9_likely 51 = .ok (.aaload, 1) := by decide +kernel
theorem dX9_likely_52 : decode cX9_likely 52 = .ok (.astore 5, 2) := by decide +kernel
theorem dX9_likely_54 : decode cX9_likely 54 = .ok (.aload_n 0, 1) := by decide +kernel
theorem dX9_likely_55 : decode cX9_likely 55 = .ok (.aload 5, 2) := by decide +kernel
theorem dX9_likely_57 : decode cX9_likely 57 = .ok (.invokevirtual 209, 3) := by decide +kernel
theorem dX9_likely_60 : decode cX9_likely 60 = .ok (.istore 6, 2) := by decide +kernel
theorem dX9_likely_62 : decode cX9_likely 62 = .ok (.iload 6, 2) := by decide +kernel
theorem dX9_likely_64 : decode cX9_likely 64 = .ok (.ifCond .eq 6, 3) := by decide +kernel
theorem dX9_likely_67 : decode cX9_likely 67 = .ok (.iload 6, 2) := by decide +kernel
theorem dX9_likely_69 : decode cX9_likely 69 = .ok (.ireturn, 1) := by decide +kernel
theorem dX9_likely_70 : decode cX9_likely 70 = .ok (.aload 5, 2) := by decide +kernel
theorem dX9_likely_72 : decode cX9_likely 72 = .ok (.iload_n 3, 1) := by decide +kernel
theorem dX9_likely_73 : decode cX9_likely 73 = .ok (.invokevirtual 240, 3) := by decide +kernel
theorem dX9_likely_76 : decode cX9_likely 76 = .ok (.lstore 7, 2) := by decide +kernel
theorem dX9_likely_78 : decode cX9_likely 78 = .ok (.aload_n 0, 1) := by decide +kernel
theorem dX9_likely_79 : decode cX9_likely 79 = .ok (.getfield 35, 3) := by decide +kernel
theorem dX9_likely_82 : decode cX9_likely 82 = .ok (.lload 7, 2) := by decide +kernel
theorem dX9_likely_84 : decode cX9_likely 84 = .ok (.invokevirtual 236, 3) := by decide +kernel
theorem dX9_likely_87 : decode cX9_likely 87 = .ok (.ifCond .eq 14, 3) := by decide +kernel
theorem dX9_likely_90 : decode cX9_likely 90 = .ok (.lload 7, 2) := by decide +kernel
theorem dX9_likely_92 : decode cX9_likely 92 = .ok (.iload 4, 2) := by decide +kernel
theorem dX9_likely_94 : decode cX9_likely 94 = .ok (.i2l, 1) := by decide +kernel
theorem dX9_likely_95 : decode cX9_likely 95 = .ok (.lcmp, 1) := by decide +kernel
theorem dX9_likely_96 : decode cX9_likely 96 = .ok (.ifCond .eq 5, 3) := by decide +kernel
theorem dX9_likely_99 : decode cX9_likely 99 = .ok (.iconst 0, 1) := by decide +kernel
theorem dX9_likely_100 : decode cX9_likely 100 = .ok (.ireturn, 1) := by decide +kernel
theorem dX9_likely_101 : decode cX9_likely 101 = .ok (.aload_n 0, 1) := by decide +kernel
theorem dX9_likely_102 : decode cX9_likely 102 = .ok (.getfield 35, 3) := by decide +kernel
theorem dX9_likely_105 : decode cX9_likely 105 = .ok (.getfield 110, 3) := by decide +kernel
theorem dX9_likely_108 : decode cX9_likely 108 = .ok (.iload_n 3, 1) := by decide +kernel
theorem dX9_likely_109 : decode cX9_likely 109 = .ok (.invokestatic 243, 3) := by decide +kernel
theorem dX9_likely_112 : decode cX9_likely 112 = .ok (.lstore 9, 2) := by decide +kernel
theorem dX9_likely_114 : decode cX9_likely 114 = .ok (.aload_n 0, 1) := by decide +kernel
theorem dX9_likely_115 : decode cX9_likely 115 = .ok (.getfield 35, 3) := by decide +kernel
theorem dX9_likely_118 : decode cX9_likely 118 = .ok (.getfield 110, 3) := by decide +kernel
theorem dX9_likely_121 : decode cX9_likely 121 = .ok (.iload_n 3, 1) := by decide +kernel
theorem dX9_likely_122 : decode cX9_likely 122 = .ok (.iload 4, 2) := by decide +kernel
theorem dX9_likely_124 : decode cX9_likely 124 = .ok (.i2l, 1) := by decide +kernel
theorem dX9_likely_125 : decode cX9_likely 125 = .ok (.invokestatic 246, 3) := by decide +kernel
theorem dX9_likely_128 : decode cX9_likely 128 = .ok (.lstore 11, 2) := by decide +kernel
theorem dX9_likely_130 : decode cX9_likely 130 = .ok (.aload_n 0, 1) := by decide +kernel
theorem dX9_likely_131 : decode cX9_likely 131 = .ok (.getfield 35, 3) := by decide +kernel
theorem dX9_likely_134 : decode cX9_likely 134 = .ok (.iload_n 2, 1) := by decide +kernel
theorem dX9_likely_135 : decode cX9_likely 135 = .ok (.aload_n 0, 1) := by decide +kernel
theorem dX9_likely_136 : decode cX9_likely 136 = .ok (.aload 5, 2) := by decide +kernel
theorem dX9_likely_138 : decode cX9_likely 138 = .ok (.invokevirtual 213, 3) := by decide +kernel
theorem dX9_likely_141 : decode cX9_likely 141 = .ok (.lload 9, 2) := by decide +kernel
theorem dX9_likely_143 : decode cX9_likely 143 = .ok (.lor, 1) := by decide +kernel
theorem dX9_likely_144 : decode cX9_likely 144 = .ok (.aload_n 0, 1) := by decide +kernel
theorem dX9_likely_145 : decode cX9_likely 145 = .ok (.aload 5, 2) := by decide +kernel
theorem dX9_likely_147 : decode cX9_likely 147 = .ok (.invokevirtual 217, 3) := by decide +kernel
theorem dX9_likely_150 : decode cX9_likely 150 = .ok (.lload 11, 2) := by decide +kernel
theorem dX9_likely_152 : decode cX9_likely 152 = .ok (.lor, 1) := by decide +kernel
theorem dX9_likely_153 : decode cX9_likely 153 = .ok (.invokevirtual 229, 3) := by decide +kernel
theorem dX9_likely_156 : decode cX9_likely 156 = .ok (.ireturn, 1) := by decide +kernel
theorem hd_yX9_likely : yX9_likely.cls = RX9 ∧ yX9_likely.cls ≠ "java/lang/invoke/MethodHandle" ∧ yX9_likely.cls ≠ "java/lang/invoke/VarHandle" ∧ (parseMethodDescriptor yX9_likely.desc).map (fun d => d.parameters.length) = some 4 := by decide +kernel
def uX9_likely : List Cond := List.cons (.code yX9_likely cX9_likely 13 (some .int)) (HAppend.hAppend ([.methodLink RX9 206 yX9_hasSlot, .instanceMethod yX9_hasSlot, .selects RX9 yX9_hasSlot yX9_hasSlot, .initialized RX9, .fieldLink RX9 35 "LuckyTicket" "current" "LLuckyTicket$Roll;", .methodLink RX9 149 yX2_hasLaw, .instanceMethod yX2_hasLaw, .selects RX2 yX2_hasLaw yX2_hasLaw, .initialized RX2, .methodLink RX9 103 yX2_hasPlace, .instanceMethod yX2_hasPlace, .selects RX2 yX2_hasPlace yX2_hasPlace, .methodLink RX9 236 yX2_hasFigure, .instanceMethod yX2_hasFigure, .selects RX2 yX2_hasFigure yX2_hasFigure, .fieldLink RX9 50 "LuckyTicket" "slots" "[LLuckyTicket$Row;", .methodLink RX9 209 yX9_refusalOfWorn, .instanceMethod yX9_refusalOfWorn, .selects RX9 yX9_refusalOfWorn yX9_refusalOfWorn, .methodLink RX9 240 yX3_numberAt, .instanceMethod yX3_numberAt, .selects RX3 yX3_numberAt yX3_numberAt, .initialized RX3, .methodLink RX9 243 yX0_maskAt, .static yX0_maskAt, .initialized RX0, .methodLink RX9 246 yX0_figureTold, .static yX0_figureTold, .methodLink RX9 213 yX9_knownPlaces, .instanceMethod yX9_knownPlaces, .selects RX9 yX9_knownPlaces yX9_knownPlaces, .methodLink RX9 217 yX9_knownFigures, .instanceMethod yX9_knownFigures, .selects RX9 yX9_knownFigures yX9_knownFigures, .methodLink RX9 229 yX2_tallyFitting, .instanceMethod yX2_tallyFitting, .selects RX2 yX2_tallyFitting yX2_tallyFitting] : List Cond) (HAppend.hAppend uX9_hasSlot (HAppend.hAppend uX2_hasLaw (HAppend.hAppend uX2_hasPlace (HAppend.hAppend uX2_hasFigure (HAppend.hAppend uX9_refusalOfWorn (HAppend.hAppend uX3_numberAt (HAppend.hAppend uX0_maskAt (HAppend.hAppend uX0_figureTold (HAppend.hAppend uX9_knownPlaces (HAppend.hAppend uX9_knownFigures (HAppend.hAppend uX2_tallyFitting (HAppend.hAppend wsX90 wsX20)))))))))))))
theorem iX9_likely_X9 : ∀ w ∈ wsX90, w ∈ uX9_likely := fun _ h => (List.mem_cons_of_mem _ (List.mem_append_right _ (List.mem_append_right _ (List.mem_append_right _ (List.mem_append_right _ (List.mem_append_right _ (List.mem_append_right _ (List.mem_append_right _ (List.mem_append_right _ (List.mem_append_right _ (List.mem_append_right _ (List.mem_append_right _ (List.mem_append_right _ (List.mem_append_left _ h))))))))))))))
theorem iX9_likely_X2 : ∀ w ∈ wsX20, w ∈ uX9_likely := fun _ h => (List.mem_cons_of_mem _ (List.mem_append_right _ (List.mem_append_right _ (List.mem_append_right _ (List.mem_append_right _ (List.mem_append_right _ (List.mem_append_right _ (List.mem_append_right _ (List.mem_append_right _ (List.mem_append_right _ (List.mem_append_right _ (List.mem_append_right _ (List.mem_append_right _ (List.mem_append_right _ h))))))))))))))
theorem guX9_likely : GU uX9_likely := gu_cons (gu_app (by decide +kernel) (gu_ap guX9_hasSlot (gu_ap guX2_hasLaw (gu_ap guX2_hasPlace (gu_ap guX2_hasFigure (gu_ap guX9_refusalOfWorn (gu_ap guX3_numberAt (gu_ap guX0_maskAt (gu_ap guX0_figureTold (gu_ap guX9_knownPlaces (gu_ap guX9_knownFigures (gu_ap guX2_tallyFitting (gu_ap gws_X9 gws_X2)))))))))))))
theorem gX9_likely__X9_hasSlot_V206 : GoodIn uX9_likely (wsV RX9 206 RX9 yX9_hasSlot uX9_hasSlot) := gin_V (List.mem_of_getElem? (i := 1) rfl) (List.mem_of_getElem? (i := 2) rfl) (List.mem_of_getElem? (i := 3) rfl) (List.mem_of_getElem? (i := 4) rfl) (fun _ h => (List.mem_cons_of_mem _ (List.mem_append_right _ (List.mem_append_left _ h)))) guX9_hasSlot
theorem gX9_likely__X2_hasLaw_V149 : GoodIn uX9_likely (wsV RX9 149 RX2 yX2_hasLaw uX2_hasLaw) := gin_V (List.mem_of_getElem? (i := 6) rfl) (List.mem_of_getElem? (i := 7) rfl) (List.mem_of_getElem? (i := 8) rfl) (List.mem_of_getElem? (i := 9) rfl) (fun _ h => (List.mem_cons_of_mem _ (List.mem_append_right _ (List.mem_append_right _ (List.mem_append_left _ h))))) guX2_hasLaw
theorem gX9_likely__X2_hasPlace_V103 : GoodIn uX9_likely (wsV RX9 103 RX2 yX2_hasPlace uX2_hasPlace) := gin_V (List.mem_of_getElem? (i := 10) rfl) (List.mem_of_getElem? (i := 11) rfl) (List.mem_of_getElem? (i := 12) rfl) (List.mem_of_getElem? (i := 9) rfl) (fun _ h => (List.mem_cons_of_mem _ (List.mem_append_right _ (List.mem_append_right _ (List.mem_append_right _ (List.mem_append_left _ h)))))) guX2_hasPlace
theorem gX9_likely__X2_hasFigure_V236 : GoodIn uX9_likely (wsV RX9 236 RX2 yX2_hasFigure uX2_hasFigure) := gin_V (List.mem_of_getElem? (i := 13) rfl) (List.mem_of_getElem? (i := 14) rfl) (List.mem_of_getElem? (i := 15) rfl) (List.mem_of_getElem? (i := 9) rfl) (fun _ h => (List.mem_cons_of_mem _ (List.mem_append_right _ (List.mem_append_right _ (List.mem_append_right _ (List.mem_append_right _ (List.mem_append_left _ h))))))) guX2_hasFigure
theorem gX9_likely__X9_refusalOfWorn_V209 : GoodIn uX9_likely (wsV RX9 209 RX9 yX9_refusalOfWorn uX9_refusalOfWorn) := gin_V (List.mem_of_getElem? (i := 17) rfl) (List.mem_of_getElem? (i := 18) rfl) (List.mem_of_getElem? (i := 19) rfl) (List.mem_of_getElem? (i := 4) rfl) (fun _ h => (List.mem_cons_of_mem _ (List.mem_append_right _ (List.mem_append_right _ (List.mem_append_right _ (List.mem_append_right _ (List.mem_append_right _ (List.mem_append_left _ h)))))))) guX9_refusalOfWorn
theorem gX9_likely__X3_numberAt_V240 : GoodIn uX9_likely (wsV RX9 240 RX3 yX3_numberAt uX3_numberAt) := gin_V (List.mem_of_getElem? (i := 20) rfl) (List.mem_of_getElem? (i := 21) rfl) (List.mem_of_getElem? (i := 22) rfl) (List.mem_of_getElem? (i := 23) rfl) (fun _ h => (List.mem_cons_of_mem _ (List.mem_append_right _ (List.mem_append_right _ (List.mem_append_right _ (List.mem_append_right _ (List.mem_append_right _ (List.mem_append_right _ (List.mem_append_left _ h))))))))) guX3_numberAt
theorem gX9_likely__X0_maskAt_S243 : GoodIn uX9_likely (va_wsS RX9 243 yX0_maskAt uX0_maskAt) := gin_S (List.mem_of_getElem? (i := 24) rfl) (List.mem_of_getElem? (i := 25) rfl) (List.mem_of_getElem? (i := 26) rfl) (fun _ h => (List.mem_cons_of_mem _ (List.mem_append_right _ (List.mem_append_right _ (List.mem_append_right _ (List.mem_append_right _ (List.mem_append_right _ (List.mem_append_right _ (List.mem_append_right _ (List.mem_append_left _ h)))))))))) guX0_maskAt
theorem gX9_likely__X0_figureTold_S246 : GoodIn uX9_likely (va_wsS RX9 246 yX0_figureTold uX0_figureTold) := gin_S (List.mem_of_getElem? (i := 27) rfl) (List.mem_of_getElem? (i := 28) rfl) (List.mem_of_getElem? (i := 26) rfl) (fun _ h => (List.mem_cons_of_mem _ (List.mem_append_right _ (List.mem_append_right _ (List.mem_append_right _ (List.mem_append_right _ (List.mem_append_right _ (List.mem_append_right _ (List.mem_append_right _ (List.mem_append_right _ (List.mem_append_left _ h))))))))))) guX0_figureTold
theorem gX9_likely__X9_knownPlaces_V213 : GoodIn uX9_likely (wsV RX9 213 RX9 yX9_knownPlaces uX9_knownPlaces) := gin_V (List.mem_of_getElem? (i := 29) rfl) (List.mem_of_getElem? (i := 30) rfl) (List.mem_of_getElem? (i := 31) rfl) (List.mem_of_getElem? (i := 4) rfl) (fun _ h => (List.mem_cons_of_mem _ (List.mem_append_right _ (List.mem_append_right _ (List.mem_append_right _ (List.mem_append_right _ (List.mem_append_right _ (List.mem_append_right _ (List.mem_append_right _ (List.mem_append_right _ (List.mem_append_right _ (List.mem_append_left _ h)))))))))))) guX9_knownPlaces
theorem gX9_likely__X9_knownFigures_V217 : GoodIn uX9_likely (wsV RX9 217 RX9 yX9_knownFigures uX9_knownFigures) := gin_V (List.mem_of_getElem? (i := 32) rfl) (List.mem_of_getElem? (i := 33) rfl) (List.mem_of_getElem? (i := 34) rfl) (List.mem_of_getElem? (i := 4) rfl) (fun _ h => (List.mem_cons_of_mem _ (List.mem_append_right _ (List.mem_append_right _ (List.mem_append_right _ (List.mem_append_right _ (List.mem_append_right _ (List.mem_append_right _ (List.mem_append_right _ (List.mem_append_right _ (List.mem_append_right _ (List.mem_append_right _ (List.mem_append_left _ h))))))))))))) guX9_knownFigures
theorem gX9_likely__X2_tallyFitting_V229 : GoodIn uX9_likely (wsV RX9 229 RX2 yX2_tallyFitting uX2_tallyFitting) := gin_V (List.mem_of_getElem? (i := 35) rfl) (List.mem_of_getElem? (i := 36) rfl) (List.mem_of_getElem? (i := 37) rfl) (List.mem_of_getElem? (i := 9) rfl) (fun _ h => (List.mem_cons_of_mem _ (List.mem_append_right _ (List.mem_append_right _ (List.mem_append_right _ (List.mem_append_right _ (List.mem_append_right _ (List.mem_append_right _ (List.mem_append_right _ (List.mem_append_right _ (List.mem_append_right _ (List.mem_append_right _ (List.mem_append_right _ (List.mem_append_left _ h)))))))))))))) guX2_tallyFitting
set_option maxHeartbeats 4000000 in
set_option maxRecDepth 100000 in
theorem kX9_likely (l : Launch) (dC : Nat → ClassId) (dI : Nat → Nat → Nat) (h0 : Nat) (tp : Nat) (sc : Nat) (rd : Nat) (cu : Nat) (im : Nat) (ig : Nat) (sl : Nat) (se : Nat) (sm : Nat) (fc : Nat) (ln : Int32) (bs : Int32) (tk : Int32) (lw : Int32) (li : Int32) (fa : Nat) (lu : Nat) (cS : ClassId) (s0 : Nat) (s1 : Nat) (s2 : Nat) (s3 : Nat) (n0 : Nat) (n1 : Nat) (n2 : Nat) (n3 : Nat) (wd0 : Int32) (wd1 : Int32) (wd2 : Int32) (wd3 : Int32) (rz0 : Int32) (rz1 : Int32) (rz2 : Int32) (rz3 : Int32) (cJ0 : ClassId) (cJ1 : ClassId) (cJ2 : ClassId) (cJ3 : ClassId) (g0 : Nat → Int64) (g1 : Nat → Int64) (g2 : Nat → Int64) (g3 : Nat → Int64) (cL : ClassId) (nl : Nat) (fl : Nat → Int32) (cF : ClassId) (nf : Nat) (ff : Nat → Int64) (a1 : Int32) (a2 : Int32) (a3 : Int32) (a4 : Int32) (b_ln : (0 : Int) ≤ ln.toInt ∧ ln.toInt ≤ 12) (b_bs : (0 : Int) ≤ bs.toInt ∧ bs.toInt ≤ 16) (b_tk : (0 : Int) ≤ tk.toInt ∧ tk.toInt ≤ 20000) (b_lw : (0 : Int) ≤ lw.toInt ∧ lw.toInt ≤ 9) (b_wd0 : (-1 : Int) ≤ wd0.toInt ∧ wd0.toInt ≤ 3) (b_wd1 : (-1 : Int) ≤ wd1.toInt ∧ wd1.toInt ≤ 3) (b_wd2 : (-1 : Int) ≤ wd2.toInt ∧ wd2.toInt ≤ 3) (b_wd3 : (-1 : Int) ≤ wd3.toInt ∧ wd3.toInt ≤ 3) (b_rz0 : (0 : Int) ≤ rz0.toInt ∧ rz0.toInt ≤ 60) (b_rz1 : (0 : Int) ≤ rz1.toInt ∧ rz1.toInt ≤ 60) (b_rz2 : (0 : Int) ≤ rz2.toInt ∧ rz2.toInt ≤ 60) (b_rz3 : (0 : Int) ≤ rz3.toInt ∧ rz3.toInt ≤ 60) (hl1 : tk.toInt ≤ (nl : Int)) (hf1 : tk.toInt ≤ (nf : Int)) : Met l yX9_likely uX9_likely ({ frames := 4, cells := 0, slots := 0, locals := 95 }) (va_Pc [.ref h0, .int a1, .int a2, .int a3, .int a4] (pw (dC, dI) vwCl [(h0, .inr (7, [.ref tp, .ref sc, .ref rd, .ref cu, .ref im, .ref ig, .ref sl, .ref se, .ref sm, .ref fc])), (cu, .inr (1, [.int ln, .int bs, .int tk, .int lw, .int li, .ref fa, .ref lu])), (sl, .inl (cS, 4, .inr (.inr (.inr (.inr (sf4 s0 s1 s2 s3)))))), (s0, .inr (2, [.int wd0, .int rz0, .ref n0])), (s1, .inr (2, [.int wd1, .int rz1, .ref n1])), (s2, .inr (2, [.int wd2, .int rz2, .ref n2])), (s3, .inr (2, [.int wd3, .int rz3, .ref n3])), (n0, .inl (cJ0, 60, .inr (.inl g0))), (n1, .inl (cJ1, 60, .inr (.inl g1))), (n2, .inl (cJ2, 60, .inr (.inl g2))), (n3, .inl (cJ3, 60, .inr (.inl g3))), (lu, .inl (cL, nl, .inl fl)), (fa, .inl (cF, nf, .inr (.inl ff)))] [(cS, .object RX3), (cJ0, .long), (cJ1, .long), (cJ2, .long), (cJ3, .long), (cL, .int), (cF, .long)])) (vp_Si (fun r => True)) 0 0 (fun _ => False) := by
  refine Met.ofW (cc := cX9_likely) (maxL := 13) (ret := (some .int)) pn_X9 rfl ?_
  intro p e s m args below meth c s₁ B hml hv
  obtain ⟨rfl, hP, hK, hN⟩ := hv
  have hx := B.exec
  have hb := B.bytes
  have hr := B.returns
  have hts := atoms_spec (ws := uX9_likely) B.pre
  have hown : s.vm.findClass RX9 = some m.cls := hown_of B.named rfl
  have hlocks := B.notSynchronized
  have hl := lv_entry ([.ref h0, .int a1, .int a2, .int a3, .int a4]) (n := 13) (Nat.le_of_ble_eq_true rfl)
  rw [lg_entry_eq]
  generalize (lg_sl ([.ref h0, .int a1, .int a2, .int a3, .int a4]) ++ List.replicate (13 - (lg_sl ([.ref h0, .int a1, .int a2, .int a3, .int a4])).length) Slot.unset).toArray = ls at hl ⊢
  have hl : lv_has ls 13 [(0, .ref h0), (1, .int a1), (2, .int a2), (3, .int a3), (4, .int a4)] := hl
  refine lv_aload_n hx hb dX9_likely_0 rfl (lv_at hl 0 rfl) ?_
  refine lv_iload_n hx hb dX9_likely_1 rfl (lv_at hl 1 rfl) ?_
  refine vp_callSi (W.runV (As := [.int a1]) (rest := []) ⟨hx, hb, hml, hown, hts⟩ (kX9_hasSlot l dC dI h0 tp sc rd cu im ig sl se sm fc cS s0 s1 s2 s3 a1 ) (cwV 1 hts gX9_likely__X9_hasSlot_V206 rfl rfl rfl hd_yX9_hasSlot ⟨lel 2 4 rfl, lel 43 95 rfl⟩) ⟨pw_fb, rcv_X9 hK hP (q0 := 0) rfl, (pw_use hP hK hN [0, 2] rfl [0] rfl)⟩ rfl rfl hl.1 rfl (lv_room (Nat.le_of_ble_eq_true rfl)) dX9_likely_2 ⟨lel 0 0 rfl, lel 0 0 rfl⟩) (fun r_38 h_r_38 => ?_)
  obtain ⟨b_r_38, nz_r_38⟩ := h_r_38
  have b_r_38 : (0 : Int) ≤ r_38.toInt ∧ r_38.toInt ≤ 1 := b_r_38
  refine lv_if_eq (tgt := 43) hx hb dX9_likely_5 (by decide) (fun c_39 => ?_) (fun c_39 => ?_)
  ·
    have n_c_39 : (r_38.toInt : Int) = 0 := c_eq rfl (by decide) c_39
    have b_r_38 : (0 : Int) ≤ r_38.toInt ∧ r_38.toInt ≤ 0 := r_eq1 b_r_38 (by decide : (0 : Int) ≤ (0 : Int32).toInt ∧ (0 : Int32).toInt ≤ 0) n_c_39 (by decide)
    refine lv_bipush (v := (-2)) hx hb dX9_likely_43 (by decide) ?_
    exact W.iret (v := (-2)) hx hb hr (fun t ht hW => ⟨(-2), rfl, trivial, ht⟩) t_nil dX9_likely_45
  ·
    have n_c_39 : (r_38.toInt : Int) ≠ 0 := c_ne rfl (by decide) c_39
    have b_r_38 : (1 : Int) ≤ r_38.toInt ∧ r_38.toInt ≤ 1 := r_ne1 b_r_38 (by decide : (0 : Int) ≤ (0 : Int32).toInt ∧ (0 : Int32).toInt ≤ 0) n_c_39 (by decide)
    obtain ⟨b_a1, g_40⟩ := nz_r_38 c_39
    refine lv_aload_n hx hb dX9_likely_8 rfl (lv_at hl 0 rfl) ?_
    refine va_get (D := (dC, dI)) (ci := 7) (v := .ref cu) (C := RX9) (T := TX9) (N := 10) hx hb hts iX9_likely_X9 hown hK hP 0 rfl rfl 3 (by decide) (hts (.fieldLink RX9 35 "LuckyTicket" "current" "LLuckyTicket$Roll;") (List.mem_of_getElem? (i := 5) rfl)) (fun _ h9 => h9) rfl dX9_likely_9 ?_
    refine lv_iload_n hx hb dX9_likely_12 rfl (lv_at hl 2 rfl) ?_
    refine vp_callSi (W.runV (As := [.int a2]) (rest := []) ⟨hx, hb, hml, hown, hts⟩ (kX2_hasLaw l dC dI cu ln bs tk lw li fa lu a2 b_ln b_bs b_tk b_lw) (cwV 1 hts gX9_likely__X2_hasLaw_V149 rfl rfl rfl hd_yX2_hasLaw ⟨lel 1 4 rfl, lel 21 95 rfl⟩) ⟨pw_fb, rcv_X2 hK hP (q0 := 1) rfl, (pw_use hP hK hN [1] rfl [] rfl)⟩ rfl rfl hl.1 rfl (lv_room (Nat.le_of_ble_eq_true rfl)) dX9_likely_13 ⟨lel 0 0 rfl, lel 0 0 rfl⟩) (fun r_41 h_r_41 => ?_)
    obtain ⟨b_r_41, nz_r_41⟩ := h_r_41
    have b_r_41 : (0 : Int) ≤ r_41.toInt ∧ r_41.toInt ≤ 1 := b_r_41
    refine lv_if_eq (tgt := 43) hx hb dX9_likely_16 (by decide) (fun c_42 => ?_) (fun c_42 => ?_)
    ·
      have n_c_42 : (r_41.toInt : Int) = 0 := c_eq rfl (by decide) c_42
      have b_r_41 : (0 : Int) ≤ r_41.toInt ∧ r_41.toInt ≤ 0 := r_eq1 b_r_41 (by decide : (0 : Int) ≤ (0 : Int32).toInt ∧ (0 : Int32).toInt ≤ 0) n_c_42 (by decide)
      refine lv_bipush (v := (-2)) hx hb dX9_likely_43 (by decide) ?_
      exact W.iret (v := (-2)) hx hb hr (fun t ht hW => ⟨(-2), rfl, trivial, ht⟩) t_nil dX9_likely_45
    ·
      have n_c_42 : (r_41.toInt : Int) ≠ 0 := c_ne rfl (by decide) c_42
      have b_r_41 : (1 : Int) ≤ r_41.toInt ∧ r_41.toInt ≤ 1 := r_ne1 b_r_41 (by decide : (0 : Int) ≤ (0 : Int32).toInt ∧ (0 : Int32).toInt ≤ 0) n_c_42 (by decide)
      obtain ⟨b_a2, g_43⟩ := nz_r_41 c_42
      refine lv_aload_n hx hb dX9_likely_19 rfl (lv_at hl 0 rfl) ?_
      refine va_get (D := (dC, dI)) (ci := 7) (v := .ref cu) (C := RX9) (T := TX9) (N := 10) hx hb hts iX9_likely_X9 hown hK hP 0 rfl rfl 3 (by decide) (hts (.fieldLink RX9 35 "LuckyTicket" "current" "LLuckyTicket$Roll;") (List.mem_of_getElem? (i := 5) rfl)) (fun _ h9 => h9) rfl dX9_likely_20 ?_
      refine lv_iload_n hx hb dX9_likely_23 rfl (lv_at hl 3 rfl) ?_
      refine vp_callSi (W.runV (As := [.int a3]) (rest := []) ⟨hx, hb, hml, hown, hts⟩ (kX2_hasPlace l dC dI cu ln bs tk lw li fa lu a3 b_ln b_bs b_tk b_lw) (cwV 1 hts gX9_likely__X2_hasPlace_V103 rfl rfl rfl hd_yX2_hasPlace ⟨lel 1 4 rfl, lel 21 95 rfl⟩) ⟨pw_fb, rcv_X2 hK hP (q0 := 1) rfl, (pw_use hP hK hN [1] rfl [] rfl)⟩ rfl rfl hl.1 rfl (lv_room (Nat.le_of_ble_eq_true rfl)) dX9_likely_24 ⟨lel 0 0 rfl, lel 0 0 rfl⟩) (fun r_44 h_r_44 => ?_)
      obtain ⟨b_r_44, nz_r_44⟩ := h_r_44
      have b_r_44 : (0 : Int) ≤ r_44.toInt ∧ r_44.toInt ≤ 1 := b_r_44
      refine lv_if_eq (tgt := 43) hx hb dX9_likely_27 (by decide) (fun c_45 => ?_) (fun c_45 => ?_)
      ·
        have n_c_45 : (r_44.toInt : Int) = 0 := c_eq rfl (by decide) c_45
        have b_r_44 : (0 : Int) ≤ r_44.toInt ∧ r_44.toInt ≤ 0 := r_eq1 b_r_44 (by decide : (0 : Int) ≤ (0 : Int32).toInt ∧ (0 : Int32).toInt ≤ 0) n_c_45 (by decide)
        refine lv_bipush (v := (-2)) hx hb dX9_likely_43 (by decide) ?_
        exact W.iret (v := (-2)) hx hb hr (fun t ht hW => ⟨(-2), rfl, trivial, ht⟩) t_nil dX9_likely_45
      ·
        have n_c_45 : (r_44.toInt : Int) ≠ 0 := c_ne rfl (by decide) c_45
        have b_r_44 : (1 : Int) ≤ r_44.toInt ∧ r_44.toInt ≤ 1 := r_ne1 b_r_44 (by decide : (0 : Int) ≤ (0 : Int32).toInt ∧ (0 : Int32).toInt ≤ 0) n_c_45 (by decide)
        obtain ⟨b_a3, g_46⟩ := nz_r_44 c_45
        refine lv_aload_n hx hb dX9_likely_30 rfl (lv_at hl 0 rfl) ?_
        refine va_get (D := (dC, dI)) (ci := 7) (v := .ref cu) (C := RX9) (T := TX9) (N := 10) hx hb hts iX9_likely_X9 hown hK hP 0 rfl rfl 3 (by decide) (hts (.fieldLink RX9 35 "LuckyTicket" "current" "LLuckyTicket$Roll;") (List.mem_of_getElem? (i := 5) rfl)) (fun _ h9 => h9) rfl dX9_likely_31 ?_
        refine lv_iload hx hb dX9_likely_34 (lv_at hl 4 rfl) ?_
        obtain ⟨z_47, e_z_47⟩ : ∃ y : Int64, y = a4.toInt64 := ⟨_, rfl⟩
        refine lv_i2l (v := z_47) hx hb dX9_likely_36 e_z_47.symm ?_
        obtain ⟨q_z_47, b_z_47⟩ := ti_i2l e_z_47 (ti_rng a4)
        refine vp_callSi (W.runV (As := [.long z_47]) (rest := []) ⟨hx, hb, hml, hown, hts⟩ (kX2_hasFigure l dC dI cu ln bs tk lw li fa lu z_47 b_ln b_bs b_tk b_lw) (cwV 1 hts gX9_likely__X2_hasFigure_V236 rfl rfl rfl hd_yX2_hasFigure ⟨lel 1 4 rfl, lel 22 95 rfl⟩) ⟨pw_fb, rcv_X2 hK hP (q0 := 1) rfl, (pw_use hP hK hN [1] rfl [] rfl)⟩ rfl rfl hl.1 rfl (lv_room (Nat.le_of_ble_eq_true rfl)) dX9_likely_37 ⟨lel 0 0 rfl, lel 0 0 rfl⟩) (fun r_48 h_r_48 => ?_)
        have b_r_48 := h_r_48
        have b_r_48 : (0 : Int) ≤ r_48.toInt ∧ r_48.toInt ≤ 1 := b_r_48
        refine lv_if_ne (tgt := 46) hx hb dX9_likely_40 (by decide) (fun c_49 => ?_) (fun c_49 => ?_)
        ·
          have n_c_49 : (r_48.toInt : Int) ≠ 0 := c_ne rfl (by decide) c_49
          have b_r_48 : (1 : Int) ≤ r_48.toInt ∧ r_48.toInt ≤ 1 := r_ne1 b_r_48 (by decide : (0 : Int) ≤ (0 : Int32).toInt ∧ (0 : Int32).toInt ≤ 0) n_c_49 (by decide)
          refine lv_aload_n hx hb dX9_likely_46 rfl (lv_at hl 0 rfl) ?_
          refine va_get (D := (dC, dI)) (ci := 7) (v := .ref sl) (C := RX9) (T := TX9) (N := 10) hx hb hts iX9_likely_X9 hown hK hP 0 rfl rfl 6 (by decide) (hts (.fieldLink RX9 50 "LuckyTicket" "slots" "[LLuckyTicket$Row;") (List.mem_of_getElem? (i := 16) rfl)) (fun _ h9 => h9) rfl dX9_likely_47 ?_
          refine lv_iload_n hx hb dX9_likely_50 rfl (lv_at hl 1 rfl) ?_
          refine cutP (σ := Nat × Int32 × Int32 × Nat × ClassId × (Nat → Int64)) (pc2 := 52) (st2 := fun v => .ref v.1 :: []) (cells2 := 0) (slots2 := 0) (fun v ls => ((-1 : Int) ≤ v.2.1.toInt ∧ v.2.1.toInt ≤ 3) ∧ ((0 : Int) ≤ v.2.2.1.toInt ∧ v.2.2.1.toInt ≤ 60) ∧ (va_P (dC, dI) vwCl [(h0, .inr (7, [.ref tp, .ref sc, .ref rd, .ref cu, .ref im, .ref ig, .ref sl, .ref se, .ref sm, .ref fc])), (cu, .inr (1, [.int ln, .int bs, .int tk, .int lw, .int li, .ref fa, .ref lu])), (lu, .inl (cL, nl, .inl fl)), (fa, .inl (cF, nf, .inr (.inl ff))), (v.1, .inr (2, [.int v.2.1, .int v.2.2.1, .ref v.2.2.2.1])), (v.2.2.2.1, .inl (v.2.2.2.2.1, 60, .inr (.inl v.2.2.2.2.2)))] s.heap) ∧ (va_K (dC, dI) vwCl [(cL, .int), (cF, .long), (v.2.2.2.2.1, .long)] s) ∧ (lv_has ls 13 [(0, .ref h0), (1, .int a1), (2, .int a2), (3, .int a3), (4, .int a4)])) (fun v ls hI => ?_) (fun hj_51_50 => ?_)
          ·
            obtain ⟨rw_50, wd_50, rz_50, nu_50, cN_50, fn_50⟩ := v
            obtain ⟨b_wd_50, b_rz_50, hP, hK, hl⟩ := hI
            have b_wd_50 : (-1 : Int) ≤ wd_50.toInt ∧ wd_50.toInt ≤ 3 := b_wd_50
            have b_rz_50 : (0 : Int) ≤ rz_50.toInt ∧ rz_50.toInt ≤ 60 := b_rz_50
            have hP : va_P (dC, dI) vwCl [(h0, .inr (7, [.ref tp, .ref sc, .ref rd, .ref cu, .ref im, .ref ig, .ref sl, .ref se, .ref sm, .ref fc])), (cu, .inr (1, [.int ln, .int bs, .int tk, .int lw, .int li, .ref fa, .ref lu])), (lu, .inl (cL, nl, .inl fl)), (fa, .inl (cF, nf, .inr (.inl ff))), (rw_50, .inr (2, [.int wd_50, .int rz_50, .ref nu_50])), (nu_50, .inl (cN_50, 60, .inr (.inl fn_50)))] s.heap := hP
            have hK : va_K (dC, dI) vwCl [(cL, .int), (cF, .long), (cN_50, .long)] s := hK
            have hl : lv_has ls 13 [(0, .ref h0), (1, .int a1), (2, .int a2), (3, .int a3), (4, .int a4)] := hl
            refine lv_astore (lv' := [(5, .ref rw_50), (0, .ref h0), (1, .int a1), (2, .int a2), (3, .int a3), (4, .int a4)]) hx hb dX9_likely_52 hl (by decide) rfl (fun ls hl => ?_)
            refine lv_aload_n hx hb dX9_likely_54 rfl (lv_at hl 1 rfl) ?_
            refine lv_aload hx hb dX9_likely_55 (lv_at hl 0 rfl) ?_
            refine vp_callSi (W.runV (As := [.ref rw_50]) (rest := []) ⟨hx, hb, hml, hown, hts⟩ (kX9_refusalOfWorn l dC dI h0 tp sc rd cu im ig sl se sm fc ln bs tk lw li fa lu rw_50 wd_50 rz_50 nu_50 cN_50 fn_50 b_ln b_bs b_tk b_lw b_wd_50 b_rz_50) (cwV 1 hts gX9_likely__X9_refusalOfWorn_V209 rfl rfl rfl hd_yX9_refusalOfWorn ⟨lel 2 4 rfl, lel 41 95 rfl⟩) ⟨pw_fb, rcv_X9 hK hP (q0 := 0) rfl, (pw_use hP hK hN [0, 1, 4, 5] rfl [2] rfl)⟩ rfl rfl hl.1 rfl (lv_room (Nat.le_of_ble_eq_true rfl)) dX9_likely_57 ⟨lel 0 0 rfl, lel 0 0 rfl⟩) (fun r_51 h_r_51 => ?_)
            have b_r_51 := h_r_51
            have b_r_51 : (-7 : Int) ≤ r_51.toInt ∧ r_51.toInt ≤ 0 := b_r_51
            refine lv_istore (lv' := [(6, .int r_51), (5, .ref rw_50), (0, .ref h0), (1, .int a1), (2, .int a2), (3, .int a3), (4, .int a4)]) hx hb dX9_likely_60 hl (by decide) rfl (fun ls hl => ?_)
            refine lv_iload hx hb dX9_likely_62 (lv_at hl 0 rfl) ?_
            refine lv_if_eq (tgt := 70) hx hb dX9_likely_64 (by decide) (fun c_52 => ?_) (fun c_52 => ?_)
            ·
              have n_c_52 : (r_51.toInt : Int) = 0 := c_eq rfl (by decide) c_52
              have b_r_51 : (0 : Int) ≤ r_51.toInt ∧ r_51.toInt ≤ 0 := r_eq1 b_r_51 (by decide : (0 : Int) ≤ (0 : Int32).toInt ∧ (0 : Int32).toInt ≤ 0) n_c_52 (by decide)
              refine lv_aload hx hb dX9_likely_70 (lv_at hl 1 rfl) ?_
              refine lv_iload_n hx hb dX9_likely_72 rfl (lv_at hl 5 rfl) ?_
              refine vp_callSl (W.runV (As := [.int a3]) (rest := []) ⟨hx, hb, hml, hown, hts⟩ (kX3_numberAt l dC dI rw_50 wd_50 rz_50 nu_50 cN_50 fn_50 a3 b_wd_50 b_rz_50) (cwV 1 hts gX9_likely__X3_numberAt_V240 rfl rfl rfl hd_yX3_numberAt ⟨lel 1 4 rfl, lel 21 95 rfl⟩) ⟨pw_fb, rcv_X3 hK hP (q0 := 4) rfl, (pw_use hP hK hN [4, 5] rfl [2] rfl)⟩ rfl rfl hl.1 rfl (lv_room (Nat.le_of_ble_eq_true rfl)) dX9_likely_73 ⟨lel 0 0 rfl, lel 0 0 rfl⟩) (fun r_53 h_r_53 => ?_)
              refine lv_lstore (lv' := [(7, .long r_53), (6, .int r_51), (5, .ref rw_50), (0, .ref h0), (1, .int a1), (2, .int a2), (3, .int a3), (4, .int a4)]) hx hb dX9_likely_76 hl (by decide) rfl (fun ls hl => ?_)
              refine lv_aload_n hx hb dX9_likely_78 rfl (lv_at hl 3 rfl) ?_
              refine va_get (D := (dC, dI)) (ci := 7) (v := .ref cu) (C := RX9) (T := TX9) (N := 10) hx hb hts iX9_likely_X9 hown hK hP 0 rfl rfl 3 (by decide) (hts (.fieldLink RX9 35 "LuckyTicket" "current" "LLuckyTicket$Roll;") (List.mem_of_getElem? (i := 5) rfl)) (fun _ h9 => h9) rfl dX9_likely_79 ?_
              refine lv_lload hx hb dX9_likely_82 (lv_at hl 0 rfl) ?_
              refine vp_callSi (W.runV (As := [.long r_53]) (rest := []) ⟨hx, hb, hml, hown, hts⟩ (kX2_hasFigure l dC dI cu ln bs tk lw li fa lu r_53 b_ln b_bs b_tk b_lw) (cwV 1 hts gX9_likely__X2_hasFigure_V236 rfl rfl rfl hd_yX2_hasFigure ⟨lel 1 4 rfl, lel 22 95 rfl⟩) ⟨pw_fb, rcv_X2 hK hP (q0 := 1) rfl, (pw_use hP hK hN [1] rfl [] rfl)⟩ rfl rfl hl.1 rfl (lv_room (Nat.le_of_ble_eq_true rfl)) dX9_likely_84 ⟨lel 0 0 rfl, lel 0 0 rfl⟩) (fun r_54 h_r_54 => ?_)
              have b_r_54 := h_r_54
              have b_r_54 : (0 : Int) ≤ r_54.toInt ∧ r_54.toInt ≤ 1 := b_r_54
              refine lv_if_eq (tgt := 101) hx hb dX9_likely_87 (by decide) (fun c_55 => ?_) (fun c_55 => ?_)
              ·
                have n_c_55 : (r_54.toInt : Int) = 0 := c_eq rfl (by decide) c_55
                have b_r_54 : (0 : Int) ≤ r_54.toInt ∧ r_54.toInt ≤ 0 := r_eq1 b_r_54 (by decide : (0 : Int) ≤ (0 : Int32).toInt ∧ (0 : Int32).toInt ≤ 0) n_c_55 (by decide)
                refine lv_aload_n hx hb dX9_likely_101 rfl (lv_at hl 3 rfl) ?_
                refine va_get (D := (dC, dI)) (ci := 7) (v := .ref cu) (C := RX9) (T := TX9) (N := 10) hx hb hts iX9_likely_X9 hown hK hP 0 rfl rfl 3 (by decide) (hts (.fieldLink RX9 35 "LuckyTicket" "current" "LLuckyTicket$Roll;") (List.mem_of_getElem? (i := 5) rfl)) (fun _ h9 => h9) rfl dX9_likely_102 ?_
                refine va_getN (own := RX9) (index := 110) (ref := RX2) (host := RX9) (D := (dC, dI)) (ci := 1) (v := .int ln) (C := RX2) (T := TX2) (N := 7) hx hb hts iX9_likely_X2 hown hK hP 1 rfl rfl 0 (by decide) (va_Nw.use rfl (hN _ (List.mem_of_getElem? (i := 14) rfl))) (fun _ h9 => h9) rfl dX9_likely_105 ?_
                refine lv_iload_n hx hb dX9_likely_108 rfl (lv_at hl 6 rfl) ?_
                refine vp_callSl (W.runS (As := [.int ln, .int a3]) (rest := []) ⟨hx, hb, hml, hown, hts⟩ (kX0_maskAt l dC dI ln a3 ) (va_cwS 2 hts gX9_likely__X0_maskAt_S243 rfl rfl rfl hd_yX0_maskAt.2 ⟨lel 1 4 rfl, lel 21 95 rfl⟩) ⟨pn_fb, pn_use⟩ rfl rfl hl.1 rfl (lv_room (Nat.le_of_ble_eq_true rfl)) dX9_likely_109 ⟨lel 0 0 rfl, lel 0 0 rfl⟩) (fun r_56 h_r_56 => ?_)
                refine lv_lstore (lv' := [(9, .long r_56), (7, .long r_53), (6, .int r_51), (5, .ref rw_50), (0, .ref h0), (1, .int a1), (2, .int a2), (3, .int a3), (4, .int a4)]) hx hb dX9_likely_112 hl (by decide) rfl (fun ls hl => ?_)
                refine lv_aload_n hx hb dX9_likely_114 rfl (lv_at hl 4 rfl) ?_
                refine va_get (D := (dC, dI)) (ci := 7) (v := .ref cu) (C := RX9) (T := TX9) (N := 10) hx hb hts iX9_likely_X9 hown hK hP 0 rfl rfl 3 (by decide) (hts (.fieldLink RX9 35 "LuckyTicket" "current" "LLuckyTicket$Roll;") (List.mem_of_getElem? (i := 5) rfl)) (fun _ h9 => h9) rfl dX9_likely_115 ?_
                refine va_getN (own := RX9) (index := 110) (ref := RX2) (host := RX9) (D := (dC, dI)) (ci := 1) (v := .int ln) (C := RX2) (T := TX2) (N := 7) hx hb hts iX9_likely_X2 hown hK hP 1 rfl rfl 0 (by decide) (va_Nw.use rfl (hN _ (List.mem_of_getElem? (i := 14) rfl))) (fun _ h9 => h9) rfl dX9_likely_118 ?_
                refine lv_iload_n hx hb dX9_likely_121 rfl (lv_at hl 7 rfl) ?_
                refine lv_iload hx hb dX9_likely_122 (lv_at hl 8 rfl) ?_
                obtain ⟨z_57, e_z_57⟩ : ∃ y : Int64, y = a4.toInt64 := ⟨_, rfl⟩
                refine lv_i2l (v := z_57) hx hb dX9_likely_124 e_z_57.symm ?_
                obtain ⟨q_z_57, b_z_57⟩ := ti_i2l e_z_57 (ti_rng a4)
                refine vp_callSl (W.runS (As := [.int ln, .int a3, .long z_57]) (rest := []) ⟨hx, hb, hml, hown, hts⟩ (kX0_figureTold l dC dI ln a3 z_57 ) (va_cwS 3 hts gX9_likely__X0_figureTold_S246 rfl rfl rfl hd_yX0_figureTold.2 ⟨lel 1 4 rfl, lel 23 95 rfl⟩) ⟨pn_fb, pn_use⟩ rfl rfl hl.1 rfl (lv_room (Nat.le_of_ble_eq_true rfl)) dX9_likely_125 ⟨lel 0 0 rfl, lel 0 0 rfl⟩) (fun r_58 h_r_58 => ?_)
                refine lv_lstore (lv' := [(11, .long r_58), (9, .long r_56), (7, .long r_53), (6, .int r_51), (5, .ref rw_50), (0, .ref h0), (1, .int a1), (2, .int a2), (3, .int a3), (4, .int a4)]) hx hb dX9_likely_128 hl (by decide) rfl (fun ls hl => ?_)
                refine lv_aload_n hx hb dX9_likely_130 rfl (lv_at hl 5 rfl) ?_
                refine va_get (D := (dC, dI)) (ci := 7) (v := .ref cu) (C := RX9) (T := TX9) (N := 10) hx hb hts iX9_likely_X9 hown hK hP 0 rfl rfl 3 (by decide) (hts (.fieldLink RX9 35 "LuckyTicket" "current" "LLuckyTicket$Roll;") (List.mem_of_getElem? (i := 5) rfl)) (fun _ h9 => h9) rfl dX9_likely_131 ?_
                refine lv_iload_n hx hb dX9_likely_134 rfl (lv_at hl 7 rfl) ?_
                refine lv_aload_n hx hb dX9_likely_135 rfl (lv_at hl 5 rfl) ?_
                refine lv_aload hx hb dX9_likely_136 (lv_at hl 4 rfl) ?_
                refine vp_callSl (W.runV (As := [.ref rw_50]) (rest := [.int a2, .ref cu]) ⟨hx, hb, hml, hown, hts⟩ (kX9_knownPlaces l dC dI h0 tp sc rd cu im ig sl se sm fc ln bs tk lw li fa lu rw_50 wd_50 rz_50 nu_50 cN_50 fn_50 b_ln b_bs b_tk b_lw b_wd_50 b_rz_50) (cwV 1 hts gX9_likely__X9_knownPlaces_V213 rfl rfl rfl hd_yX9_knownPlaces ⟨lel 2 4 rfl, lel 46 95 rfl⟩) ⟨pw_fb, rcv_X9 hK hP (q0 := 0) rfl, (pw_use hP hK hN [0, 1, 4, 5] rfl [2] rfl)⟩ rfl rfl hl.1 rfl (lv_room (Nat.le_of_ble_eq_true rfl)) dX9_likely_138 ⟨lel 0 0 rfl, lel 0 0 rfl⟩) (fun r_59 h_r_59 => ?_)
                refine lv_lload hx hb dX9_likely_141 (lv_at hl 1 rfl) ?_
                refine lv_lor hx hb dX9_likely_143 ?_
                refine lv_topl (fun z_60 e_z_60 => ?_)
                refine lv_aload_n hx hb dX9_likely_144 rfl (lv_at hl 5 rfl) ?_
                refine lv_aload hx hb dX9_likely_145 (lv_at hl 4 rfl) ?_
                refine vp_callSl (W.runV (As := [.ref rw_50]) (rest := [.long z_60, .int a2, .ref cu]) ⟨hx, hb, hml, hown, hts⟩ (kX9_knownFigures l dC dI h0 tp sc rd cu im ig sl se sm fc ln bs tk lw li fa lu rw_50 wd_50 rz_50 nu_50 cN_50 fn_50 b_ln b_bs b_tk b_lw b_wd_50 b_rz_50) (cwV 1 hts gX9_likely__X9_knownFigures_V217 rfl rfl rfl hd_yX9_knownFigures ⟨lel 2 4 rfl, lel 49 95 rfl⟩) ⟨pw_fb, rcv_X9 hK hP (q0 := 0) rfl, (pw_use hP hK hN [0, 1, 4, 5] rfl [2] rfl)⟩ rfl rfl hl.1 rfl (lv_room (Nat.le_of_ble_eq_true rfl)) dX9_likely_147 ⟨lel 0 0 rfl, lel 0 0 rfl⟩) (fun r_61 h_r_61 => ?_)
                refine lv_lload hx hb dX9_likely_150 (lv_at hl 0 rfl) ?_
                refine lv_lor hx hb dX9_likely_152 ?_
                refine lv_topl (fun z_62 e_z_62 => ?_)
                refine vp_callSi (W.runV (As := [.int a2, .long z_60, .long z_62]) (rest := []) ⟨hx, hb, hml, hown, hts⟩ (kX2_tallyFitting l dC dI cu ln bs tk lw li fa lu cL nl fl cF nf ff a2 z_60 z_62 b_ln b_bs b_tk b_lw (by omega) (by omega)) (cwV 3 hts gX9_likely__X2_tallyFitting_V229 rfl rfl rfl hd_yX2_tallyFitting ⟨lel 4 4 rfl, lel 95 95 rfl⟩) ⟨pw_fb, rcv_X2 hK hP (q0 := 1) rfl, (pw_use hP hK hN [1, 2, 3] rfl [0, 1] rfl)⟩ rfl rfl hl.1 rfl (lv_room (Nat.le_of_ble_eq_true rfl)) dX9_likely_153 ⟨lel 0 0 rfl, lel 0 0 rfl⟩) (fun r_63 h_r_63 => ?_)
                exact W.iret (v := r_63) hx hb hr (fun t ht hW => ⟨r_63, rfl, trivial, ht⟩) t_nil dX9_likely_156
              ·
                have n_c_55 : (r_54.toInt : Int) ≠ 0 := c_ne rfl (by decide) c_55
                have b_r_54 : (1 : Int) ≤ r_54.toInt ∧ r_54.toInt ≤ 1 := r_ne1 b_r_54 (by decide : (0 : Int) ≤ (0 : Int32).toInt ∧ (0 : Int32).toInt ≤ 0) n_c_55 (by decide)
                refine lv_lload hx hb dX9_likely_90 (lv_at hl 0 rfl) ?_
                refine lv_iload hx hb dX9_likely_92 (lv_at hl 7 rfl) ?_
                obtain ⟨z_64, e_z_64⟩ : ∃ y : Int64, y = a4.toInt64 := ⟨_, rfl⟩
                refine lv_i2l (v := z_64) hx hb dX9_likely_94 e_z_64.symm ?_
                obtain ⟨q_z_64, b_z_64⟩ := ti_i2l e_z_64 (ti_rng a4)
                refine W.lcmp hx hb dX9_likely_95 ?_
                refine lv_if_eq (tgt := 101) hx hb dX9_likely_96 (by decide) (fun c_65 => ?_) (fun c_65 => ?_)
                ·
                  have n_c_65 : (r_53.toInt : Int) = z_64.toInt := g_eq rfl rfl c_65
                  have b_r_53 : (-2147483648 : Int) ≤ r_53.toInt ∧ r_53.toInt ≤ 2147483647 := r_eq1 (tl_rng r_53) b_z_64 n_c_65 (by decide)
                  refine lv_aload_n hx hb dX9_likely_101 rfl (lv_at hl 3 rfl) ?_
                  refine va_get (D := (dC, dI)) (ci := 7) (v := .ref cu) (C := RX9) (T := TX9) (N := 10) hx hb hts iX9_likely_X9 hown hK hP 0 rfl rfl 3 (by decide) (hts (.fieldLink RX9 35 "LuckyTicket" "current" "LLuckyTicket$Roll;") (List.mem_of_getElem? (i := 5) rfl)) (fun _ h9 => h9) rfl dX9_likely_102 ?_
                  refine va_getN (own := RX9) (index := 110) (ref := RX2) (host := RX9) (D := (dC, dI)) (ci := 1) (v := .int ln) (C := RX2) (T := TX2) (N := 7) hx hb hts iX9_likely_X2 hown hK hP 1 rfl rfl 0 (by decide) (va_Nw.use rfl (hN _ (List.mem_of_getElem? (i := 14) rfl))) (fun _ h9 => h9) rfl dX9_likely_105 ?_
                  refine lv_iload_n hx hb dX9_likely_108 rfl (lv_at hl 6 rfl) ?_
                  refine vp_callSl (W.runS (As := [.int ln, .int a3]) (rest := []) ⟨hx, hb, hml, hown, hts⟩ (kX0_maskAt l dC dI ln a3 ) (va_cwS 2 hts gX9_likely__X0_maskAt_S243 rfl rfl rfl hd_yX0_maskAt.2 ⟨lel 1 4 rfl, lel 21 95 rfl⟩) ⟨pn_fb, pn_use⟩ rfl rfl hl.1 rfl (lv_room (Nat.le_of_ble_eq_true rfl)) dX9_likely_109 ⟨lel 0 0 rfl, lel 0 0 rfl⟩) (fun r_66 h_r_66 => ?_)
                  refine lv_lstore (lv' := [(9, .long r_66), (7, .long r_53), (6, .int r_51), (5, .ref rw_50), (0, .ref h0), (1, .int a1), (2, .int a2), (3, .int a3), (4, .int a4)]) hx hb dX9_likely_112 hl (by decide) rfl (fun ls hl => ?_)
                  refine lv_aload_n hx hb dX9_likely_114 rfl (lv_at hl 4 rfl) ?_
                  refine va_get (D := (dC, dI)) (ci := 7) (v := .ref cu) (C := RX9) (T := TX9) (N := 10) hx hb hts iX9_likely_X9 hown hK hP 0 rfl rfl 3 (by decide) (hts (.fieldLink RX9 35 "LuckyTicket" "current" "LLuckyTicket$Roll;") (List.mem_of_getElem? (i := 5) rfl)) (fun _ h9 => h9) rfl dX9_likely_115 ?_
                  refine va_getN (own := RX9) (index := 110) (ref := RX2) (host := RX9) (D := (dC, dI)) (ci := 1) (v := .int ln) (C := RX2) (T := TX2) (N := 7) hx hb hts iX9_likely_X2 hown hK hP 1 rfl rfl 0 (by decide) (va_Nw.use rfl (hN _ (List.mem_of_getElem? (i := 14) rfl))) (fun _ h9 => h9) rfl dX9_likely_118 ?_
                  refine lv_iload_n hx hb dX9_likely_121 rfl (lv_at hl 7 rfl) ?_
                  refine lv_iload hx hb dX9_likely_122 (lv_at hl 8 rfl) ?_
                  obtain ⟨z_67, e_z_67⟩ : ∃ y : Int64, y = a4.toInt64 := ⟨_, rfl⟩
                  refine lv_i2l (v := z_67) hx hb dX9_likely_124 e_z_67.symm ?_
                  obtain ⟨q_z_67, b_z_67⟩ := ti_i2l e_z_67 (ti_rng a4)
                  refine vp_callSl (W.runS (As := [.int ln, .int a3, .long z_67]) (rest := []) ⟨hx, hb, hml, hown, hts⟩ (kX0_figureTold l dC dI ln a3 z_67 ) (va_cwS 3 hts gX9_likely__X0_figureTold_S246 rfl rfl rfl hd_yX0_figureTold.2 ⟨lel 1 4 rfl, lel 23 95 rfl⟩) ⟨pn_fb, pn_use⟩ rfl rfl hl.1 rfl (lv_room (Nat.le_of_ble_eq_true rfl)) dX9_likely_125 ⟨lel 0 0 rfl, lel 0 0 rfl⟩) (fun r_68 h_r_68 => ?_)
                  refine lv_lstore (lv' := [(11, .long r_68), (9, .long r_66), (7, .long r_53), (6, .int r_51), (5, .ref rw_50), (0, .ref h0), (1, .int a1), (2, .int a2), (3, .int a3), (4, .int a4)]) hx hb dX9_likely_128 hl (by decide) rfl (fun ls hl => ?_)
                  refine lv_aload_n hx hb dX9_likely_130 rfl (lv_at hl 5 rfl) ?_
                  refine va_get (D := (dC, dI)) (ci := 7) (v := .ref cu) (C := RX9) (T := TX9) (N := 10) hx hb hts iX9_likely_X9 hown hK hP 0 rfl rfl 3 (by decide) (hts (.fieldLink RX9 35 "LuckyTicket" "current" "LLuckyTicket$Roll;") (List.mem_of_getElem? (i := 5) rfl)) (fun _ h9 => h9) rfl dX9_likely_131 ?_
                  refine lv_iload_n hx hb dX9_likely_134 rfl (lv_at hl 7 rfl) ?_
                  refine lv_aload_n hx hb dX9_likely_135 rfl (lv_at hl 5 rfl) ?_
                  refine lv_aload hx hb dX9_likely_136 (lv_at hl 4 rfl) ?_
                  refine vp_callSl (W.runV (As := [.ref rw_50]) (rest := [.int a2, .ref cu]) ⟨hx, hb, hml, hown, hts⟩ (kX9_knownPlaces l dC dI h0 tp sc rd cu im ig sl se sm fc ln bs tk lw li fa lu rw_50 wd_50 rz_50 nu_50 cN_50 fn_50 b_ln b_bs b_tk b_lw b_wd_50 b_rz_50) (cwV 1 hts gX9_likely__X9_knownPlaces_V213 rfl rfl rfl hd_yX9_knownPlaces ⟨lel 2 4 rfl, lel 46 95 rfl⟩) ⟨pw_fb, rcv_X9 hK hP (q0 := 0) rfl, (pw_use hP hK hN [0, 1, 4, 5] rfl [2] rfl)⟩ rfl rfl hl.1 rfl (lv_room (Nat.le_of_ble_eq_true rfl)) dX9_likely_138 ⟨lel 0 0 rfl, lel 0 0 rfl⟩) (fun r_69 h_r_69 => ?_)
                  refine lv_lload hx hb dX9_likely_141 (lv_at hl 1 rfl) ?_
                  refine lv_lor hx hb dX9_likely_143 ?_
                  refine lv_topl (fun z_70 e_z_70 => ?_)
                  refine lv_aload_n hx hb dX9_likely_144 rfl (lv_at hl 5 rfl) ?_
                  refine lv_aload hx hb dX9_likely_145 (lv_at hl 4 rfl) ?_
                  refine vp_callSl (W.runV (As := [.ref rw_50]) (rest := [.long z_70, .int a2, .ref cu]) ⟨hx, hb, hml, hown, hts⟩ (kX9_knownFigures l dC dI h0 tp sc rd cu im ig sl se sm fc ln bs tk lw li fa lu rw_50 wd_50 rz_50 nu_50 cN_50 fn_50 b_ln b_bs b_tk b_lw b_wd_50 b_rz_50) (cwV 1 hts gX9_likely__X9_knownFigures_V217 rfl rfl rfl hd_yX9_knownFigures ⟨lel 2 4 rfl, lel 49 95 rfl⟩) ⟨pw_fb, rcv_X9 hK hP (q0 := 0) rfl, (pw_use hP hK hN [0, 1, 4, 5] rfl [2] rfl)⟩ rfl rfl hl.1 rfl (lv_room (Nat.le_of_ble_eq_true rfl)) dX9_likely_147 ⟨lel 0 0 rfl, lel 0 0 rfl⟩) (fun r_71 h_r_71 => ?_)
                  refine lv_lload hx hb dX9_likely_150 (lv_at hl 0 rfl) ?_
                  refine lv_lor hx hb dX9_likely_152 ?_
                  refine lv_topl (fun z_72 e_z_72 => ?_)
                  refine vp_callSi (W.runV (As := [.int a2, .long z_70, .long z_72]) (rest := []) ⟨hx, hb, hml, hown, hts⟩ (kX2_tallyFitting l dC dI cu ln bs tk lw li fa lu cL nl fl cF nf ff a2 z_70 z_72 b_ln b_bs b_tk b_lw (by omega) (by omega)) (cwV 3 hts gX9_likely__X2_tallyFitting_V229 rfl rfl rfl hd_yX2_tallyFitting ⟨lel 4 4 rfl, lel 95 95 rfl⟩) ⟨pw_fb, rcv_X2 hK hP (q0 := 1) rfl, (pw_use hP hK hN [1, 2, 3] rfl [0, 1] rfl)⟩ rfl rfl hl.1 rfl (lv_room (Nat.le_of_ble_eq_true rfl)) dX9_likely_153 ⟨lel 0 0 rfl, lel 0 0 rfl⟩) (fun r_73 h_r_73 => ?_)
                  exact W.iret (v := r_73) hx hb hr (fun t ht hW => ⟨r_73, rfl, trivial, ht⟩) t_nil dX9_likely_156
                ·
                  have n_c_65 : (r_53.toInt : Int) ≠ z_64.toInt := g_ne rfl rfl c_65
                  refine lv_iconst (v := 0) hx hb dX9_likely_99 (by decide) ?_
                  exact W.iret (v := 0) hx hb hr (fun t ht hW => ⟨0, rfl, trivial, ht⟩) t_nil dX9_likely_100
            ·
              have n_c_52 : (r_51.toInt : Int) ≠ 0 := c_ne rfl (by decide) c_52
              have b_r_51 : (-7 : Int) ≤ r_51.toInt ∧ r_51.toInt ≤ -1 := r_ne2 b_r_51 (by decide : (0 : Int) ≤ (0 : Int32).toInt ∧ (0 : Int32).toInt ≤ 0) n_c_52 (by decide)
              refine lv_iload hx hb dX9_likely_67 (lv_at hl 0 rfl) ?_
              exact W.iret (v := r_51) hx hb hr (fun t ht hW => ⟨r_51, rfl, trivial, ht⟩) t_nil dX9_likely_69
          ·
            rcases (show a1.toInt = 0 ∨ a1.toInt = 1 ∨ a1.toInt = 2 ∨ a1.toInt = 3 by omega) with h_74 | h_74 | h_74 | h_74
            ·
              obtain rfl : a1 = 0 := Int32.toInt_inj.mp (h_74.trans (by decide))
              refine va_aldq hx hb hK hP 2 0 rfl rfl (vp_in_lit (by decide)) dX9_likely_51 ?_
              refine W.eq (g2 := F0 m 52 ls (.ref s0 :: [])) (congrArg (fun v => F0 m 52 ls (va_rf v :: [])) (sf4_0 s0 s1 s2 s3)) ?_
              exact hj_51_50 (s0, wd0, rz0, n0, cJ0, g0) _ ⟨b_wd0, b_rz0, hP.sub [0, 1, 11, 12, 3, 7] rfl, hK.sub [5, 6, 1] rfl, hl⟩
            ·
              obtain rfl : a1 = 1 := Int32.toInt_inj.mp (h_74.trans (by decide))
              refine va_aldq hx hb hK hP 2 0 rfl rfl (vp_in_lit (by decide)) dX9_likely_51 ?_
              refine W.eq (g2 := F0 m 52 ls (.ref s1 :: [])) (congrArg (fun v => F0 m 52 ls (va_rf v :: [])) (sf4_1 s0 s1 s2 s3)) ?_
              exact hj_51_50 (s1, wd1, rz1, n1, cJ1, g1) _ ⟨b_wd1, b_rz1, hP.sub [0, 1, 11, 12, 4, 8] rfl, hK.sub [5, 6, 2] rfl, hl⟩
            ·
              obtain rfl : a1 = 2 := Int32.toInt_inj.mp (h_74.trans (by decide))
              refine va_aldq hx hb hK hP 2 0 rfl rfl (vp_in_lit (by decide)) dX9_likely_51 ?_
              refine W.eq (g2 := F0 m 52 ls (.ref s2 :: [])) (congrArg (fun v => F0 m 52 ls (va_rf v :: [])) (sf4_2 s0 s1 s2 s3)) ?_
              exact hj_51_50 (s2, wd2, rz2, n2, cJ2, g2) _ ⟨b_wd2, b_rz2, hP.sub [0, 1, 11, 12, 5, 9] rfl, hK.sub [5, 6, 3] rfl, hl⟩
            ·
              obtain rfl : a1 = 3 := Int32.toInt_inj.mp (h_74.trans (by decide))
              refine va_aldq hx hb hK hP 2 0 rfl rfl (vp_in_lit (by decide)) dX9_likely_51 ?_
              refine W.eq (g2 := F0 m 52 ls (.ref s3 :: [])) (congrArg (fun v => F0 m 52 ls (va_rf v :: [])) (sf4_3 s0 s1 s2 s3)) ?_
              exact hj_51_50 (s3, wd3, rz3, n3, cJ3, g3) _ ⟨b_wd3, b_rz3, hP.sub [0, 1, 11, 12, 6, 10] rfl, hK.sub [5, 6, 4] rfl, hl⟩
        ·
          have n_c_49 : (r_48.toInt : Int) = 0 := c_eq rfl (by decide) c_49
          have b_r_48 : (0 : Int) ≤ r_48.toInt ∧ r_48.toInt ≤ 0 := r_eq1 b_r_48 (by decide : (0 : Int) ≤ (0 : Int32).toInt ∧ (0 : Int32).toInt ≤ 0) n_c_49 (by decide)
          refine lv_bipush (v := (-2)) hx hb dX9_likely_43 (by decide) ?_
          exact W.iret (v := (-2)) hx hb hr (fun t ht hW => ⟨(-2), rfl, trivial, ht⟩) t_nil dX9_likely_45
theorem dX9_standingSlots_0 : decode cX9_standingSlots 0 = .ok (.iconst 0, 1) := by decide +kernel
theorem dX9_standingSlots_1 : decode cX9_standingSlots 1 = .ok (.istore_n 1, 1) := by decide +kernel
theorem dX9_standingSlots_2 : decode cX9_standingSlots 2 = .ok (.iconst 0, 1) := by decide +kernel
theorem dX9_standingSlots_3 : decode cX9_standingSlots 3 = .ok (.istore_n 2, 1) := by decide +kernel
theorem dX9_standingSlots_4 : decode cX9_standingSlots 4 = .ok (.iload_n 2, 1) := by decide +kernel
theorem dX9_standingSlots_5 : decode cX9_standingSlots 5 = .ok (.aload_n 0, 1) := by decide +kernel
theorem dX9_standingSlots_6 : decode cX9_standingSlots 6 = .ok (.getfield 50, 3) := by decide +kernel
theorem dX9_standingSlots_9 : decode cX9_standingSlots 9 = .ok (.arraylength, 1) := by decide +kernel
theorem dX9_standingSlots_10 : decode cX9_standingSlots 10 = .ok (.if_icmp .ge 24, 3) := by decide +kernel
theorem dX9_standingSlots_13 : decode cX9_standingSlots 13 = .ok (.aload_n 0, 1) := by decide +kernel
theorem dX9_standingSlots_14 : decode cX9_standingSlots 14 = .ok (.getfield 50, 3) := by decide +kernel
theorem dX9_standingSlots_17 : decode cX9_standingSlots 17 = .ok (.iload_n 2, 1) := by decide +kernel
theorem dX9_standingSlots_18 : decode cX9_standingSlots 18 = .ok (.aaload, 1) := by decide +kernel
theorem dX9_standingSlots_19 : decode cX9_standingSlots 19 = .ok (.invokevirtual 270, 3) := by decide +kernel
theorem dX9_standingSlots_22 : decode cX9_standingSlots 22 = .ok (.ifCond .eq 6, 3) := by decide +kernel
theorem dX9_standingSlots_25 : decode cX9_standingSlots 25 = .ok (.iinc 1 1, 3) := by decide +kernel
theorem dX9_standingSlots_28 : decode cX9_standingSlots 28 = .ok (.iinc 2 1, 3) := by decide +kernel
theorem dX9_standingSlots_31 : decode cX9_standingSlots 31 = .ok (.goto (-27), 3) := by decide +kernel
theorem dX9_standingSlots_34 : decode cX9_standingSlots 34 = .ok (.iload_n 1, 1) := by decide +kernel
theorem dX9_standingSlots_35 : decode cX9_standingSlots 35 = .ok (.ireturn, 1) := by decide +kernel
theorem hd_yX9_standingSlots : yX9_standingSlots.cls = RX9 ∧ yX9_standingSlots.cls ≠ "java/lang/invoke/MethodHandle" ∧ yX9_standingSlots.cls ≠ "java/lang/invoke/VarHandle" ∧ (parseMethodDescriptor yX9_standingSlots.desc).map (fun d => d.parameters.length) = some 0 := by decide +kernel
def uX9_standingSlots : List Cond := List.cons (.code yX9_standingSlots cX9_standingSlots 3 (some .int)) (HAppend.hAppend ([.fieldLink RX9 50 "LuckyTicket" "slots" "[LLuckyTicket$Row;", .methodLink RX9 270 yX3_stands, .instanceMethod yX3_stands, .selects RX3 yX3_stands yX3_stands, .initialized RX3] : List Cond) (HAppend.hAppend uX3_stands wsX90))
theorem iX9_standingSlots_X9 : ∀ w ∈ wsX90, w ∈ uX9_standingSlots := fun _ h => (List.mem_cons_of_mem _ (List.mem_append_right _ (List.mem_append_right _ h)))
theorem guX9_standingSlots : GU uX9_standingSlots := gu_cons (gu_app (by decide +kernel) (gu_ap guX3_stands gws_X9))
theorem gX9_standingSlots__X3_stands_V270 : GoodIn uX9_standingSlots (wsV RX9 270 RX3 yX3_stands uX3_stands) := gin_V (List.mem_of_getElem? (i := 2) rfl) (List.mem_of_getElem? (i := 3) rfl) (List.mem_of_getElem? (i := 4) rfl) (List.mem_of_getElem? (i := 5) rfl) (fun _ h => (List.mem_cons_of_mem _ (List.mem_append_right _ (List.mem_append_left _ h)))) guX3_stands
set_option maxHeartbeats 4000000 in
set_option maxRecDepth 100000 in
theorem kX9_standingSlots (l : Launch) (dC : Nat → ClassId) (dI : Nat → Nat → Nat) (h0 : Nat) (tp : Nat) (sc : Nat) (rd : Nat) (cu : Nat) (im : Nat) (ig : Nat) (sl : Nat) (se : Nat) (sm : Nat) (fc : Nat) (ln : Int32) (bs : Int32) (tk : Int32) (lw : Int32) (li : Int32) (fa : Nat) (lu : Nat) (cS : ClassId) (s0 : Nat) (s1 : Nat) (s2 : Nat) (s3 : Nat) (n0 : Nat) (n1 : Nat) (n2 : Nat) (n3 : Nat) (wd0 : Int32) (wd1 : Int32) (wd2 : Int32) (wd3 : Int32) (rz0 : Int32) (rz1 : Int32) (rz2 : Int32) (rz3 : Int32) (cJ0 : ClassId) (cJ1 : ClassId) (cJ2 : ClassId) (cJ3 : ClassId) (g0 : Nat → Int64) (g1 : Nat → Int64) (g2 : Nat → Int64) (g3 : Nat → Int64) (b_ln : (0 : Int) ≤ ln.toInt ∧ ln.toInt ≤ 12) (b_bs : (0 : Int) ≤ bs.toInt ∧ bs.toInt ≤ 16) (b_tk : (0 : Int) ≤ tk.toInt ∧ tk.toInt ≤ 20000) (b_lw : (0 : Int) ≤ lw.toInt ∧ lw.toInt ≤ 9) (b_wd0 : (-1 : Int) ≤ wd0.toInt ∧ wd0.toInt ≤ 3) (b_wd1 : (-1 : Int) ≤ wd1.toInt ∧ wd1.toInt ≤ 3) (b_wd2 : (-1 : Int) ≤ wd2.toInt ∧ wd2.toInt ≤ 3) (b_wd3 : (-1 : Int) ≤ wd3.toInt ∧ wd3.toInt ≤ 3) (b_rz0 : (0 : Int) ≤ rz0.toInt ∧ rz0.toInt ≤ 60) (b_rz1 : (0 : Int) ≤ rz1.toInt ∧ rz1.toInt ≤ 60) (b_rz2 : (0 : Int) ≤ rz2.toInt ∧ rz2.toInt ≤ 60) (b_rz3 : (0 : Int) ≤ rz3.toInt ∧ rz3.toInt ≤ 60) : Met l yX9_standingSlots uX9_standingSlots ({ frames := 1, cells := 0, slots := 0, locals := 20 }) (va_Pc [.ref h0] (pw (dC, dI) vwCl [(h0, .inr (7, [.ref tp, .ref sc, .ref rd, .ref cu, .ref im, .ref ig, .ref sl, .ref se, .ref sm, .ref fc])), (cu, .inr (1, [.int ln, .int bs, .int tk, .int lw, .int li, .ref fa, .ref lu])), (sl, .inl (cS, 4, .inr (.inr (.inr (.inr (sf4 s0 s1 s2 s3)))))), (s0, .inr (2, [.int wd0, .int rz0, .ref n0])), (s1, .inr (2, [.int wd1, .int rz1, .ref n1])), (s2, .inr (2, [.int wd2, .int rz2, .ref n2])), (s3, .inr (2, [.int wd3, .int rz3, .ref n3])), (n0, .inl (cJ0, 60, .inr (.inl g0))), (n1, .inl (cJ1, 60, .inr (.inl g1))), (n2, .inl (cJ2, 60, .inr (.inl g2))), (n3, .inl (cJ3, 60, .inr (.inl g3)))] [(cS, .object RX3), (cJ0, .long), (cJ1, .long), (cJ2, .long), (cJ3, .long)])) (vp_Si (fun r => True)) 0 0 (fun _ => False) := by
  refine Met.ofW (cc := cX9_standingSlots) (maxL := 3) (ret := (some .int)) pn_X9 rfl ?_
  intro p e s m args below meth c s₁ B hml hv
  obtain ⟨rfl, hP, hK, hN⟩ := hv
  have hx := B.exec
  have hb := B.bytes
  have hr := B.returns
  have hts := atoms_spec (ws := uX9_standingSlots) B.pre
  have hown : s.vm.findClass RX9 = some m.cls := hown_of B.named rfl
  have hlocks := B.notSynchronized
  have hl := lv_entry ([.ref h0]) (n := 3) (Nat.le_of_ble_eq_true rfl)
  rw [lg_entry_eq]
  generalize (lg_sl ([.ref h0]) ++ List.replicate (3 - (lg_sl ([.ref h0])).length) Slot.unset).toArray = ls at hl ⊢
  have hl : lv_has ls 3 [(0, .ref h0)] := hl
  refine lv_iconst (v := 0) hx hb dX9_standingSlots_0 (by decide) ?_
  refine lv_istore_n (lv' := [(1, .int 0), (0, .ref h0)]) hx hb dX9_standingSlots_1 rfl hl (by decide) rfl (fun ls hl => ?_)
  refine lv_iconst (v := 0) hx hb dX9_standingSlots_2 (by decide) ?_
  refine lv_istore_n (lv' := [(2, .int 0), (1, .int 0), (0, .ref h0)]) hx hb dX9_standingSlots_3 rfl hl (by decide) rfl (fun ls hl => ?_)
  refine loopP (σ := Int32 × Int32) (fun v => (4 - v.1.toInt).toNat) (fun v ls => ((0 : Int) ≤ v.1.toInt ∧ v.1.toInt ≤ 4) ∧ lv_has ls 3 [(2, .int v.1), (1, .int v.2), (0, .ref h0)]) (fun v ls hI ih_4_1076 => ?_) ((0 : Int32), (0 : Int32)) ⟨(show (0 : Int) ≤ (0 : Int32).toInt ∧ (0 : Int32).toInt ≤ 4 from (rg_w (by decide : (0 : Int) ≤ (0 : Int32).toInt ∧ (0 : Int32).toInt ≤ 0) (by decide) (by decide))), lv_sub hl [0, 1, 2] rfl⟩
  obtain ⟨y_565, y_566⟩ := v
  obtain ⟨b_y_565, hl⟩ := hI
  have b_y_565 : (0 : Int) ≤ y_565.toInt ∧ y_565.toInt ≤ 4 := b_y_565
  have hl : lv_has ls 3 [(2, .int y_565), (1, .int y_566), (0, .ref h0)] := hl
  refine lv_iload_n hx hb dX9_standingSlots_4 rfl (lv_at hl 0 rfl) ?_
  refine lv_aload_n hx hb dX9_standingSlots_5 rfl (lv_at hl 2 rfl) ?_
  refine va_get (D := (dC, dI)) (ci := 7) (v := .ref sl) (C := RX9) (T := TX9) (N := 10) hx hb hts iX9_standingSlots_X9 hown hK hP 0 rfl rfl 6 (by decide) (hts (.fieldLink RX9 50 "LuckyTicket" "slots" "[LLuckyTicket$Row;") (List.mem_of_getElem? (i := 1) rfl)) (fun _ h9 => h9) rfl dX9_standingSlots_6 ?_
  refine va_alen (v := 4) hx hb hK hP 2 0 rfl rfl (by rfl) dX9_standingSlots_9 ?_
  refine lv_icmp_ge (tgt := 34) hx hb dX9_standingSlots_10 (by decide) (fun c_1077 => ?_) (fun c_1077 => ?_)
  ·
    have n_c_1077 : (4 : Int) ≤ y_565.toInt := c_ge rfl (by decide) c_1077
    have b_y_565 : (4 : Int) ≤ y_565.toInt ∧ y_565.toInt ≤ 4 := r_le2 (by decide : (4 : Int) ≤ (4 : Int32).toInt ∧ (4 : Int32).toInt ≤ 4) b_y_565 n_c_1077 (by decide)
    refine lv_iload_n hx hb dX9_standingSlots_34 rfl (lv_at hl 1 rfl) ?_
    exact W.iret (v := y_566) hx hb hr (fun t ht hW => ⟨y_566, rfl, trivial, ht⟩) t_nil dX9_standingSlots_35
  ·
    have n_c_1077 : (y_565.toInt : Int) < 4 := c_nge rfl (by decide) c_1077
    have b_y_565 : (0 : Int) ≤ y_565.toInt ∧ y_565.toInt ≤ 3 := r_lt1 b_y_565 (by decide : (4 : Int) ≤ (4 : Int32).toInt ∧ (4 : Int32).toInt ≤ 4) n_c_1077 (by decide)
    refine lv_aload_n hx hb dX9_standingSlots_13 rfl (lv_at hl 2 rfl) ?_
    refine va_get (D := (dC, dI)) (ci := 7) (v := .ref sl) (C := RX9) (T := TX9) (N := 10) hx hb hts iX9_standingSlots_X9 hown hK hP 0 rfl rfl 6 (by decide) (hts (.fieldLink RX9 50 "LuckyTicket" "slots" "[LLuckyTicket$Row;") (List.mem_of_getElem? (i := 1) rfl)) (fun _ h9 => h9) rfl dX9_standingSlots_14 ?_
    rcases (show y_565.toInt = 0 ∨ y_565.toInt = 1 ∨ y_565.toInt = 2 ∨ y_565.toInt = 3 by omega) with h_1078 | h_1078 | h_1078 | h_1078
    ·
      obtain rfl : y_565 = 0 := Int32.toInt_inj.mp (h_1078.trans (by decide))
      refine lv_iload_n hx hb dX9_standingSlots_17 rfl (lv_at hl 0 rfl) ?_
      refine va_aldq hx hb hK hP 2 0 rfl rfl (vp_in_b (by decide : (0 : Int) ≤ (0 : Int32).toInt ∧ (0 : Int32).toInt ≤ 0) (by decide) (by decide)) dX9_standingSlots_18 ?_
      refine W.eq (g2 := F0 m 19 ls (.ref s0 :: [])) (congrArg (fun v => F0 m 19 ls (va_rf v :: [])) (sf4_0 s0 s1 s2 s3)) ?_
      refine vp_callSi (W.runV (As := []) (rest := []) ⟨hx, hb, hml, hown, hts⟩ (kX3_stands l dC dI s0 wd0 rz0 n0 b_wd0 b_rz0) (cwV 0 hts gX9_standingSlots__X3_stands_V270 rfl rfl rfl hd_yX3_stands ⟨lel 1 1 rfl, lel 20 20 rfl⟩) ⟨pw_fb, rcv_X3 hK hP (q0 := 3) rfl, (pw_use hP hK hN [3] rfl [] rfl)⟩ rfl rfl hl.1 rfl (lv_room (Nat.le_of_ble_eq_true rfl)) dX9_standingSlots_19 ⟨lel 0 0 rfl, lel 0 0 rfl⟩) (fun r_1079 h_r_1079 => ?_)
      obtain ⟨b_r_1079, nz_r_1079⟩ := h_r_1079
      have b_r_1079 : (0 : Int) ≤ r_1079.toInt ∧ r_1079.toInt ≤ 1 := b_r_1079
      refine cutP (σ := Int32) (pc2 := 28) (st2 := fun v => []) (cells2 := 0) (slots2 := 0) (fun v ls => lv_has ls 3 [(2, .int 0), (1, .int v), (0, .ref h0)]) (fun v ls hI => ?_) (fun hj_28_1083 => ?_)
      ·
        obtain ⟨y_1083, rfl⟩ : ∃ z, z = v := ⟨_, rfl⟩
        have hl := hI
        have hl : lv_has ls 3 [(2, .int 0), (1, .int y_1083), (0, .ref h0)] := hl
        refine lv_iinc (v := 1) (lv' := [(2, .int 1), (1, .int y_1083), (0, .ref h0)]) hx hb dX9_standingSlots_28 hl (k := 0) rfl (by decide) (by decide) rfl (fun ls hl => ?_)
        refine lv_goto (tgt := 4) hx hb dX9_standingSlots_31 (by decide) ?_
        exact ih_4_1076 ((1 : Int32), y_1083) _ ⟨(show (0 : Int) ≤ (1 : Int32).toInt ∧ (1 : Int32).toInt ≤ 4 from (rg_w (by decide : (1 : Int) ≤ (1 : Int32).toInt ∧ (1 : Int32).toInt ≤ 1) (by decide) (by decide))), lv_sub hl [0, 1, 2] rfl⟩ (show (4 - (1 : Int32).toInt).toNat < (4 - (0 : Int32).toInt).toNat by decide)
      ·
        refine lv_if_eq (tgt := 28) hx hb dX9_standingSlots_22 (by decide) (fun c_1080 => ?_) (fun c_1080 => ?_)
        ·
          have n_c_1080 : (r_1079.toInt : Int) = 0 := c_eq rfl (by decide) c_1080
          have b_r_1079 : (0 : Int) ≤ r_1079.toInt ∧ r_1079.toInt ≤ 0 := r_eq1 b_r_1079 (by decide : (0 : Int) ≤ (0 : Int32).toInt ∧ (0 : Int32).toInt ≤ 0) n_c_1080 (by decide)
          exact hj_28_1083 y_566 _ (lv_sub hl [0, 1, 2] rfl)
        ·
          have n_c_1080 : (r_1079.toInt : Int) ≠ 0 := c_ne rfl (by decide) c_1080
          have b_r_1079 : (1 : Int) ≤ r_1079.toInt ∧ r_1079.toInt ≤ 1 := r_ne1 b_r_1079 (by decide : (0 : Int) ≤ (0 : Int32).toInt ∧ (0 : Int32).toInt ≤ 0) n_c_1080 (by decide)
          obtain ⟨b_wd0, g_1085⟩ := nz_r_1079 c_1080
          obtain ⟨z_1086, e_z_1086⟩ : ∃ y : Int32, y = y_566 + 1 := ⟨_, rfl⟩
          refine lv_iinc (v := z_1086) (lv' := [(1, .int z_1086), (2, .int 0), (0, .ref h0)]) hx hb dX9_standingSlots_25 hl (k := 1) rfl (by rw [e_z_1086]; rfl) (by decide) rfl (fun ls hl => ?_)
          exact hj_28_1083 z_1086 _ (lv_sub hl [1, 0, 2] rfl)
    ·
      obtain rfl : y_565 = 1 := Int32.toInt_inj.mp (h_1078.trans (by decide))
      refine lv_iload_n hx hb dX9_standingSlots_17 rfl (lv_at hl 0 rfl) ?_
      refine va_aldq hx hb hK hP 2 0 rfl rfl (vp_in_b (by decide : (1 : Int) ≤ (1 : Int32).toInt ∧ (1 : Int32).toInt ≤ 1) (by decide) (by decide)) dX9_standingSlots_18 ?_
      refine W.eq (g2 := F0 m 19 ls (.ref s1 :: [])) (congrArg (fun v => F0 m 19 ls (va_rf v :: [])) (sf4_1 s0 s1 s2 s3)) ?_
      refine vp_callSi (W.runV (As := []) (rest := []) ⟨hx, hb, hml, hown, hts⟩ (kX3_stands l dC dI s1 wd1 rz1 n1 b_wd1 b_rz1) (cwV 0 hts gX9_standingSlots__X3_stands_V270 rfl rfl rfl hd_yX3_stands ⟨lel 1 1 rfl, lel 20 20 rfl⟩) ⟨pw_fb, rcv_X3 hK hP (q0 := 4) rfl, (pw_use hP hK hN [4] rfl [] rfl)⟩ rfl rfl hl.1 rfl (lv_room (Nat.le_of_ble_eq_true rfl)) dX9_standingSlots_19 ⟨lel 0 0 rfl, lel 0 0 rfl⟩) (fun r_1087 h_r_1087 => ?_)
      obtain ⟨b_r_1087, nz_r_1087⟩ := h_r_1087
      have b_r_1087 : (0 : Int) ≤ r_1087.toInt ∧ r_1087.toInt ≤ 1 := b_r_1087
      refine cutP (σ := Int32) (pc2 := 28) (st2 := fun v => []) (cells2 := 0) (slots2 := 0) (fun v ls => lv_has ls 3 [(2, .int 1), (1, .int v), (0, .ref h0)]) (fun v ls hI => ?_) (fun hj_28_1091 => ?_)
      ·
        obtain ⟨y_1091, rfl⟩ : ∃ z, z = v := ⟨_, rfl⟩
        have hl := hI
        have hl : lv_has ls 3 [(2, .int 1), (1, .int y_1091), (0, .ref h0)] := hl
        refine lv_iinc (v := 2) (lv' := [(2, .int 2), (1, .int y_1091), (0, .ref h0)]) hx hb dX9_standingSlots_28 hl (k := 0) rfl (by decide) (by decide) rfl (fun ls hl => ?_)
        refine lv_goto (tgt := 4) hx hb dX9_standingSlots_31 (by decide) ?_
        exact ih_4_1076 ((2 : Int32), y_1091) _ ⟨(show (0 : Int) ≤ (2 : Int32).toInt ∧ (2 : Int32).toInt ≤ 4 from (rg_w (by decide : (2 : Int) ≤ (2 : Int32).toInt ∧ (2 : Int32).toInt ≤ 2) (by decide) (by decide))), lv_sub hl [0, 1, 2] rfl⟩ (show (4 - (2 : Int32).toInt).toNat < (4 - (1 : Int32).toInt).toNat by decide)
      ·
        refine lv_if_eq (tgt := 28) hx hb dX9_standingSlots_22 (by decide) (fun c_1088 => ?_) (fun c_1088 => ?_)
        ·
          have n_c_1088 : (r_1087.toInt : Int) = 0 := c_eq rfl (by decide) c_1088
          have b_r_1087 : (0 : Int) ≤ r_1087.toInt ∧ r_1087.toInt ≤ 0 := r_eq1 b_r_1087 (by decide : (0 : Int) ≤ (0 : Int32).toInt ∧ (0 : Int32).toInt ≤ 0) n_c_1088 (by decide)
          exact hj_28_1091 y_566 _ (lv_sub hl [0, 1, 2] rfl)
        ·
          have n_c_1088 : (r_1087.toInt : Int) ≠ 0 := c_ne rfl (by decide) c_1088
          have b_r_1087 : (1 : Int) ≤ r_1087.toInt ∧ r_1087.toInt ≤ 1 := r_ne1 b_r_1087 (by decide : (0 : Int) ≤ (0 : Int32).toInt ∧ (0 : Int32).toInt ≤ 0) n_c_1088 (by decide)
          obtain ⟨b_wd1, g_1093⟩ := nz_r_1087 c_1088
          obtain ⟨z_1094, e_z_1094⟩ : ∃ y : Int32, y = y_566 + 1 := ⟨_, rfl⟩
          refine lv_iinc (v := z_1094) (lv' := [(1, .int z_1094), (2, .int 1), (0, .ref h0)]) hx hb dX9_standingSlots_25 hl (k := 1) rfl (by rw [e_z_1094]; rfl) (by decide) rfl (fun ls hl => ?_)
          exact hj_28_1091 z_1094 _ (lv_sub hl [1, 0, 2] rfl)
    ·
      obtain rfl : y_565 = 2 := Int32.toInt_inj.mp (h_1078.trans (by decide))
      refine lv_iload_n hx hb dX9_standingSlots_17 rfl (lv_at hl 0 rfl) ?_
      refine va_aldq hx hb hK hP 2 0 rfl rfl (vp_in_b (by decide : (2 : Int) ≤ (2 : Int32).toInt ∧ (2 : Int32).toInt ≤ 2) (by decide) (by decide)) dX9_standingSlots_18 ?_
      refine W.eq (g2 := F0 m 19 ls (.ref s2 :: [])) (congrArg (fun v => F0 m 19 ls (va_rf v :: [])) (sf4_2 s0 s1 s2 s3)) ?_
      refine vp_callSi (W.runV (As := []) (rest := []) ⟨hx, hb, hml, hown, hts⟩ (kX3_stands l dC dI s2 wd2 rz2 n2 b_wd2 b_rz2) (cwV 0 hts gX9_standingSlots__X3_stands_V270 rfl rfl rfl hd_yX3_stands ⟨lel 1 1 rfl, lel 20 20 rfl⟩) ⟨pw_fb, rcv_X3 hK hP (q0 := 5) rfl, (pw_use hP hK hN [5] rfl [] rfl)⟩ rfl rfl hl.1 rfl (lv_room (Nat.le_of_ble_eq_true rfl)) dX9_standingSlots_19 ⟨lel 0 0 rfl, lel 0 0 rfl⟩) (fun r_1095 h_r_1095 => ?_)
      obtain ⟨b_r_1095, nz_r_1095⟩ := h_r_1095
      have b_r_1095 : (0 : Int) ≤ r_1095.toInt ∧ r_1095.toInt ≤ 1 := b_r_1095
      refine cutP (σ := Int32) (pc2 := 28) (st2 := fun v => []) (cells2 := 0) (slots2 := 0) (fun v ls => lv_has ls 3 [(2, .int 2), (1, .int v), (0, .ref h0)]) (fun v ls hI => ?_) (fun hj_28_1099 => ?_)
      ·
        obtain ⟨y_1099, rfl⟩ : ∃ z, z = v := ⟨_, rfl⟩
        have hl := hI
        have hl : lv_has ls 3 [(2, .int 2), (1, .int y_1099), (0, .ref h0)] := hl
        refine lv_iinc (v := 3) (lv' := [(2, .int 3), (1, .int y_1099), (0, .ref h0)]) hx hb dX9_standingSlots_28 hl (k := 0) rfl (by decide) (by decide) rfl (fun ls hl => ?_)
        refine lv_goto (tgt := 4) hx hb dX9_standingSlots_31 (by decide) ?_
        exact ih_4_1076 ((3 : Int32), y_1099) _ ⟨(show (0 : Int) ≤ (3 : Int32).toInt ∧ (3 : Int32).toInt ≤ 4 from (rg_w (by decide : (3 : Int) ≤ (3 : Int32).toInt ∧ (3 : Int32).toInt ≤ 3) (by decide) (by decide))), lv_sub hl [0, 1, 2] rfl⟩ (show (4 - (3 : Int32).toInt).toNat < (4 - (2 : Int32).toInt).toNat by decide)
      ·
        refine lv_if_eq (tgt := 28) hx hb dX9_standingSlots_22 (by decide) (fun c_1096 => ?_) (fun c_1096 => ?_)
        ·
          have n_c_1096 : (r_1095.toInt : Int) = 0 := c_eq rfl (by decide) c_1096
          have b_r_1095 : (0 : Int) ≤ r_1095.toInt ∧ r_1095.toInt ≤ 0 := r_eq1 b_r_1095 (by decide : (0 : Int) ≤ (0 : Int32).toInt ∧ (0 : Int32).toInt ≤ 0) n_c_1096 (by decide)
          exact hj_28_1099 y_566 _ (lv_sub hl [0, 1, 2] rfl)
        ·
          have n_c_1096 : (r_1095.toInt : Int) ≠ 0 := c_ne rfl (by decide) c_1096
          have b_r_1095 : (1 : Int) ≤ r_1095.toInt ∧ r_1095.toInt ≤ 1 := r_ne1 b_r_1095 (by decide : (0 : Int) ≤ (0 : Int32).toInt ∧ (0 : Int32).toInt ≤ 0) n_c_1096 (by decide)
          obtain ⟨b_wd2, g_1101⟩ := nz_r_1095 c_1096
          obtain ⟨z_1102, e_z_1102⟩ : ∃ y : Int32, y = y_566 + 1 := ⟨_, rfl⟩
          refine lv_iinc (v := z_1102) (lv' := [(1, .int z_1102), (2, .int 2), (0, .ref h0)]) hx hb dX9_standingSlots_25 hl (k := 1) rfl (by rw [e_z_1102]; rfl) (by decide) rfl (fun ls hl => ?_)
          exact hj_28_1099 z_1102 _ (lv_sub hl [1, 0, 2] rfl)
    ·
      obtain rfl : y_565 = 3 := Int32.toInt_inj.mp (h_1078.trans (by decide))
      refine lv_iload_n hx hb dX9_standingSlots_17 rfl (lv_at hl 0 rfl) ?_
      refine va_aldq hx hb hK hP 2 0 rfl rfl (vp_in_b (by decide : (3 : Int) ≤ (3 : Int32).toInt ∧ (3 : Int32).toInt ≤ 3) (by decide) (by decide)) dX9_standingSlots_18 ?_
      refine W.eq (g2 := F0 m 19 ls (.ref s3 :: [])) (congrArg (fun v => F0 m 19 ls (va_rf v :: [])) (sf4_3 s0 s1 s2 s3)) ?_
      refine vp_callSi (W.runV (As := []) (rest := []) ⟨hx, hb, hml, hown, hts⟩ (kX3_stands l dC dI s3 wd3 rz3 n3 b_wd3 b_rz3) (cwV 0 hts gX9_standingSlots__X3_stands_V270 rfl rfl rfl hd_yX3_stands ⟨lel 1 1 rfl, lel 20 20 rfl⟩) ⟨pw_fb, rcv_X3 hK hP (q0 := 6) rfl, (pw_use hP hK hN [6] rfl [] rfl)⟩ rfl rfl hl.1 rfl (lv_room (Nat.le_of_ble_eq_true rfl)) dX9_standingSlots_19 ⟨lel 0 0 rfl, lel 0 0 rfl⟩) (fun r_1103 h_r_1103 => ?_)
      obtain ⟨b_r_1103, nz_r_1103⟩ := h_r_1103
      have b_r_1103 : (0 : Int) ≤ r_1103.toInt ∧ r_1103.toInt ≤ 1 := b_r_1103
      refine cutP (σ := Int32) (pc2 := 28) (st2 := fun v => []) (cells2 := 0) (slots2 := 0) (fun v ls => lv_has ls 3 [(2, .int 3), (1, .int v), (0, .ref h0)]) (fun v ls hI => ?_) (fun hj_28_1107 => ?_)
      ·
        obtain ⟨y_1107, rfl⟩ : ∃ z, z = v := ⟨_, rfl⟩
        have hl := hI
        have hl : lv_has ls 3 [(2, .int 3), (1, .int y_1107), (0, .ref h0)] := hl
        refine lv_iinc (v := 4) (lv' := [(2, .int 4), (1, .int y_1107), (0, .ref h0)]) hx hb dX9_standingSlots_28 hl (k := 0) rfl (by decide) (by decide) rfl (fun ls hl => ?_)
        refine lv_goto (tgt := 4) hx hb dX9_standingSlots_31 (by decide) ?_
        exact ih_4_1076 ((4 : Int32), y_1107) _ ⟨(show (0 : Int) ≤ (4 : Int32).toInt ∧ (4 : Int32).toInt ≤ 4 from (rg_w (by decide : (4 : Int) ≤ (4 : Int32).toInt ∧ (4 : Int32).toInt ≤ 4) (by decide) (by decide))), lv_sub hl [0, 1, 2] rfl⟩ (show (4 - (4 : Int32).toInt).toNat < (4 - (3 : Int32).toInt).toNat by decide)
      ·
        refine lv_if_eq (tgt := 28) hx hb dX9_standingSlots_22 (by decide) (fun c_1104 => ?_) (fun c_1104 => ?_)
        ·
          have n_c_1104 : (r_1103.toInt : Int) = 0 := c_eq rfl (by decide) c_1104
          have b_r_1103 : (0 : Int) ≤ r_1103.toInt ∧ r_1103.toInt ≤ 0 := r_eq1 b_r_1103 (by decide : (0 : Int) ≤ (0 : Int32).toInt ∧ (0 : Int32).toInt ≤ 0) n_c_1104 (by decide)
          exact hj_28_1107 y_566 _ (lv_sub hl [0, 1, 2] rfl)
        ·
          have n_c_1104 : (r_1103.toInt : Int) ≠ 0 := c_ne rfl (by decide) c_1104
          have b_r_1103 : (1 : Int) ≤ r_1103.toInt ∧ r_1103.toInt ≤ 1 := r_ne1 b_r_1103 (by decide : (0 : Int) ≤ (0 : Int32).toInt ∧ (0 : Int32).toInt ≤ 0) n_c_1104 (by decide)
          obtain ⟨b_wd3, g_1109⟩ := nz_r_1103 c_1104
          obtain ⟨z_1110, e_z_1110⟩ : ∃ y : Int32, y = y_566 + 1 := ⟨_, rfl⟩
          refine lv_iinc (v := z_1110) (lv' := [(1, .int z_1110), (2, .int 3), (0, .ref h0)]) hx hb dX9_standingSlots_25 hl (k := 1) rfl (by rw [e_z_1110]; rfl) (by decide) rfl (fun ls hl => ?_)
          exact hj_28_1107 z_1110 _ (lv_sub hl [1, 0, 2] rfl)
