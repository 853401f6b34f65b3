theorem dX9_count_0 : decode cX9_count 0 = .ok (.iload_n 1, 1) := by decide +kernel
theorem dX9_count_1 : decode cX9_count 1 = .ok (.tableswitch 108 0 7 #[47, 55, 63, 71, 79, 87, 95, 103], 47) := by decide +kernel
theorem dX9_count_48 : decode cX9_count 48 = .ok (.aload_n 0, 1) := by decide +kernel
theorem dX9_count_49 : decode cX9_count 49 = .ok (.getfield 35, 3) := by decide +kernel
theorem dX9_count_52 : decode cX9_count 52 = .ok (.getfield 110, 3) := by decide +kernel
theorem dX9_count_55 : decode cX9_count 55 = .ok (.ireturn, 1) := by decide +kernel
theorem dX9_count_56 : decode cX9_count 56 = .ok (.aload_n 0, 1) := by decide +kernel
theorem dX9_count_57 : decode cX9_count 57 = .ok (.getfield 35, 3) := by decide +kernel
theorem dX9_count_60 : decode cX9_count 60 = .ok (.getfield 220, 3) := by decide +kernel
theorem dX9_count_63 : decode cX9_count 63 = .ok (.ireturn, 1) := by decide +kernel
theorem dX9_count_64 : decode cX9_count 64 = .ok (.aload_n 0, 1) := by decide +kernel
theorem dX9_count_65 : decode cX9_count 65 = .ok (.getfield 35, 3) := by decide +kernel
theorem dX9_count_68 : decode cX9_count 68 = .ok (.getfield 155, 3) := by decide +kernel
theorem dX9_count_71 : decode cX9_count 71 = .ok (.ireturn, 1) := by decide +kernel
theorem dX9_count_72 : decode cX9_count 72 = .ok (.aload_n 0, 1) := by decide +kernel
theorem dX9_count_73 : decode cX9_count 73 = .ok (.getfield 35, 3) := by decide +kernel
theorem dX9_count_76 : decode cX9_count 76 = .ok (.getfield 327, 3) := by decide +kernel
theorem dX9_count_79 : decode cX9_count 79 = .ok (.ireturn, 1) := by decide +kernel
theorem dX9_count_80 : decode cX9_count 80 = .ok (.aload_n 0, 1) := by decide +kernel
theorem dX9_count_81 : decode cX9_count 81 = .ok (.getfield 35, 3) := by decide +kernel
theorem dX9_count_84 : decode cX9_count 84 = .ok (.getfield 94, 3) := by decide +kernel
theorem dX9_count_87 : decode cX9_count 87 = .ok (.ireturn, 1) := by decide +kernel
theorem dX9_count_88 : decode cX9_count 88 = .ok (.aload_n 0, 1) := by decide +kernel
theorem dX9_count_89 : decode cX9_count 89 = .ok (.getfield 10, 3) := by decide +kernel
theorem dX9_count_92 : decode cX9_count 92 = .ok (.getfield 80, 3) := by decide +kernel
theorem dX9_count_95 : decode cX9_count 95 = .ok (.ireturn, 1) := by decide +kernel
theorem dX9_count_96 : decode cX9_count 96 = .ok (.aload_n 0, 1) := by decide +kernel
theorem dX9_count_97 : decode cX9_count 97 = .ok (.getfield 35, 3) := by decide +kernel
theorem dX9_count_100 : decode cX9_count 100 = .ok (.invokevirtual 330, 3) := by decide +kernel
theorem dX9_count_103 : decode cX9_count 103 = .ok (.ireturn, 1) := by decide +kernel
theorem dX9_count_104 : decode cX9_count 104 = .ok (.aload_n 0, 1) := by decide +kernel
theorem dX9_count_105 : decode cX9_count 105 = .ok (.invokevirtual 334, 3) := by decide +kernel
theorem dX9_count_108 : decode cX9_count 108 = .ok (.ireturn, 1) := by decide +kernel
theorem dX9_count_109 : decode cX9_count 109 = .ok (.iconst (-1), 1) := by decide +kernel
theorem dX9_count_110 : decode cX9_count 110 = .ok (.ireturn, 1) := by decide +kernel
theorem hd_yX9_count : yX9_count.cls = RX9 ∧ yX9_count.cls ≠ "java/lang/invoke/MethodHandle" ∧ yX9_count.cls ≠ "java/lang/invoke/VarHandle" ∧ (parseMethodDescriptor yX9_count.desc).map (fun d => d.parameters.length) = some 1 := by decide +kernel
def uX9_count : List Cond := List.cons (.code yX9_count cX9_count 2 (some .int)) (HAppend.hAppend ([.fieldLink RX9 35 "LuckyTicket" "current" "LLuckyTicket$Roll;", .fieldLink RX9 10 "LuckyTicket" "tape" "LLuckyTicket$Tape;", .methodLink RX9 330 yX2_totalByAny, .instanceMethod yX2_totalByAny, .selects RX2 yX2_totalByAny yX2_totalByAny, .initialized RX2, .methodLink RX9 334 yX9_standingSlots, .instanceMethod yX9_standingSlots, .selects RX9 yX9_standingSlots yX9_standingSlots, .initialized RX9] : List Cond) (HAppend.hAppend uX2_totalByAny (HAppend.hAppend uX9_standingSlots (HAppend.hAppend wsX90 (HAppend.hAppend wsX20 wsX70)))))
theorem iX9_count_X9 : ∀ w ∈ wsX90, w ∈ uX9_count := fun _ h => (List.mem_cons_of_mem _ (List.mem_append_right _ (List.mem_append_right _ (List.mem_append_right _ (List.mem_append_left _ h)))))
theorem iX9_count_X2 : ∀ w ∈ wsX20, w ∈ uX9_count := fun _ h => (List.mem_cons_of_mem _ (List.mem_append_right _ (List.mem_append_right _ (List.mem_append_right _ (List.mem_append_right _ (List.mem_append_left _ h))))))
theorem iX9_count_X7 : ∀ w ∈ wsX70, w ∈ uX9_count := fun _ h => (List.mem_cons_of_mem _ (List.mem_append_right _ (List.mem_append_right _ (List.mem_append_right _ (List.mem_append_right _ (List.mem_append_right _ h))))))
theorem guX9_count : GU uX9_count := gu_cons (gu_app (by decide +kernel) (gu_ap guX2_totalByAny (gu_ap guX9_standingSlots (gu_ap gws_X9 (gu_ap gws_X2 gws_X7)))))
theorem gX9_count__X2_totalByAny_V330 : GoodIn uX9_count (wsV RX9 330 RX2 yX2_totalByAny uX2_totalByAny) := gin_V (List.mem_of_getElem? (i := 3) rfl) (List.mem_of_getElem? (i := 4) rfl) (List.mem_of_getElem? (i := 5) rfl) (List.mem_of_getElem? (i := 6) rfl) (fun _ h => (List.mem_cons_of_mem _ (List.mem_append_right _ (List.mem_append_left _ h)))) guX2_totalByAny
theorem gX9_count__X9_standingSlots_V334 : GoodIn uX9_count (wsV RX9 334 RX9 yX9_standingSlots uX9_standingSlots) := gin_V (List.mem_of_getElem? (i := 7) rfl) (List.mem_of_getElem? (i := 8) rfl) (List.mem_of_getElem? (i := 9) rfl) (List.mem_of_getElem? (i := 10) rfl) (fun _ h => (List.mem_cons_of_mem _ (List.mem_append_right _ (List.mem_append_right _ (List.mem_append_left _ h))))) guX9_standingSlots
set_option maxHeartbeats 4000000 in
set_option maxRecDepth 100000 in
theorem kX9_count (l : Launch) (dC : Nat → ClassId) (dI : Nat → Nat → Nat) (h0 : Nat) (sc : Nat) (rd : Nat) (cu : Nat) (im : Nat) (ig : Nat) (sl : Nat) (se : Nat) (sm : Nat) (fc : Nat) (tp : Nat) (tb : Nat) (ts : Int32) (ln : Int32) (bs : Int32) (tk : Int32) (lw : Int32) (li : Int32) (fa : Nat) (lu : Nat) (cS : ClassId) (s0 : Nat) (s1 : Nat) (s2 : Nat) (s3 : Nat) (n0 : Nat) (n1 : Nat) (n2 : Nat) (n3 : Nat) (wd0 : Int32) (wd1 : Int32) (wd2 : Int32) (wd3 : Int32) (rz0 : Int32) (rz1 : Int32) (rz2 : Int32) (rz3 : Int32) (cJ0 : ClassId) (cJ1 : ClassId) (cJ2 : ClassId) (cJ3 : ClassId) (g0 : Nat → Int64) (g1 : Nat → Int64) (g2 : Nat → Int64) (g3 : Nat → Int64) (cL : ClassId) (nl : Nat) (fl : Nat → Int32) (a1 : Int32) (b_ln : (0 : Int) ≤ ln.toInt ∧ ln.toInt ≤ 12) (b_bs : (0 : Int) ≤ bs.toInt ∧ bs.toInt ≤ 16) (b_tk : (0 : Int) ≤ tk.toInt ∧ tk.toInt ≤ 20000) (b_lw : (0 : Int) ≤ lw.toInt ∧ lw.toInt ≤ 9) (b_wd0 : (-1 : Int) ≤ wd0.toInt ∧ wd0.toInt ≤ 3) (b_wd1 : (-1 : Int) ≤ wd1.toInt ∧ wd1.toInt ≤ 3) (b_wd2 : (-1 : Int) ≤ wd2.toInt ∧ wd2.toInt ≤ 3) (b_wd3 : (-1 : Int) ≤ wd3.toInt ∧ wd3.toInt ≤ 3) (b_rz0 : (0 : Int) ≤ rz0.toInt ∧ rz0.toInt ≤ 60) (b_rz1 : (0 : Int) ≤ rz1.toInt ∧ rz1.toInt ≤ 60) (b_rz2 : (0 : Int) ≤ rz2.toInt ∧ rz2.toInt ≤ 60) (b_rz3 : (0 : Int) ≤ rz3.toInt ∧ rz3.toInt ≤ 60) (b_ts : (0 : Int) ≤ ts.toInt ∧ ts.toInt ≤ 1200) (hl1 : tk.toInt ≤ (nl : Int)) : Met l yX9_count uX9_count ({ frames := 3, cells := 0, slots := 0, locals := 64 }) (va_Pc [.ref h0, .int a1] (pw (dC, dI) vwCl [(h0, .inr (7, [.ref tp, .ref sc, .ref rd, .ref cu, .ref im, .ref ig, .ref sl, .ref se, .ref sm, .ref fc])), (tp, .inr (6, [.ref tb, .int ts])), (cu, .inr (1, [.int ln, .int bs, .int tk, .int lw, .int li, .ref fa, .ref lu])), (sl, .inl (cS, 4, .inr (.inr (.inr (.inr (sf4 s0 s1 s2 s3)))))), (s0, .inr (2, [.int wd0, .int rz0, .ref n0])), (s1, .inr (2, [.int wd1, .int rz1, .ref n1])), (s2, .inr (2, [.int wd2, .int rz2, .ref n2])), (s3, .inr (2, [.int wd3, .int rz3, .ref n3])), (n0, .inl (cJ0, 60, .inr (.inl g0))), (n1, .inl (cJ1, 60, .inr (.inl g1))), (n2, .inl (cJ2, 60, .inr (.inl g2))), (n3, .inl (cJ3, 60, .inr (.inl g3))), (lu, .inl (cL, nl, .inl fl))] [(cS, .object RX3), (cJ0, .long), (cJ1, .long), (cJ2, .long), (cJ3, .long), (cL, .int)])) (vp_Si (fun r => True)) 0 0 (fun _ => False) := by
  refine Met.ofW (cc := cX9_count) (maxL := 2) (ret := (some .int)) pn_X9 rfl ?_
  intro p e s m args below meth c s₁ B hml hv
  obtain ⟨rfl, hP, hK, hN⟩ := hv
  have hx := B.exec
  have hb := B.bytes
  have hr := B.returns
  have hts := atoms_spec (ws := uX9_count) B.pre
  have hown : s.vm.findClass RX9 = some m.cls := hown_of B.named rfl
  have hlocks := B.notSynchronized
  have hl := lv_entry ([.ref h0, .int a1]) (n := 2) (Nat.le_of_ble_eq_true rfl)
  rw [lg_entry_eq]
  generalize (lg_sl ([.ref h0, .int a1]) ++ List.replicate (2 - (lg_sl ([.ref h0, .int a1])).length) Slot.unset).toArray = ls at hl ⊢
  have hl : lv_has ls 2 [(0, .ref h0), (1, .int a1)] := hl
  refine lv_iload_n hx hb dX9_count_0 rfl (lv_at hl 1 rfl) ?_
  rcases (show (a1.toInt < 0 ∨ 7 < a1.toInt) ∨ a1.toInt = 0 ∨ a1.toInt = 1 ∨ a1.toInt = 2 ∨ a1.toInt = 3 ∨ a1.toInt = 4 ∨ a1.toInt = 5 ∨ a1.toInt = 6 ∨ a1.toInt = 7 by omega) with c_4 | c_4 | c_4 | c_4 | c_4 | c_4 | c_4 | c_4 | c_4
  ·
    refine lv_tableOut (tgt := 109) hx hb dX9_count_1 c_4 (by decide) ?_
    refine lv_iconst (v := (-1)) hx hb dX9_count_109 (by decide) ?_
    exact W.iret (v := (-1)) hx hb hr (fun t ht hW => ⟨(-1), rfl, trivial, ht⟩) t_nil dX9_count_110
  ·
    refine lv_tableIn (off := 47) (tgt := 48) hx hb dX9_count_1 (by omega) (by omega) (by rw [c_4]; rfl) (by decide) ?_
    have b_a1 : (0 : Int) ≤ a1.toInt ∧ a1.toInt ≤ 0 := ⟨by omega, by omega⟩
    refine lv_aload_n hx hb dX9_count_48 rfl (lv_at hl 0 rfl) ?_
    refine va_get (D := (dC, dI)) (ci := 7) (v := .ref cu) (C := RX9) (T := TX9) (N := 10) hx hb hts iX9_count_X9 hown hK hP 0 rfl rfl 3 (by decide) (hts (.fieldLink RX9 35 "LuckyTicket" "current" "LLuckyTicket$Roll;") (List.mem_of_getElem? (i := 1) rfl)) (fun _ h9 => h9) rfl dX9_count_49 ?_
    refine va_getN (own := RX9) (index := 110) (ref := RX2) (host := RX9) (D := (dC, dI)) (ci := 1) (v := .int ln) (C := RX2) (T := TX2) (N := 7) hx hb hts iX9_count_X2 hown hK hP 2 rfl rfl 0 (by decide) (va_Nw.use rfl (hN _ (List.mem_of_getElem? (i := 14) rfl))) (fun _ h9 => h9) rfl dX9_count_52 ?_
    exact W.iret (v := ln) hx hb hr (fun t ht hW => ⟨ln, rfl, trivial, ht⟩) t_nil dX9_count_55
  ·
    refine lv_tableIn (off := 55) (tgt := 56) hx hb dX9_count_1 (by omega) (by omega) (by rw [c_4]; rfl) (by decide) ?_
    have b_a1 : (1 : Int) ≤ a1.toInt ∧ a1.toInt ≤ 1 := ⟨by omega, by omega⟩
    refine lv_aload_n hx hb dX9_count_56 rfl (lv_at hl 0 rfl) ?_
    refine va_get (D := (dC, dI)) (ci := 7) (v := .ref cu) (C := RX9) (T := TX9) (N := 10) hx hb hts iX9_count_X9 hown hK hP 0 rfl rfl 3 (by decide) (hts (.fieldLink RX9 35 "LuckyTicket" "current" "LLuckyTicket$Roll;") (List.mem_of_getElem? (i := 1) rfl)) (fun _ h9 => h9) rfl dX9_count_57 ?_
    refine va_getN (own := RX9) (index := 220) (ref := RX2) (host := RX9) (D := (dC, dI)) (ci := 1) (v := .int bs) (C := RX2) (T := TX2) (N := 7) hx hb hts iX9_count_X2 hown hK hP 2 rfl rfl 1 (by decide) (va_Nw.use rfl (hN _ (List.mem_of_getElem? (i := 16) rfl))) (fun _ h9 => h9) rfl dX9_count_60 ?_
    exact W.iret (v := bs) hx hb hr (fun t ht hW => ⟨bs, rfl, trivial, ht⟩) t_nil dX9_count_63
  ·
    refine lv_tableIn (off := 63) (tgt := 64) hx hb dX9_count_1 (by omega) (by omega) (by rw [c_4]; rfl) (by decide) ?_
    have b_a1 : (2 : Int) ≤ a1.toInt ∧ a1.toInt ≤ 2 := ⟨by omega, by omega⟩
    refine lv_aload_n hx hb dX9_count_64 rfl (lv_at hl 0 rfl) ?_
    refine va_get (D := (dC, dI)) (ci := 7) (v := .ref cu) (C := RX9) (T := TX9) (N := 10) hx hb hts iX9_count_X9 hown hK hP 0 rfl rfl 3 (by decide) (hts (.fieldLink RX9 35 "LuckyTicket" "current" "LLuckyTicket$Roll;") (List.mem_of_getElem? (i := 1) rfl)) (fun _ h9 => h9) rfl dX9_count_65 ?_
    refine va_getN (own := RX9) (index := 155) (ref := RX2) (host := RX9) (D := (dC, dI)) (ci := 1) (v := .int tk) (C := RX2) (T := TX2) (N := 7) hx hb hts iX9_count_X2 hown hK hP 2 rfl rfl 2 (by decide) (va_Nw.use rfl (hN _ (List.mem_of_getElem? (i := 18) rfl))) (fun _ h9 => h9) rfl dX9_count_68 ?_
    exact W.iret (v := tk) hx hb hr (fun t ht hW => ⟨tk, rfl, trivial, ht⟩) t_nil dX9_count_71
  ·
    refine lv_tableIn (off := 71) (tgt := 72) hx hb dX9_count_1 (by omega) (by omega) (by rw [c_4]; rfl) (by decide) ?_
    have b_a1 : (3 : Int) ≤ a1.toInt ∧ a1.toInt ≤ 3 := ⟨by omega, by omega⟩
    refine lv_aload_n hx hb dX9_count_72 rfl (lv_at hl 0 rfl) ?_
    refine va_get (D := (dC, dI)) (ci := 7) (v := .ref cu) (C := RX9) (T := TX9) (N := 10) hx hb hts iX9_count_X9 hown hK hP 0 rfl rfl 3 (by decide) (hts (.fieldLink RX9 35 "LuckyTicket" "current" "LLuckyTicket$Roll;") (List.mem_of_getElem? (i := 1) rfl)) (fun _ h9 => h9) rfl dX9_count_73 ?_
    refine va_getN (own := RX9) (index := 327) (ref := RX2) (host := RX9) (D := (dC, dI)) (ci := 1) (v := .int lw) (C := RX2) (T := TX2) (N := 7) hx hb hts iX9_count_X2 hown hK hP 2 rfl rfl 3 (by decide) (va_Nw.use rfl (hN _ (List.mem_of_getElem? (i := 19) rfl))) (fun _ h9 => h9) rfl dX9_count_76 ?_
    exact W.iret (v := lw) hx hb hr (fun t ht hW => ⟨lw, rfl, trivial, ht⟩) t_nil dX9_count_79
  ·
    refine lv_tableIn (off := 79) (tgt := 80) hx hb dX9_count_1 (by omega) (by omega) (by rw [c_4]; rfl) (by decide) ?_
    have b_a1 : (4 : Int) ≤ a1.toInt ∧ a1.toInt ≤ 4 := ⟨by omega, by omega⟩
    refine lv_aload_n hx hb dX9_count_80 rfl (lv_at hl 0 rfl) ?_
    refine va_get (D := (dC, dI)) (ci := 7) (v := .ref cu) (C := RX9) (T := TX9) (N := 10) hx hb hts iX9_count_X9 hown hK hP 0 rfl rfl 3 (by decide) (hts (.fieldLink RX9 35 "LuckyTicket" "current" "LLuckyTicket$Roll;") (List.mem_of_getElem? (i := 1) rfl)) (fun _ h9 => h9) rfl dX9_count_81 ?_
    refine va_getN (own := RX9) (index := 94) (ref := RX2) (host := RX9) (D := (dC, dI)) (ci := 1) (v := .int li) (C := RX2) (T := TX2) (N := 7) hx hb hts iX9_count_X2 hown hK hP 2 rfl rfl 4 (by decide) (va_Nw.use rfl (hN _ (List.mem_of_getElem? (i := 20) rfl))) (fun _ h9 => h9) rfl dX9_count_84 ?_
    exact W.iret (v := li) hx hb hr (fun t ht hW => ⟨li, rfl, trivial, ht⟩) t_nil dX9_count_87
  ·
    refine lv_tableIn (off := 87) (tgt := 88) hx hb dX9_count_1 (by omega) (by omega) (by rw [c_4]; rfl) (by decide) ?_
    have b_a1 : (5 : Int) ≤ a1.toInt ∧ a1.toInt ≤ 5 := ⟨by omega, by omega⟩
    refine lv_aload_n hx hb dX9_count_88 rfl (lv_at hl 0 rfl) ?_
    refine va_get (D := (dC, dI)) (ci := 7) (v := .ref tp) (C := RX9) (T := TX9) (N := 10) hx hb hts iX9_count_X9 hown hK hP 0 rfl rfl 0 (by decide) (hts (.fieldLink RX9 10 "LuckyTicket" "tape" "LLuckyTicket$Tape;") (List.mem_of_getElem? (i := 2) rfl)) (fun _ h9 => h9) rfl dX9_count_89 ?_
    refine va_getN (own := RX9) (index := 80) (ref := RX7) (host := RX9) (D := (dC, dI)) (ci := 6) (v := .int ts) (C := RX7) (T := TX7) (N := 2) hx hb hts iX9_count_X7 hown hK hP 1 rfl rfl 1 (by decide) (va_Nw.use rfl (hN _ (List.mem_of_getElem? (i := 1) rfl))) (fun _ h9 => h9) rfl dX9_count_92 ?_
    exact W.iret (v := ts) hx hb hr (fun t ht hW => ⟨ts, rfl, trivial, ht⟩) t_nil dX9_count_95
  ·
    refine lv_tableIn (off := 95) (tgt := 96) hx hb dX9_count_1 (by omega) (by omega) (by rw [c_4]; rfl) (by decide) ?_
    have b_a1 : (6 : Int) ≤ a1.toInt ∧ a1.toInt ≤ 6 := ⟨by omega, by omega⟩
    refine lv_aload_n hx hb dX9_count_96 rfl (lv_at hl 0 rfl) ?_
    refine va_get (D := (dC, dI)) (ci := 7) (v := .ref cu) (C := RX9) (T := TX9) (N := 10) hx hb hts iX9_count_X9 hown hK hP 0 rfl rfl 3 (by decide) (hts (.fieldLink RX9 35 "LuckyTicket" "current" "LLuckyTicket$Roll;") (List.mem_of_getElem? (i := 1) rfl)) (fun _ h9 => h9) rfl dX9_count_97 ?_
    refine vp_callSi (W.runV (As := []) (rest := []) ⟨hx, hb, hml, hown, hts⟩ (kX2_totalByAny l dC dI cu ln bs tk lw li fa lu cL nl fl b_ln b_bs b_tk b_lw (by omega)) (cwV 0 hts gX9_count__X2_totalByAny_V330 rfl rfl rfl hd_yX2_totalByAny ⟨lel 3 3 rfl, lel 64 64 rfl⟩) ⟨pw_fb, rcv_X2 hK hP (q0 := 2) rfl, (pw_use hP hK hN [2, 12] rfl [5] rfl)⟩ rfl rfl hl.1 rfl (lv_room (Nat.le_of_ble_eq_true rfl)) dX9_count_100 ⟨lel 0 0 rfl, lel 0 0 rfl⟩) (fun r_5 h_r_5 => ?_)
    exact W.iret (v := r_5) hx hb hr (fun t ht hW => ⟨r_5, rfl, trivial, ht⟩) t_nil dX9_count_103
  ·
    refine lv_tableIn (off := 103) (tgt := 104) hx hb dX9_count_1 (by omega) (by omega) (by rw [c_4]; rfl) (by decide) ?_
    have b_a1 : (7 : Int) ≤ a1.toInt ∧ a1.toInt ≤ 7 := ⟨by omega, by omega⟩
    refine lv_aload_n hx hb dX9_count_104 rfl (lv_at hl 0 rfl) ?_
    refine vp_callSi (W.runV (As := []) (rest := []) ⟨hx, hb, hml, hown, hts⟩ (kX9_standingSlots l dC dI h0 tp sc rd cu im ig sl se sm fc ln bs tk lw li fa lu cS s0 s1 s2 s3 n0 n1 n2 n3 wd0 wd1 wd2 wd3 rz0 rz1 rz2 rz3 cJ0 cJ1 cJ2 cJ3 g0 g1 g2 g3 b_ln b_bs b_tk b_lw b_wd0 b_wd1 b_wd2 b_wd3 b_rz0 b_rz1 b_rz2 b_rz3) (cwV 0 hts gX9_count__X9_standingSlots_V334 rfl rfl rfl hd_yX9_standingSlots ⟨lel 2 3 rfl, lel 42 64 rfl⟩) ⟨pw_fb, rcv_X9 hK hP (q0 := 0) rfl, (pw_use hP hK hN [0, 2, 3, 4, 5, 6, 7, 8, 9, 10, 11] rfl [0, 1, 2, 3, 4] rfl)⟩ rfl rfl hl.1 rfl (lv_room (Nat.le_of_ble_eq_true rfl)) dX9_count_105 ⟨lel 0 0 rfl, lel 0 0 rfl⟩) (fun r_6 h_r_6 => ?_)
    exact W.iret (v := r_6) hx hb hr (fun t ht hW => ⟨r_6, rfl, trivial, ht⟩) t_nil dX9_count_108
theorem dX5_changesTo_0 : decode cX5_changesTo 0 = .ok (.iload_n 1, 1) := by decide +kernel
theorem dX5_changesTo_1 : decode cX5_changesTo 1 = .ok (.ifCond .lt 23, 3) := by decide +kernel
theorem dX5_changesTo_4 : decode cX5_changesTo 4 = .ok (.iload_n 1, 1) := by decide +kernel
theorem dX5_changesTo_5 : decode cX5_changesTo 5 = .ok (.aload_n 0, 1) := by decide +kernel
theorem dX5_changesTo_6 : decode cX5_changesTo 6 = .ok (.getfield 15, 3) := by decide +kernel
theorem dX5_changesTo_9 : decode cX5_changesTo 9 = .ok (.arraylength, 1) := by decide +kernel
theorem dX5_changesTo_10 : decode cX5_changesTo 10 = .ok (.if_icmp .ge 14, 3) := by decide +kernel
theorem dX5_changesTo_13 : decode cX5_changesTo 13 = .ok (.aload_n 0, 1) := by decide +kernel
theorem dX5_changesTo_14 : decode cX5_changesTo 14 = .ok (.getfield 15, 3) := by decide +kernel
theorem dX5_changesTo_17 : decode cX5_changesTo 17 = .ok (.iload_n 1, 1) := by decide +kernel
theorem dX5_changesTo_18 : decode cX5_changesTo 18 = .ok (.iaload, 1) := by decide +kernel
theorem dX5_changesTo_19 : decode cX5_changesTo 19 = .ok (.iconst 1, 1) := by decide +kernel
theorem dX5_changesTo_20 : decode cX5_changesTo 20 = .ok (.isub, 1) := by decide +kernel
theorem dX5_changesTo_21 : decode cX5_changesTo 21 = .ok (.goto 4, 3) := by decide +kernel
theorem dX5_changesTo_24 : decode cX5_changesTo 24 = .ok (.iconst (-1), 1) := by decide +kernel
theorem dX5_changesTo_25 : decode cX5_changesTo 25 = .ok (.ireturn, 1) := by decide +kernel
theorem hd_yX5_changesTo : yX5_changesTo.cls = RX5 ∧ yX5_changesTo.cls ≠ "java/lang/invoke/MethodHandle" ∧ yX5_changesTo.cls ≠ "java/lang/invoke/VarHandle" ∧ (parseMethodDescriptor yX5_changesTo.desc).map (fun d => d.parameters.length) = some 1 := by decide +kernel
def uX5_changesTo : List Cond := List.cons (.code yX5_changesTo cX5_changesTo 2 (some .int)) (HAppend.hAppend ([.fieldLink RX5 15 "LuckyTicket$Search" "far" "[I"] : List Cond) wsX50)
theorem iX5_changesTo_X5 : ∀ w ∈ wsX50, w ∈ uX5_changesTo := fun _ h => (List.mem_cons_of_mem _ (List.mem_append_right _ h))
theorem guX5_changesTo : GU uX5_changesTo := gu_cons (gu_app (by decide +kernel) gws_X5)
set_option maxHeartbeats 4000000 in
set_option maxRecDepth 100000 in
theorem kX5_changesTo (l : Launch) (dC : Nat → ClassId) (dI : Nat → Nat → Nat) (se : Nat) (qa : Nat) (qf : Nat) (qg : Nat) (cQ : ClassId) (nq : Nat) (fq : Nat → Int32) (cR : ClassId) (nr : Nat) (fr : Nat → Int32) (cH : ClassId) (ng : Nat) (fh : Nat → Int32) (a1 : Int32) (hq1 : nq ≤ 20000) (hq2 : nr ≤ 20000) (hq3 : ng ≤ 200000) : Met l yX5_changesTo uX5_changesTo ({ frames := 0, cells := 0, slots := 0, locals := 0 }) (va_Pc [.ref se, .int a1] (pw (dC, dI) vwCl [(se, .inr (4, [.ref qa, .ref qf, .ref qg])), (qa, .inl (cQ, nq, .inl fq)), (qf, .inl (cR, nr, .inl fr)), (qg, .inl (cH, ng, .inl fh))] [(cQ, .int), (cR, .int), (cH, .byte)])) (vp_Si (fun r => True)) 0 0 (fun _ => False) := by
  refine Met.ofW (cc := cX5_changesTo) (maxL := 2) (ret := (some .int)) pn_X5 rfl ?_
  intro p e s m args below meth c s₁ B hml hv
  obtain ⟨rfl, hP, hK, hN⟩ := hv
  have hx := B.exec
  have hb := B.bytes
  have hr := B.returns
  have hts := atoms_spec (ws := uX5_changesTo) B.pre
  have hown : s.vm.findClass RX5 = some m.cls := hown_of B.named rfl
  have hlocks := B.notSynchronized
  have hl := lv_entry ([.ref se, .int a1]) (n := 2) (Nat.le_of_ble_eq_true rfl)
  rw [lg_entry_eq]
  generalize (lg_sl ([.ref se, .int a1]) ++ List.replicate (2 - (lg_sl ([.ref se, .int a1])).length) Slot.unset).toArray = ls at hl ⊢
  have hl : lv_has ls 2 [(0, .ref se), (1, .int a1)] := hl
  refine lv_iload_n hx hb dX5_changesTo_0 rfl (lv_at hl 1 rfl) ?_
  refine lv_if_lt (tgt := 24) hx hb dX5_changesTo_1 (by decide) (fun c_6 => ?_) (fun c_6 => ?_)
  ·
    have n_c_6 : (a1.toInt : Int) < 0 := c_lt rfl (by decide) c_6
    have b_a1 : (-2147483648 : Int) ≤ a1.toInt ∧ a1.toInt ≤ -1 := r_lt1 (ti_rng a1) (by decide : (0 : Int) ≤ (0 : Int32).toInt ∧ (0 : Int32).toInt ≤ 0) n_c_6 (by decide)
    refine lv_iconst (v := (-1)) hx hb dX5_changesTo_24 (by decide) ?_
    exact W.iret (v := (-1)) hx hb hr (fun t ht hW => ⟨(-1), rfl, trivial, ht⟩) t_nil dX5_changesTo_25
  ·
    have n_c_6 : (0 : Int) ≤ a1.toInt := c_nlt rfl (by decide) c_6
    have b_a1 : (0 : Int) ≤ a1.toInt ∧ a1.toInt ≤ 2147483647 := r_le2 (by decide : (0 : Int) ≤ (0 : Int32).toInt ∧ (0 : Int32).toInt ≤ 0) (ti_rng a1) n_c_6 (by decide)
    refine lv_iload_n hx hb dX5_changesTo_4 rfl (lv_at hl 1 rfl) ?_
    refine lv_aload_n hx hb dX5_changesTo_5 rfl (lv_at hl 0 rfl) ?_
    refine va_get (D := (dC, dI)) (ci := 4) (v := .ref qf) (C := RX5) (T := TX5) (N := 3) hx hb hts iX5_changesTo_X5 hown hK hP 0 rfl rfl 1 (by decide) (hts (.fieldLink RX5 15 "LuckyTicket$Search" "far" "[I") (List.mem_of_getElem? (i := 1) rfl)) (fun _ h9 => h9) rfl dX5_changesTo_6 ?_
    obtain ⟨z_7, e_z_7⟩ : ∃ y : Int32, y = Int32.ofNat nr := ⟨_, rfl⟩
    refine va_alen (v := z_7) hx hb hK hP 2 1 rfl rfl e_z_7.symm dX5_changesTo_9 ?_
    obtain ⟨q_z_7, b_z_7⟩ := ti_len (hi := 20000) e_z_7 (by omega) (by decide)
    refine lv_icmp_ge (tgt := 24) hx hb dX5_changesTo_10 (by decide) (fun c_8 => ?_) (fun c_8 => ?_)
    ·
      have n_c_8 : (z_7.toInt : Int) ≤ a1.toInt := c_ge rfl rfl c_8
      refine lv_iconst (v := (-1)) hx hb dX5_changesTo_24 (by decide) ?_
      exact W.iret (v := (-1)) hx hb hr (fun t ht hW => ⟨(-1), rfl, trivial, ht⟩) t_nil dX5_changesTo_25
    ·
      have n_c_8 : (a1.toInt : Int) < z_7.toInt := c_nge rfl rfl c_8
      have b_a1 : (0 : Int) ≤ a1.toInt ∧ a1.toInt ≤ 19999 := r_lt1 b_a1 b_z_7 n_c_8 (by decide)
      have b_z_7 : (1 : Int) ≤ z_7.toInt ∧ z_7.toInt ≤ 20000 := r_lt2 b_a1 b_z_7 n_c_8 (by decide)
      refine lv_aload_n hx hb dX5_changesTo_13 rfl (lv_at hl 0 rfl) ?_
      refine va_get (D := (dC, dI)) (ci := 4) (v := .ref qf) (C := RX5) (T := TX5) (N := 3) hx hb hts iX5_changesTo_X5 hown hK hP 0 rfl rfl 1 (by decide) (hts (.fieldLink RX5 15 "LuckyTicket$Search" "far" "[I") (List.mem_of_getElem? (i := 1) rfl)) (fun _ h9 => h9) rfl dX5_changesTo_14 ?_
      refine lv_iload_n hx hb dX5_changesTo_17 rfl (lv_at hl 1 rfl) ?_
      refine va_iald hx hb hK hP 2 1 rfl rfl (vp_in_iff.mpr ⟨by omega, by omega⟩) dX5_changesTo_18 ?_
      refine lv_topi (fun z_9 e_z_9 => ?_)
      refine lv_iconst (v := 1) hx hb dX5_changesTo_19 (by decide) ?_
      refine lv_isub hx hb dX5_changesTo_20 ?_
      refine lv_topi (fun z_10 e_z_10 => ?_)
      refine lv_goto (tgt := 25) hx hb dX5_changesTo_21 (by decide) ?_
      exact W.iret (v := z_10) hx hb hr (fun t ht hW => ⟨z_10, rfl, trivial, ht⟩) t_nil dX5_changesTo_25
theorem dX5_isReached_0 : decode cX5_isReached 0 = .ok (.aload_n 0, 1) := by decide +kernel
theorem dX5_isReached_1 : decode cX5_isReached 1 = .ok (.iload_n 1, 1) := by decide +kernel
theorem dX5_isReached_2 : decode cX5_isReached 2 = .ok (.invokevirtual 44, 3) := by decide +kernel
theorem dX5_isReached_5 : decode cX5_isReached 5 = .ok (.iconst (-1), 1) := by decide +kernel
theorem dX5_isReached_6 : decode cX5_isReached 6 = .ok (.if_icmp .eq 7, 3) := by decide +kernel
theorem dX5_isReached_9 : decode cX5_isReached 9 = .ok (.iconst 1, 1) := by decide +kernel
theorem dX5_isReached_10 : decode cX5_isReached 10 = .ok (.goto 4, 3) := by decide +kernel
theorem dX5_isReached_13 : decode cX5_isReached 13 = .ok (.iconst 0, 1) := by decide +kernel
theorem dX5_isReached_14 : decode cX5_isReached 14 = .ok (.ireturn, 1) := by decide +kernel
theorem hd_yX5_isReached : yX5_isReached.cls = RX5 ∧ yX5_isReached.cls ≠ "java/lang/invoke/MethodHandle" ∧ yX5_isReached.cls ≠ "java/lang/invoke/VarHandle" ∧ (parseMethodDescriptor yX5_isReached.desc).map (fun d => d.parameters.length) = some 1 := by decide +kernel
def uX5_isReached : List Cond := List.cons (.code yX5_isReached cX5_isReached 2 (some .boolean)) (HAppend.hAppend ([.methodLink RX5 44 yX5_changesTo, .instanceMethod yX5_changesTo, .selects RX5 yX5_changesTo yX5_changesTo, .initialized RX5] : List Cond) uX5_changesTo)
theorem guX5_isReached : GU uX5_isReached := gu_cons (gu_app (by decide +kernel) guX5_changesTo)
theorem gX5_isReached__X5_changesTo_V44 : GoodIn uX5_isReached (wsV RX5 44 RX5 yX5_changesTo uX5_changesTo) := gin_V (List.mem_of_getElem? (i := 1) rfl) (List.mem_of_getElem? (i := 2) rfl) (List.mem_of_getElem? (i := 3) rfl) (List.mem_of_getElem? (i := 4) rfl) (fun _ h => (List.mem_cons_of_mem _ (List.mem_append_right _ h))) guX5_changesTo
set_option maxHeartbeats 4000000 in
set_option maxRecDepth 100000 in
theorem kX5_isReached (l : Launch) (dC : Nat → ClassId) (dI : Nat → Nat → Nat) (se : Nat) (qa : Nat) (qf : Nat) (qg : Nat) (cQ : ClassId) (nq : Nat) (fq : Nat → Int32) (cR : ClassId) (nr : Nat) (fr : Nat → Int32) (cH : ClassId) (ng : Nat) (fh : Nat → Int32) (a1 : Int32) (hq1 : nq ≤ 20000) (hq2 : nr ≤ 20000) (hq3 : ng ≤ 200000) : Met l yX5_isReached uX5_isReached ({ frames := 1, cells := 0, slots := 0, locals := 21 }) (va_Pc [.ref se, .int a1] (pw (dC, dI) vwCl [(se, .inr (4, [.ref qa, .ref qf, .ref qg])), (qa, .inl (cQ, nq, .inl fq)), (qf, .inl (cR, nr, .inl fr)), (qg, .inl (cH, ng, .inl fh))] [(cQ, .int), (cR, .int), (cH, .byte)])) (vp_Si (fun r => ((0 : Int) ≤ r.toInt ∧ r.toInt ≤ 1))) 0 0 (fun _ => False) := by
  refine Met.ofW (cc := cX5_isReached) (maxL := 2) (ret := (some .boolean)) pn_X5 rfl ?_
  intro p e s m args below meth c s₁ B hml hv
  obtain ⟨rfl, hP, hK, hN⟩ := hv
  have hx := B.exec
  have hb := B.bytes
  have hr := B.returns
  have hts := atoms_spec (ws := uX5_isReached) B.pre
  have hown : s.vm.findClass RX5 = some m.cls := hown_of B.named rfl
  have hlocks := B.notSynchronized
  have hl := lv_entry ([.ref se, .int a1]) (n := 2) (Nat.le_of_ble_eq_true rfl)
  rw [lg_entry_eq]
  generalize (lg_sl ([.ref se, .int a1]) ++ List.replicate (2 - (lg_sl ([.ref se, .int a1])).length) Slot.unset).toArray = ls at hl ⊢
  have hl : lv_has ls 2 [(0, .ref se), (1, .int a1)] := hl
  refine lv_aload_n hx hb dX5_isReached_0 rfl (lv_at hl 0 rfl) ?_
  refine lv_iload_n hx hb dX5_isReached_1 rfl (lv_at hl 1 rfl) ?_
  refine vp_callSi (W.runV (As := [.int a1]) (rest := []) ⟨hx, hb, hml, hown, hts⟩ (kX5_changesTo l dC dI se qa qf qg cQ nq fq cR nr fr cH ng fh a1 (by omega) (by omega) (by omega)) (cwV 1 hts gX5_isReached__X5_changesTo_V44 rfl rfl rfl hd_yX5_changesTo ⟨lel 1 1 rfl, lel 21 21 rfl⟩) ⟨pw_fb, rcv_X5 hK hP (q0 := 0) rfl, (pw_use hP hK hN [0, 1, 2, 3] rfl [0, 1, 2] rfl)⟩ rfl rfl hl.1 rfl (lv_room (Nat.le_of_ble_eq_true rfl)) dX5_isReached_2 ⟨lel 0 0 rfl, lel 0 0 rfl⟩) (fun r_3 h_r_3 => ?_)
  refine lv_iconst (v := (-1)) hx hb dX5_isReached_5 (by decide) ?_
  refine lv_icmp_eq (tgt := 13) hx hb dX5_isReached_6 (by decide) (fun c_4 => ?_) (fun c_4 => ?_)
  ·
    have n_c_4 : (r_3.toInt : Int) = (-1) := c_eq rfl (by decide) c_4
    have b_r_3 : (-1 : Int) ≤ r_3.toInt ∧ r_3.toInt ≤ -1 := r_eq1 (ti_rng r_3) (by decide : (-1 : Int) ≤ ((-1) : Int32).toInt ∧ ((-1) : Int32).toInt ≤ -1) n_c_4 (by decide)
    refine lv_iconst (v := 0) hx hb dX5_isReached_13 (by decide) ?_
    exact W.zret (v := 0) hx hb hr rfl (fun t ht hW => ⟨0, rfl, (rg_w (by decide : (0 : Int) ≤ (0 : Int32).toInt ∧ (0 : Int32).toInt ≤ 0) (by decide) (by decide)), ht⟩) t_nil dX5_isReached_14
  ·
    have n_c_4 : (r_3.toInt : Int) ≠ (-1) := c_ne rfl (by decide) c_4
    refine lv_iconst (v := 1) hx hb dX5_isReached_9 (by decide) ?_
    refine lv_goto (tgt := 14) hx hb dX5_isReached_10 (by decide) ?_
    exact W.zret (v := 1) hx hb hr rfl (fun t ht hW => ⟨1, rfl, (rg_w (by decide : (1 : Int) ≤ (1 : Int32).toInt ∧ (1 : Int32).toInt ≤ 1) (by decide) (by decide)), ht⟩) t_nil dX5_isReached_14
theorem dX5_reach_0 : decode cX5_reach 0 = .ok (.iload_n 1, 1) := by decide +kernel
theorem dX5_reach_1 : decode cX5_reach 1 = .ok (.ifCond .lt 25, 3) := by decide +kernel
theorem dX5_reach_4 : decode cX5_reach 4 = .ok (.iload_n 1, 1) := by decide +kernel
theorem dX5_reach_5 : decode cX5_reach 5 = .ok (.aload_n 0, 1) := by decide +kernel
theorem dX5_reach_6 : decode cX5_reach 6 = .ok (.getfield 15, 3) := by decide +kernel
theorem dX5_reach_9 : decode cX5_reach 9 = .ok (.arraylength, 1) := by decide +kernel
theorem dX5_reach_10 : decode cX5_reach 10 = .ok (.if_icmp .ge 16, 3) := by decide +kernel
theorem dX5_reach_13 : decode cX5_reach 13 = .ok (.iload_n 3, 1) := by decide +kernel
theorem dX5_reach_14 : decode cX5_reach 14 = .ok (.ifCond .lt 12, 3) := by decide +kernel
theorem dX5_reach_17 : decode cX5_reach 17 = .ok (.iload_n 3, 1) := by decide +kernel
theorem dX5_reach_18 : decode cX5_reach 18 = .ok (.aload_n 0, 1) := by decide +kernel
theorem dX5_reach_19 : decode cX5_reach 19 = .ok (.getfield 9, 3) := by decide +kernel
theorem dX5_reach_22 : decode cX5_reach 22 = .ok (.arraylength, 1) := by decide +kernel
theorem dX5_reach_23 : decode cX5_reach 23 = .ok (.if_icmp .lt 5, 3) := by decide +kernel
theorem dX5_reach_26 : decode cX5_reach 26 = .ok (.iload_n 3, 1) := by decide +kernel
theorem dX5_reach_27 : decode cX5_reach 27 = .ok (.ireturn, 1) := by decide +kernel
theorem dX5_reach_28 : decode cX5_reach 28 = .ok (.aload_n 0, 1) := by decide +kernel
theorem dX5_reach_29 : decode cX5_reach 29 = .ok (.getfield 15, 3) := by decide +kernel
theorem dX5_reach_32 : decode cX5_reach 32 = .ok (.iload_n 1, 1) := by decide +kernel
theorem dX5_reach_33 : decode cX5_reach 33 = .ok (.iload_n 2, 1) := by decide +kernel
theorem dX5_reach_34 : decode cX5_reach 34 = .ok (.iastore, 1) := by decide +kernel
theorem dX5_reach_35 : decode cX5_reach 35 = .ok (.aload_n 0, 1) := by decide +kernel
theorem dX5_reach_36 : decode cX5_reach 36 = .ok (.getfield 9, 3) := by decide +kernel
theorem dX5_reach_39 : decode cX5_reach 39 = .ok (.iload_n 3, 1) := by decide +kernel
theorem dX5_reach_40 : decode cX5_reach 40 = .ok (.iload_n 1, 1) := by decide +kernel
theorem dX5_reach_41 : decode cX5_reach 41 = .ok (.iastore, 1) := by decide +kernel
theorem dX5_reach_42 : decode cX5_reach 42 = .ok (.iload_n 3, 1) := by decide +kernel
theorem dX5_reach_43 : decode cX5_reach 43 = .ok (.iconst 1, 1) := by decide +kernel
theorem dX5_reach_44 : decode cX5_reach 44 = .ok (.iadd, 1) := by decide +kernel
theorem dX5_reach_45 : decode cX5_reach 45 = .ok (.ireturn, 1) := by decide +kernel
theorem hd_yX5_reach : yX5_reach.cls = RX5 ∧ yX5_reach.cls ≠ "java/lang/invoke/MethodHandle" ∧ yX5_reach.cls ≠ "java/lang/invoke/VarHandle" ∧ (parseMethodDescriptor yX5_reach.desc).map (fun d => d.parameters.length) = some 3 := by decide +kernel
def uX5_reach : List Cond := List.cons (.code yX5_reach cX5_reach 4 (some .int)) (HAppend.hAppend ([.fieldLink RX5 15 "LuckyTicket$Search" "far" "[I", .fieldLink RX5 9 "LuckyTicket$Search" "queue" "[I"] : List Cond) wsX50)
theorem iX5_reach_X5 : ∀ w ∈ wsX50, w ∈ uX5_reach := fun _ h => (List.mem_cons_of_mem _ (List.mem_append_right _ h))
theorem guX5_reach : GU uX5_reach := gu_cons (gu_app (by decide +kernel) gws_X5)
set_option maxHeartbeats 4000000 in
set_option maxRecDepth 100000 in
theorem kX5_reach (l : Launch) (dC : Nat → ClassId) (dI : Nat → Nat → Nat) (se : Nat) (qa : Nat) (qf : Nat) (qg : Nat) (cQ : ClassId) (nq : Nat) (fq : Nat → Int32) (cR : ClassId) (nr : Nat) (fr : Nat → Int32) (cH : ClassId) (ng : Nat) (fh : Nat → Int32) (a1 : Int32) (a2 : Int32) (a3 : Int32) (sz : Nat) (hq1 : nq ≤ 20000) (hq2 : nr ≤ 20000) (hq3 : ng ≤ 200000) : Met l yX5_reach uX5_reach ({ frames := 0, cells := 0, slots := 0, locals := 0 }) (va_Pc [.ref se, .int a1, .int a2, .int a3] (hw (dC, dI) vwCl [(se, .inr (4, [.ref qa, .ref qf, .ref qg])), (qa, .inl (cQ, nq, .inl fq)), (qf, .inl (cR, nr, .inl fr)), (qg, .inl (cH, ng, .inl fh))] [(cQ, .int), (cR, .int), (cH, .byte)] sz)) (va_Qi (fun (r : Int32) (_ : Unit) => True) (fun (_ : Unit) t => ∃ (o0_ : Nat → Int32) (o1_ : Nat → Int32), va_P (dC, dI) vwCl [(se, .inr (4, [.ref qa, .ref qf, .ref qg])), (qa, .inl (cQ, nq, .inl o0_)), (qf, .inl (cR, nr, .inl o1_)), (qg, .inl (cH, ng, .inl fh))] t.heap ∧ va_K (dC, dI) vwCl [(cQ, .int), (cR, .int), (cH, .byte)] t ∧ va_D (va_A [(se, .inr (4, [.ref qa, .ref qf, .ref qg])), (qa, .inl (cQ, nq, .inl fq)), (qf, .inl (cR, nr, .inl fr)), (qg, .inl (cH, ng, .inl fh))] sz) [(se, .inr (4, [.ref qa, .ref qf, .ref qg])), (qa, .inl (cQ, nq, .inl o0_)), (qf, .inl (cR, nr, .inl o1_)), (qg, .inl (cH, ng, .inl fh))]) (va_A [(se, .inr (4, [.ref qa, .ref qf, .ref qg])), (qa, .inl (cQ, nq, .inl fq)), (qf, .inl (cR, nr, .inl fr)), (qg, .inl (cH, ng, .inl fh))] sz)) 0 0 (va_A [(se, .inr (4, [.ref qa, .ref qf, .ref qg])), (qa, .inl (cQ, nq, .inl fq)), (qf, .inl (cR, nr, .inl fr)), (qg, .inl (cH, ng, .inl fh))] sz) := by
  refine Met.ofW (cc := cX5_reach) (maxL := 4) (ret := (some .int)) pn_X5 rfl ?_
  intro p e s m args below meth c s₁ B hml hv
  obtain ⟨rfl, hsz, hP, hK, hD0, hN⟩ := hv
  have hx := B.exec
  have hb := B.bytes
  have hr := B.returns
  have hts := atoms_spec (ws := uX5_reach) B.pre
  have hown : s.vm.findClass RX5 = some m.cls := hown_of B.named rfl
  have hlocks := B.notSynchronized
  subst hsz
  have hD := hD0.self (sz := s.heap.size)
  generalize hAe : va_A [(se, .inr (4, [.ref qa, .ref qf, .ref qg])), (qa, .inl (cQ, nq, .inl fq)), (qf, .inl (cR, nr, .inl fr)), (qg, .inl (cH, ng, .inl fh))] s.heap.size = A at hD ⊢
  have hA : ∀ q : Nat, s.heap.size ≤ q → A q := fun q h => by rw [← hAe]; exact Or.inr h
  have hS : va_S A s.heap s.heap [] := va_S.rf
  have hP : va_P (dC, dI) vwCl [(se, .inr (4, [.ref qa, .ref qf, .ref qg])), (qa, .inl (cQ, nq, .inl fq)), (qf, .inl (cR, nr, .inl fr)), (qg, .inl (cH, ng, .inl fh))] s.heap := hP
  have hl := lv_entry ([.ref se, .int a1, .int a2, .int a3]) (n := 4) (Nat.le_of_ble_eq_true rfl)
  rw [lg_entry_eq]
  generalize (lg_sl ([.ref se, .int a1, .int a2, .int a3]) ++ List.replicate (4 - (lg_sl ([.ref se, .int a1, .int a2, .int a3])).length) Slot.unset).toArray = ls at hl ⊢
  have hl : lv_has ls 4 [(0, .ref se), (1, .int a1), (2, .int a2), (3, .int a3)] := hl
  refine lv_iload_n hx hb dX5_reach_0 rfl (lv_at hl 1 rfl) ?_
  refine lv_if_lt (tgt := 26) hx hb dX5_reach_1 (by decide) (fun c_10 => ?_) (fun c_10 => ?_)
  ·
    have n_c_10 : (a1.toInt : Int) < 0 := c_lt rfl (by decide) c_10
    have b_a1 : (-2147483648 : Int) ≤ a1.toInt ∧ a1.toInt ≤ -1 := r_lt1 (ti_rng a1) (by decide : (0 : Int) ≤ (0 : Int32).toInt ∧ (0 : Int32).toInt ≤ 0) n_c_10 (by decide)
    refine lv_iload_n hx hb dX5_reach_26 rfl (lv_at hl 3 rfl) ?_
    have hP9 := hP.sub (ws' := [(se, .inr (4, [.ref qa, .ref qf, .ref qg])), (qa, .inl (cQ, nq, .inl fq)), (qf, .inl (cR, nr, .inl fr)), (qg, .inl (cH, ng, .inl fh))]) [0, 1, 2, 3] rfl
    have hD9 := hD.sub (ws' := [(se, .inr (4, [.ref qa, .ref qf, .ref qg])), (qa, .inl (cQ, nq, .inl fq)), (qf, .inl (cR, nr, .inl fr)), (qg, .inl (cH, ng, .inl fh))]) [0, 1, 2, 3] (by decide) rfl
    have hK9 := hK.sub (tys' := [(cQ, .int), (cR, .int), (cH, .byte)]) [0, 1, 2] rfl
    exact W.iret (v := a3) hx hb hr (fun t ht hW => ⟨⟨a3, (), rfl, trivial, fq, fr, by rw [ht]; exact hP9, va_K.moved hW.alike hK9, hD9⟩, hS.F ht⟩) hS.2.2 dX5_reach_27
  ·
    have n_c_10 : (0 : Int) ≤ a1.toInt := c_nlt rfl (by decide) c_10
    have b_a1 : (0 : Int) ≤ a1.toInt ∧ a1.toInt ≤ 2147483647 := r_le2 (by decide : (0 : Int) ≤ (0 : Int32).toInt ∧ (0 : Int32).toInt ≤ 0) (ti_rng a1) n_c_10 (by decide)
    refine lv_iload_n hx hb dX5_reach_4 rfl (lv_at hl 1 rfl) ?_
    refine lv_aload_n hx hb dX5_reach_5 rfl (lv_at hl 0 rfl) ?_
    refine va_get (D := (dC, dI)) (ci := 4) (v := .ref qf) (C := RX5) (T := TX5) (N := 3) hx hb hts iX5_reach_X5 hown hK hP 0 rfl rfl 1 (by decide) (hts (.fieldLink RX5 15 "LuckyTicket$Search" "far" "[I") (List.mem_of_getElem? (i := 1) rfl)) (fun _ h9 => h9) rfl dX5_reach_6 ?_
    obtain ⟨z_11, e_z_11⟩ : ∃ y : Int32, y = Int32.ofNat nr := ⟨_, rfl⟩
    refine va_alen (v := z_11) hx hb hK hP 2 1 rfl rfl e_z_11.symm dX5_reach_9 ?_
    obtain ⟨q_z_11, b_z_11⟩ := ti_len (hi := 20000) e_z_11 (by omega) (by decide)
    refine lv_icmp_ge (tgt := 26) hx hb dX5_reach_10 (by decide) (fun c_12 => ?_) (fun c_12 => ?_)
    ·
      have n_c_12 : (z_11.toInt : Int) ≤ a1.toInt := c_ge rfl rfl c_12
      refine lv_iload_n hx hb dX5_reach_26 rfl (lv_at hl 3 rfl) ?_
      have hP9 := hP.sub (ws' := [(se, .inr (4, [.ref qa, .ref qf, .ref qg])), (qa, .inl (cQ, nq, .inl fq)), (qf, .inl (cR, nr, .inl fr)), (qg, .inl (cH, ng, .inl fh))]) [0, 1, 2, 3] rfl
      have hD9 := hD.sub (ws' := [(se, .inr (4, [.ref qa, .ref qf, .ref qg])), (qa, .inl (cQ, nq, .inl fq)), (qf, .inl (cR, nr, .inl fr)), (qg, .inl (cH, ng, .inl fh))]) [0, 1, 2, 3] (by decide) rfl
      have hK9 := hK.sub (tys' := [(cQ, .int), (cR, .int), (cH, .byte)]) [0, 1, 2] rfl
      exact W.iret (v := a3) hx hb hr (fun t ht hW => ⟨⟨a3, (), rfl, trivial, fq, fr, by rw [ht]; exact hP9, va_K.moved hW.alike hK9, hD9⟩, hS.F ht⟩) hS.2.2 dX5_reach_27
    ·
      have n_c_12 : (a1.toInt : Int) < z_11.toInt := c_nge rfl rfl c_12
      have b_a1 : (0 : Int) ≤ a1.toInt ∧ a1.toInt ≤ 19999 := r_lt1 b_a1 b_z_11 n_c_12 (by decide)
      have b_z_11 : (1 : Int) ≤ z_11.toInt ∧ z_11.toInt ≤ 20000 := r_lt2 b_a1 b_z_11 n_c_12 (by decide)
      refine lv_iload_n hx hb dX5_reach_13 rfl (lv_at hl 3 rfl) ?_
      refine lv_if_lt (tgt := 26) hx hb dX5_reach_14 (by decide) (fun c_13 => ?_) (fun c_13 => ?_)
      ·
        have n_c_13 : (a3.toInt : Int) < 0 := c_lt rfl (by decide) c_13
        have b_a3 : (-2147483648 : Int) ≤ a3.toInt ∧ a3.toInt ≤ -1 := r_lt1 (ti_rng a3) (by decide : (0 : Int) ≤ (0 : Int32).toInt ∧ (0 : Int32).toInt ≤ 0) n_c_13 (by decide)
        refine lv_iload_n hx hb dX5_reach_26 rfl (lv_at hl 3 rfl) ?_
        have hP9 := hP.sub (ws' := [(se, .inr (4, [.ref qa, .ref qf, .ref qg])), (qa, .inl (cQ, nq, .inl fq)), (qf, .inl (cR, nr, .inl fr)), (qg, .inl (cH, ng, .inl fh))]) [0, 1, 2, 3] rfl
        have hD9 := hD.sub (ws' := [(se, .inr (4, [.ref qa, .ref qf, .ref qg])), (qa, .inl (cQ, nq, .inl fq)), (qf, .inl (cR, nr, .inl fr)), (qg, .inl (cH, ng, .inl fh))]) [0, 1, 2, 3] (by decide) rfl
        have hK9 := hK.sub (tys' := [(cQ, .int), (cR, .int), (cH, .byte)]) [0, 1, 2] rfl
        exact W.iret (v := a3) hx hb hr (fun t ht hW => ⟨⟨a3, (), rfl, trivial, fq, fr, by rw [ht]; exact hP9, va_K.moved hW.alike hK9, hD9⟩, hS.F ht⟩) hS.2.2 dX5_reach_27
      ·
        have n_c_13 : (0 : Int) ≤ a3.toInt := c_nlt rfl (by decide) c_13
        have b_a3 : (0 : Int) ≤ a3.toInt ∧ a3.toInt ≤ 2147483647 := r_le2 (by decide : (0 : Int) ≤ (0 : Int32).toInt ∧ (0 : Int32).toInt ≤ 0) (ti_rng a3) n_c_13 (by decide)
        refine lv_iload_n hx hb dX5_reach_17 rfl (lv_at hl 3 rfl) ?_
        refine lv_aload_n hx hb dX5_reach_18 rfl (lv_at hl 0 rfl) ?_
        refine va_get (D := (dC, dI)) (ci := 4) (v := .ref qa) (C := RX5) (T := TX5) (N := 3) hx hb hts iX5_reach_X5 hown hK hP 0 rfl rfl 0 (by decide) (hts (.fieldLink RX5 9 "LuckyTicket$Search" "queue" "[I") (List.mem_of_getElem? (i := 2) rfl)) (fun _ h9 => h9) rfl dX5_reach_19 ?_
        obtain ⟨z_14, e_z_14⟩ : ∃ y : Int32, y = Int32.ofNat nq := ⟨_, rfl⟩
        refine va_alen (v := z_14) hx hb hK hP 1 0 rfl rfl e_z_14.symm dX5_reach_22 ?_
        obtain ⟨q_z_14, b_z_14⟩ := ti_len (hi := 20000) e_z_14 (by omega) (by decide)
        refine lv_icmp_lt (tgt := 28) hx hb dX5_reach_23 (by decide) (fun c_15 => ?_) (fun c_15 => ?_)
        ·
          have n_c_15 : (a3.toInt : Int) < z_14.toInt := c_lt rfl rfl c_15
          have b_a3 : (0 : Int) ≤ a3.toInt ∧ a3.toInt ≤ 19999 := r_lt1 b_a3 b_z_14 n_c_15 (by decide)
          have b_z_14 : (1 : Int) ≤ z_14.toInt ∧ z_14.toInt ≤ 20000 := r_lt2 b_a3 b_z_14 n_c_15 (by decide)
          refine lv_aload_n hx hb dX5_reach_28 rfl (lv_at hl 0 rfl) ?_
          refine va_get (D := (dC, dI)) (ci := 4) (v := .ref qf) (C := RX5) (T := TX5) (N := 3) hx hb hts iX5_reach_X5 hown hK hP 0 rfl rfl 1 (by decide) (hts (.fieldLink RX5 15 "LuckyTicket$Search" "far" "[I") (List.mem_of_getElem? (i := 1) rfl)) (fun _ h9 => h9) rfl dX5_reach_29 ?_
          refine lv_iload_n hx hb dX5_reach_32 rfl (lv_at hl 1 rfl) ?_
          refine lv_iload_n hx hb dX5_reach_33 rfl (lv_at hl 2 rfl) ?_
          refine va_iast hx hb hK hP hD hS 2 1 rfl rfl (vp_in_iff.mpr ⟨by omega, by omega⟩) dX5_reach_34 (fun H locs hP hD hS => ?_)
          have hP : va_P (dC, dI) vwCl [(se, .inr (4, [.ref qa, .ref qf, .ref qg])), (qa, .inl (cQ, nq, .inl fq)), (qf, .inl (cR, nr, .inl (upd fr (a1 : Int32).toNatClampNeg a2))), (qg, .inl (cH, ng, .inl fh))] H := hP
          have hD : va_D A [(se, .inr (4, [.ref qa, .ref qf, .ref qg])), (qa, .inl (cQ, nq, .inl fq)), (qf, .inl (cR, nr, .inl (upd fr (a1 : Int32).toNatClampNeg a2))), (qg, .inl (cH, ng, .inl fh))] := hD
          generalize (upd fr (a1 : Int32).toNatClampNeg a2) = f_16 at hP hD
          have hP : va_P (dC, dI) vwCl [(se, .inr (4, [.ref qa, .ref qf, .ref qg])), (qa, .inl (cQ, nq, .inl fq)), (qf, .inl (cR, nr, .inl f_16)), (qg, .inl (cH, ng, .inl fh))] H := hP
          have hD : va_D A [(se, .inr (4, [.ref qa, .ref qf, .ref qg])), (qa, .inl (cQ, nq, .inl fq)), (qf, .inl (cR, nr, .inl f_16)), (qg, .inl (cH, ng, .inl fh))] := hD
          refine lv_aload_n hx hb dX5_reach_35 rfl (lv_at hl 0 rfl) ?_
          refine va_get (D := (dC, dI)) (ci := 4) (v := .ref qa) (C := RX5) (T := TX5) (N := 3) hx hb hts iX5_reach_X5 hown hK hP 0 rfl rfl 0 (by decide) (hts (.fieldLink RX5 9 "LuckyTicket$Search" "queue" "[I") (List.mem_of_getElem? (i := 2) rfl)) (fun _ h9 => h9) rfl dX5_reach_36 ?_
          refine lv_iload_n hx hb dX5_reach_39 rfl (lv_at hl 3 rfl) ?_
          refine lv_iload_n hx hb dX5_reach_40 rfl (lv_at hl 1 rfl) ?_
          refine va_iast hx hb hK hP hD hS 1 0 rfl rfl (vp_in_iff.mpr ⟨by omega, by omega⟩) dX5_reach_41 (fun H locs hP hD hS => ?_)
          have hP : va_P (dC, dI) vwCl [(se, .inr (4, [.ref qa, .ref qf, .ref qg])), (qa, .inl (cQ, nq, .inl (upd fq (a3 : Int32).toNatClampNeg a1))), (qf, .inl (cR, nr, .inl f_16)), (qg, .inl (cH, ng, .inl fh))] H := hP
          have hD : va_D A [(se, .inr (4, [.ref qa, .ref qf, .ref qg])), (qa, .inl (cQ, nq, .inl (upd fq (a3 : Int32).toNatClampNeg a1))), (qf, .inl (cR, nr, .inl f_16)), (qg, .inl (cH, ng, .inl fh))] := hD
          generalize (upd fq (a3 : Int32).toNatClampNeg a1) = f_17 at hP hD
          have hP : va_P (dC, dI) vwCl [(se, .inr (4, [.ref qa, .ref qf, .ref qg])), (qa, .inl (cQ, nq, .inl f_17)), (qf, .inl (cR, nr, .inl f_16)), (qg, .inl (cH, ng, .inl fh))] H := hP
          have hD : va_D A [(se, .inr (4, [.ref qa, .ref qf, .ref qg])), (qa, .inl (cQ, nq, .inl f_17)), (qf, .inl (cR, nr, .inl f_16)), (qg, .inl (cH, ng, .inl fh))] := hD
          refine lv_iload_n hx hb dX5_reach_42 rfl (lv_at hl 3 rfl) ?_
          refine lv_iconst (v := 1) hx hb dX5_reach_43 (by decide) ?_
          refine lv_iadd hx hb dX5_reach_44 ?_
          refine lv_topi (fun z_18 e_z_18 => ?_)
          obtain ⟨q_z_18, b_z_18⟩ := ti_add (lo := 1) (hi := 20000) e_z_18 rfl (by decide : (1 : Int32).toInt = 1) b_a3 (by decide : (1 : Int) ≤ (1 : Int32).toInt ∧ (1 : Int32).toInt ≤ 1) (by decide)
          have hP9 := hP.sub (ws' := [(se, .inr (4, [.ref qa, .ref qf, .ref qg])), (qa, .inl (cQ, nq, .inl f_17)), (qf, .inl (cR, nr, .inl f_16)), (qg, .inl (cH, ng, .inl fh))]) [0, 1, 2, 3] rfl
          have hD9 := hD.sub (ws' := [(se, .inr (4, [.ref qa, .ref qf, .ref qg])), (qa, .inl (cQ, nq, .inl f_17)), (qf, .inl (cR, nr, .inl f_16)), (qg, .inl (cH, ng, .inl fh))]) [0, 1, 2, 3] (by decide) rfl
          have hK9 := hK.sub (tys' := [(cQ, .int), (cR, .int), (cH, .byte)]) [0, 1, 2] rfl
          exact W.iret (v := z_18) hx hb hr (fun t ht hW => ⟨⟨z_18, (), rfl, trivial, f_17, f_16, by rw [ht]; exact hP9, va_K.moved hW.alike hK9, hD9⟩, hS.F ht⟩) hS.2.2 dX5_reach_45
        ·
          have n_c_15 : (z_14.toInt : Int) ≤ a3.toInt := c_nlt rfl rfl c_15
          refine lv_iload_n hx hb dX5_reach_26 rfl (lv_at hl 3 rfl) ?_
          have hP9 := hP.sub (ws' := [(se, .inr (4, [.ref qa, .ref qf, .ref qg])), (qa, .inl (cQ, nq, .inl fq)), (qf, .inl (cR, nr, .inl fr)), (qg, .inl (cH, ng, .inl fh))]) [0, 1, 2, 3] rfl
          have hD9 := hD.sub (ws' := [(se, .inr (4, [.ref qa, .ref qf, .ref qg])), (qa, .inl (cQ, nq, .inl fq)), (qf, .inl (cR, nr, .inl fr)), (qg, .inl (cH, ng, .inl fh))]) [0, 1, 2, 3] (by decide) rfl
          have hK9 := hK.sub (tys' := [(cQ, .int), (cR, .int), (cH, .byte)]) [0, 1, 2] rfl
          exact W.iret (v := a3) hx hb hr (fun t ht hW => ⟨⟨a3, (), rfl, trivial, fq, fr, by rw [ht]; exact hP9, va_K.moved hW.alike hK9, hD9⟩, hS.F ht⟩) hS.2.2 dX5_reach_27
theorem dX5_spreadAlong_0 : decode cX5_spreadAlong 0 = .ok (.iload 6, 2) := by decide +kernel
theorem dX5_spreadAlong_2 : decode cX5_spreadAlong 2 = .ok (.istore 7, 2) := by decide +kernel
theorem dX5_spreadAlong_4 : decode cX5_spreadAlong 4 = .ok (.aload_n 0, 1) := by decide +kernel
theorem dX5_spreadAlong_5 : decode cX5_spreadAlong 5 = .ok (.iload_n 3, 1) := by decide +kernel
theorem dX5_spreadAlong_6 : decode cX5_spreadAlong 6 = .ok (.invokevirtual 44, 3) := by decide +kernel
theorem dX5_spreadAlong_9 : decode cX5_spreadAlong 9 = .ok (.iconst 2, 1) := by decide +kernel
theorem dX5_spreadAlong_10 : decode cX5_spreadAlong 10 = .ok (.iadd, 1) := by decide +kernel
theorem dX5_spreadAlong_11 : decode cX5_spreadAlong 11 = .ok (.istore 8, 2) := by decide +kernel
theorem dX5_spreadAlong_13 : decode cX5_spreadAlong 13 = .ok (.iload 4, 2) := by decide +kernel
theorem dX5_spreadAlong_15 : decode cX5_spreadAlong 15 = .ok (.istore 9, 2) := by decide +kernel
theorem dX5_spreadAlong_17 : decode cX5_spreadAlong 17 = .ok (.iconst 0, 1) := by decide +kernel
theorem dX5_spreadAlong_18 : decode cX5_spreadAlong 18 = .ok (.istore 10, 2) := by decide +kernel
theorem dX5_spreadAlong_20 : decode cX5_spreadAlong 20 = .ok (.iload 10, 2) := by decide +kernel
theorem dX5_spreadAlong_22 : decode cX5_spreadAlong 22 = .ok (.aload_n 1, 1) := by decide +kernel
theorem dX5_spreadAlong_23 : decode cX5_spreadAlong 23 = .ok (.getfield 56, 3) := by decide +kernel
theorem dX5_spreadAlong_26 : decode cX5_spreadAlong 26 = .ok (.if_icmp .ge 47, 3) := by decide +kernel
theorem dX5_spreadAlong_29 : decode cX5_spreadAlong 29 = .ok (.aload_n 1, 1) := by decide +kernel
theorem dX5_spreadAlong_30 : decode cX5_spreadAlong 30 = .ok (.iload_n 2, 1) := by decide +kernel
theorem dX5_spreadAlong_31 : decode cX5_spreadAlong 31 = .ok (.iload 9, 2) := by decide +kernel
theorem dX5_spreadAlong_33 : decode cX5_spreadAlong 33 = .ok (.invokevirtual 63, 3) := by decide +kernel
theorem dX5_spreadAlong_36 : decode cX5_spreadAlong 36 = .ok (.ifCond .eq 24, 3) := by decide +kernel
theorem dX5_spreadAlong_39 : decode cX5_spreadAlong 39 = .ok (.aload_n 0, 1) := by decide +kernel
theorem dX5_spreadAlong_40 : decode cX5_spreadAlong 40 = .ok (.iload 9, 2) := by decide +kernel
theorem dX5_spreadAlong_42 : decode cX5_spreadAlong 42 = .ok (.invokevirtual 67, 3) := by decide +kernel
theorem dX5_spreadAlong_45 : decode cX5_spreadAlong 45 = .ok (.ifCond .ne 15, 3) := by decide +kernel
theorem dX5_spreadAlong_48 : decode cX5_spreadAlong 48 = .ok (.aload_n 0, 1) := by decide +kernel
theorem dX5_spreadAlong_49 : decode cX5_spreadAlong 49 = .ok (.iload 9, 2) := by decide +kernel
theorem dX5_spreadAlong_51 : decode cX5_spreadAlong 51 = .ok (.iload 8, 2) := by decide +kernel
theorem dX5_spreadAlong_53 : decode cX5_spreadAlong 53 = .ok (.iload 7, 2) := by decide +kernel
theorem dX5_spreadAlong_55 : decode cX5_spreadAlong 55 = .ok (.invokevirtual 48, 3) := by decide +kernel
theorem dX5_spreadAlong_58 : decode cX5_spreadAlong 58 = .ok (.istore 7, 2) := by decide +kernel
theorem dX5_spreadAlong_60 : decode cX5_spreadAlong 60 = .ok (.iload 9, 2) := by decide +kernel
theorem dX5_spreadAlong_62 : decode cX5_spreadAlong 62 = .ok (.iload 5, 2) := by decide +kernel
theorem dX5_spreadAlong_64 : decode cX5_spreadAlong 64 = .ok (.iadd, 1) := by decide +kernel
theorem dX5_spreadAlong_65 : decode cX5_spreadAlong 65 = .ok (.istore 9, 2) := by decide +kernel
theorem dX5_spreadAlong_67 : decode cX5_spreadAlong 67 = .ok (.iinc 10 1, 3) := by decide +kernel
theorem dX5_spreadAlong_70 : decode cX5_spreadAlong 70 = .ok (.goto (-50), 3) := by decide +kernel
theorem dX5_spreadAlong_73 : decode cX5_spreadAlong 73 = .ok (.iload 7, 2) := by decide +kernel
theorem dX5_spreadAlong_75 : decode cX5_spreadAlong 75 = .ok (.ireturn, 1) := by decide +kernel
theorem hd_yX5_spreadAlong : yX5_spreadAlong.cls = RX5 ∧ yX5_spreadAlong.cls ≠ "java/lang/invoke/MethodHandle" ∧ yX5_spreadAlong.cls ≠ "java/lang/invoke/VarHandle" ∧ (parseMethodDescriptor yX5_spreadAlong.desc).map (fun d => d.parameters.length) = some 6 := by decide +kernel
def uX5_spreadAlong : List Cond := List.cons (.code yX5_spreadAlong cX5_spreadAlong 11 (some .int)) (HAppend.hAppend ([.methodLink RX5 44 yX5_changesTo, .instanceMethod yX5_changesTo, .selects RX5 yX5_changesTo yX5_changesTo, .initialized RX5, .methodLink RX5 63 yX2_isLucky, .instanceMethod yX2_isLucky, .selects RX2 yX2_isLucky yX2_isLucky, .initialized RX2, .methodLink RX5 67 yX5_isReached, .instanceMethod yX5_isReached, .selects RX5 yX5_isReached yX5_isReached, .methodLink RX5 48 yX5_reach, .instanceMethod yX5_reach, .selects RX5 yX5_reach yX5_reach] : List Cond) (HAppend.hAppend uX5_changesTo (HAppend.hAppend uX2_isLucky (HAppend.hAppend uX5_isReached (HAppend.hAppend uX5_reach wsX20)))))
theorem iX5_spreadAlong_X2 : ∀ w ∈ wsX20, w ∈ uX5_spreadAlong := fun _ h => (List.mem_cons_of_mem _ (List.mem_append_right _ (List.mem_append_right _ (List.mem_append_right _ (List.mem_append_right _ (List.mem_append_right _ h))))))
theorem guX5_spreadAlong : GU uX5_spreadAlong := gu_cons (gu_app (by decide +kernel) (gu_ap guX5_changesTo (gu_ap guX2_isLucky (gu_ap guX5_isReached (gu_ap guX5_reach gws_X2)))))
theorem gX5_spreadAlong__X5_changesTo_V44 : GoodIn uX5_spreadAlong (wsV RX5 44 RX5 yX5_changesTo uX5_changesTo) := gin_V (List.mem_of_getElem? (i := 1) rfl) (List.mem_of_getElem? (i := 2) rfl) (List.mem_of_getElem? (i := 3) rfl) (List.mem_of_getElem? (i := 4) rfl) (fun _ h => (List.mem_cons_of_mem _ (List.mem_append_right _ (List.mem_append_left _ h)))) guX5_changesTo
theorem gX5_spreadAlong__X2_isLucky_V63 : GoodIn uX5_spreadAlong (wsV RX5 63 RX2 yX2_isLucky uX2_isLucky) := gin_V (List.mem_of_getElem? (i := 5) rfl) (List.mem_of_getElem? (i := 6) rfl) (List.mem_of_getElem? (i := 7) rfl) (List.mem_of_getElem? (i := 8) rfl) (fun _ h => (List.mem_cons_of_mem _ (List.mem_append_right _ (List.mem_append_right _ (List.mem_append_left _ h))))) guX2_isLucky
theorem gX5_spreadAlong__X5_isReached_V67 : GoodIn uX5_spreadAlong (wsV RX5 67 RX5 yX5_isReached uX5_isReached) := gin_V (List.mem_of_getElem? (i := 9) rfl) (List.mem_of_getElem? (i := 10) rfl) (List.mem_of_getElem? (i := 11) rfl) (List.mem_of_getElem? (i := 4) rfl) (fun _ h => (List.mem_cons_of_mem _ (List.mem_append_right _ (List.mem_append_right _ (List.mem_append_right _ (List.mem_append_left _ h)))))) guX5_isReached
theorem gX5_spreadAlong__X5_reach_V48 : GoodIn uX5_spreadAlong (wsV RX5 48 RX5 yX5_reach uX5_reach) := gin_V (List.mem_of_getElem? (i := 12) rfl) (List.mem_of_getElem? (i := 13) rfl) (List.mem_of_getElem? (i := 14) rfl) (List.mem_of_getElem? (i := 4) rfl) (fun _ h => (List.mem_cons_of_mem _ (List.mem_append_right _ (List.mem_append_right _ (List.mem_append_right _ (List.mem_append_right _ (List.mem_append_left _ h))))))) guX5_reach
set_option maxHeartbeats 4000000 in
set_option maxRecDepth 100000 in
theorem kX5_spreadAlong (l : Launch) (dC : Nat → ClassId) (dI : Nat → Nat → Nat) (se : Nat) (qa : Nat) (qf : Nat) (qg : Nat) (cQ : ClassId) (nq : Nat) (fq : Nat → Int32) (cR : ClassId) (nr : Nat) (fr : Nat → Int32) (cH : ClassId) (ng : Nat) (fh : Nat → Int32) (cu : Nat) (ln : Int32) (bs : Int32) (tk : Int32) (lw : Int32) (li : Int32) (fa : Nat) (lu : Nat) (cL : ClassId) (nl : Nat) (fl : Nat → Int32) (a2 : Int32) (a3 : Int32) (a4 : Int32) (a5 : Int32) (a6 : Int32) (sz : Nat) (b_ln : (0 : Int) ≤ ln.toInt ∧ ln.toInt ≤ 12) (b_bs : (0 : Int) ≤ bs.toInt ∧ bs.toInt ≤ 16) (b_tk : (0 : Int) ≤ tk.toInt ∧ tk.toInt ≤ 20000) (b_lw : (0 : Int) ≤ lw.toInt ∧ lw.toInt ≤ 9) (hq1 : nq ≤ 20000) (hq2 : nr ≤ 20000) (hq3 : ng ≤ 200000) (hl1 : tk.toInt ≤ (nl : Int)) : Met l yX5_spreadAlong uX5_spreadAlong ({ frames := 2, cells := 0, slots := 0, locals := 42 }) (va_Pc [.ref se, .ref cu, .int a2, .int a3, .int a4, .int a5, .int a6] (hw (dC, dI) vwCl [(se, .inr (4, [.ref qa, .ref qf, .ref qg])), (qa, .inl (cQ, nq, .inl fq)), (qf, .inl (cR, nr, .inl fr)), (qg, .inl (cH, ng, .inl fh)), (cu, .inr (1, [.int ln, .int bs, .int tk, .int lw, .int li, .ref fa, .ref lu])), (lu, .inl (cL, nl, .inl fl))] [(cQ, .int), (cR, .int), (cH, .byte), (cL, .int)] sz)) (va_Qi (fun (r : Int32) (_ : Unit) => True) (fun (_ : Unit) t => ∃ (o0_ : Nat → Int32) (o1_ : Nat → Int32), va_P (dC, dI) vwCl [(se, .inr (4, [.ref qa, .ref qf, .ref qg])), (qa, .inl (cQ, nq, .inl o0_)), (qf, .inl (cR, nr, .inl o1_)), (qg, .inl (cH, ng, .inl fh)), (cu, .inr (1, [.int ln, .int bs, .int tk, .int lw, .int li, .ref fa, .ref lu])), (lu, .inl (cL, nl, .inl fl))] t.heap ∧ va_K (dC, dI) vwCl [(cQ, .int), (cR, .int), (cH, .byte), (cL, .int)] t ∧ va_D (va_A [(se, .inr (4, [.ref qa, .ref qf, .ref qg])), (qa, .inl (cQ, nq, .inl fq)), (qf, .inl (cR, nr, .inl fr)), (qg, .inl (cH, ng, .inl fh)), (cu, .inr (1, [.int ln, .int bs, .int tk, .int lw, .int li, .ref fa, .ref lu])), (lu, .inl (cL, nl, .inl fl))] sz) [(se, .inr (4, [.ref qa, .ref qf, .ref qg])), (qa, .inl (cQ, nq, .inl o0_)), (qf, .inl (cR, nr, .inl o1_)), (qg, .inl (cH, ng, .inl fh)), (cu, .inr (1, [.int ln, .int bs, .int tk, .int lw, .int li, .ref fa, .ref lu])), (lu, .inl (cL, nl, .inl fl))]) (va_A [(se, .inr (4, [.ref qa, .ref qf, .ref qg])), (qa, .inl (cQ, nq, .inl fq)), (qf, .inl (cR, nr, .inl fr)), (qg, .inl (cH, ng, .inl fh)), (cu, .inr (1, [.int ln, .int bs, .int tk, .int lw, .int li, .ref fa, .ref lu])), (lu, .inl (cL, nl, .inl fl))] sz)) 0 0 (va_A [(se, .inr (4, [.ref qa, .ref qf, .ref qg])), (qa, .inl (cQ, nq, .inl fq)), (qf, .inl (cR, nr, .inl fr)), (qg, .inl (cH, ng, .inl fh)), (cu, .inr (1, [.int ln, .int bs, .int tk, .int lw, .int li, .ref fa, .ref lu])), (lu, .inl (cL, nl, .inl fl))] sz) := by
  refine Met.ofW (cc := cX5_spreadAlong) (maxL := 11) (ret := (some .int)) pn_X5 rfl ?_
  intro p e s m args below meth c s₁ B hml hv
  obtain ⟨rfl, hsz, hP, hK, hD0, hN⟩ := hv
  have hx := B.exec
  have hb := B.bytes
  have hr := B.returns
  have hts := atoms_spec (ws := uX5_spreadAlong) B.pre
  have hown : s.vm.findClass RX5 = some m.cls := hown_of B.named rfl
  have hlocks := B.notSynchronized
  subst hsz
  have hD := hD0.self (sz := s.heap.size)
  generalize hAe : va_A [(se, .inr (4, [.ref qa, .ref qf, .ref qg])), (qa, .inl (cQ, nq, .inl fq)), (qf, .inl (cR, nr, .inl fr)), (qg, .inl (cH, ng, .inl fh)), (cu, .inr (1, [.int ln, .int bs, .int tk, .int lw, .int li, .ref fa, .ref lu])), (lu, .inl (cL, nl, .inl fl))] s.heap.size = A at hD ⊢
  have hA : ∀ q : Nat, s.heap.size ≤ q → A q := fun q h => by rw [← hAe]; exact Or.inr h
  have hS : va_S A s.heap s.heap [] := va_S.rf
  have hP : va_P (dC, dI) vwCl [(se, .inr (4, [.ref qa, .ref qf, .ref qg])), (qa, .inl (cQ, nq, .inl fq)), (qf, .inl (cR, nr, .inl fr)), (qg, .inl (cH, ng, .inl fh)), (cu, .inr (1, [.int ln, .int bs, .int tk, .int lw, .int li, .ref fa, .ref lu])), (lu, .inl (cL, nl, .inl fl))] s.heap := hP
  have hl := lv_entry ([.ref se, .ref cu, .int a2, .int a3, .int a4, .int a5, .int a6]) (n := 11) (Nat.le_of_ble_eq_true rfl)
  rw [lg_entry_eq]
  generalize (lg_sl ([.ref se, .ref cu, .int a2, .int a3, .int a4, .int a5, .int a6]) ++ List.replicate (11 - (lg_sl ([.ref se, .ref cu, .int a2, .int a3, .int a4, .int a5, .int a6])).length) Slot.unset).toArray = ls at hl ⊢
  have hl : lv_has ls 11 [(0, .ref se), (1, .ref cu), (2, .int a2), (3, .int a3), (4, .int a4), (5, .int a5), (6, .int a6)] := hl
  refine lv_iload hx hb dX5_spreadAlong_0 (lv_at hl 6 rfl) ?_
  refine lv_istore (lv' := [(7, .int a6), (0, .ref se), (1, .ref cu), (2, .int a2), (3, .int a3), (4, .int a4), (5, .int a5), (6, .int a6)]) hx hb dX5_spreadAlong_2 hl (by decide) rfl (fun ls hl => ?_)
  refine lv_aload_n hx hb dX5_spreadAlong_4 rfl (lv_at hl 1 rfl) ?_
  refine lv_iload_n hx hb dX5_spreadAlong_5 rfl (lv_at hl 4 rfl) ?_
  refine vp_callSi (W.runV (As := [.int a3]) (rest := []) ⟨hx, hb, hml, hown, hts⟩ (kX5_changesTo l dC dI se qa qf qg cQ nq fq cR nr fr cH ng fh a3 (by omega) (by omega) (by omega)) (cwV 1 hts gX5_spreadAlong__X5_changesTo_V44 rfl rfl rfl hd_yX5_changesTo ⟨lel 1 2 rfl, lel 21 42 rfl⟩) ⟨pw_fb, rcv_X5 hK hP (q0 := 0) rfl, (pw_use hP hK hN [0, 1, 2, 3] rfl [0, 1, 2] rfl)⟩ rfl rfl hl.1 rfl (lv_room (Nat.le_of_ble_eq_true rfl)) dX5_spreadAlong_6 ⟨lel 0 0 rfl, lel 0 0 rfl⟩) (fun r_128 h_r_128 => ?_)
  refine lv_iconst (v := 2) hx hb dX5_spreadAlong_9 (by decide) ?_
  refine lv_iadd hx hb dX5_spreadAlong_10 ?_
  refine lv_topi (fun z_129 e_z_129 => ?_)
  refine lv_istore (lv' := [(8, .int z_129), (7, .int a6), (0, .ref se), (1, .ref cu), (2, .int a2), (3, .int a3), (4, .int a4), (5, .int a5), (6, .int a6)]) hx hb dX5_spreadAlong_11 hl (by decide) rfl (fun ls hl => ?_)
  refine lv_iload hx hb dX5_spreadAlong_13 (lv_at hl 6 rfl) ?_
  refine lv_istore (lv' := [(9, .int a4), (8, .int z_129), (7, .int a6), (0, .ref se), (1, .ref cu), (2, .int a2), (3, .int a3), (4, .int a4), (5, .int a5), (6, .int a6)]) hx hb dX5_spreadAlong_15 hl (by decide) rfl (fun ls hl => ?_)
  refine lv_iconst (v := 0) hx hb dX5_spreadAlong_17 (by decide) ?_
  refine lv_istore (lv' := [(10, .int 0), (9, .int a4), (8, .int z_129), (7, .int a6), (0, .ref se), (1, .ref cu), (2, .int a2), (3, .int a3), (4, .int a4), (5, .int a5), (6, .int a6)]) hx hb dX5_spreadAlong_18 hl (by decide) rfl (fun ls hl => ?_)
  refine loopW (σ := Int32 × Int32 × Int32 × (Nat → Int32) × (Nat → Int32)) (fun v => (16 - v.1.toInt).toNat) (fun v H locs ls => ((0 : Int) ≤ v.1.toInt ∧ v.1.toInt ≤ 16) ∧ va_P (dC, dI) vwCl [(se, .inr (4, [.ref qa, .ref qf, .ref qg])), (qa, .inl (cQ, nq, .inl v.2.2.2.1)), (qf, .inl (cR, nr, .inl v.2.2.2.2)), (qg, .inl (cH, ng, .inl fh)), (cu, .inr (1, [.int ln, .int bs, .int tk, .int lw, .int li, .ref fa, .ref lu])), (lu, .inl (cL, nl, .inl fl))] H ∧ va_D A [(se, .inr (4, [.ref qa, .ref qf, .ref qg])), (qa, .inl (cQ, nq, .inl v.2.2.2.1)), (qf, .inl (cR, nr, .inl v.2.2.2.2)), (qg, .inl (cH, ng, .inl fh)), (cu, .inr (1, [.int ln, .int bs, .int tk, .int lw, .int li, .ref fa, .ref lu])), (lu, .inl (cL, nl, .inl fl))] ∧ va_S A s.heap H locs ∧ lv_has ls 11 [(10, .int v.1), (9, .int v.2.1), (8, .int z_129), (7, .int v.2.2.1), (0, .ref se), (1, .ref cu), (2, .int a2), (3, .int a3), (4, .int a4), (5, .int a5), (6, .int a6)]) (fun v H locs ls hI ih_20_234 => ?_) ((0 : Int32), a4, a6, fq, fr) ⟨(show (0 : Int) ≤ (0 : Int32).toInt ∧ (0 : Int32).toInt ≤ 16 from (rg_w (by decide : (0 : Int) ≤ (0 : Int32).toInt ∧ (0 : Int32).toInt ≤ 0) (by decide) (by decide))), hP, hD, hS, lv_sub hl [0, 1, 2, 3, 4, 5, 6, 7, 8, 9, 10] rfl⟩
  obtain ⟨y_150, y_151, y_152, f_153, f_154⟩ := v
  obtain ⟨b_y_150, hP, hD, hS, hl⟩ := hI
  have b_y_150 : (0 : Int) ≤ y_150.toInt ∧ y_150.toInt ≤ 16 := b_y_150
  have hP : va_P (dC, dI) vwCl [(se, .inr (4, [.ref qa, .ref qf, .ref qg])), (qa, .inl (cQ, nq, .inl f_153)), (qf, .inl (cR, nr, .inl f_154)), (qg, .inl (cH, ng, .inl fh)), (cu, .inr (1, [.int ln, .int bs, .int tk, .int lw, .int li, .ref fa, .ref lu])), (lu, .inl (cL, nl, .inl fl))] H := hP
  have hD : va_D A [(se, .inr (4, [.ref qa, .ref qf, .ref qg])), (qa, .inl (cQ, nq, .inl f_153)), (qf, .inl (cR, nr, .inl f_154)), (qg, .inl (cH, ng, .inl fh)), (cu, .inr (1, [.int ln, .int bs, .int tk, .int lw, .int li, .ref fa, .ref lu])), (lu, .inl (cL, nl, .inl fl))] := hD
  have hl : lv_has ls 11 [(10, .int y_150), (9, .int y_151), (8, .int z_129), (7, .int y_152), (0, .ref se), (1, .ref cu), (2, .int a2), (3, .int a3), (4, .int a4), (5, .int a5), (6, .int a6)] := hl
  refine lv_iload hx hb dX5_spreadAlong_20 (lv_at hl 0 rfl) ?_
  refine lv_aload_n hx hb dX5_spreadAlong_22 rfl (lv_at hl 5 rfl) ?_
  refine va_getN (own := RX5) (index := 56) (ref := RX2) (host := RX9) (D := (dC, dI)) (ci := 1) (v := .int bs) (C := RX2) (T := TX2) (N := 7) hx hb hts iX5_spreadAlong_X2 hown hK hP 4 rfl rfl 1 (by decide) (va_Nw.use rfl (hN _ (List.mem_of_getElem? (i := 15) rfl))) (fun _ h9 => h9) rfl dX5_spreadAlong_23 ?_
  refine lv_icmp_ge (tgt := 73) hx hb dX5_spreadAlong_26 (by decide) (fun c_235 => ?_) (fun c_235 => ?_)
  ·
    have n_c_235 : (bs.toInt : Int) ≤ y_150.toInt := c_ge rfl rfl c_235
    refine lv_iload hx hb dX5_spreadAlong_73 (lv_at hl 3 rfl) ?_
    have hP9 := hP.sub (ws' := [(se, .inr (4, [.ref qa, .ref qf, .ref qg])), (qa, .inl (cQ, nq, .inl f_153)), (qf, .inl (cR, nr, .inl f_154)), (qg, .inl (cH, ng, .inl fh)), (cu, .inr (1, [.int ln, .int bs, .int tk, .int lw, .int li, .ref fa, .ref lu])), (lu, .inl (cL, nl, .inl fl))]) [0, 1, 2, 3, 4, 5] rfl
    have hD9 := hD.sub (ws' := [(se, .inr (4, [.ref qa, .ref qf, .ref qg])), (qa, .inl (cQ, nq, .inl f_153)), (qf, .inl (cR, nr, .inl f_154)), (qg, .inl (cH, ng, .inl fh)), (cu, .inr (1, [.int ln, .int bs, .int tk, .int lw, .int li, .ref fa, .ref lu])), (lu, .inl (cL, nl, .inl fl))]) [0, 1, 2, 3, 4, 5] (by decide) rfl
    have hK9 := hK.sub (tys' := [(cQ, .int), (cR, .int), (cH, .byte), (cL, .int)]) [0, 1, 2, 3] rfl
    exact W.iret (v := y_152) hx hb hr (fun t ht hW => ⟨⟨y_152, (), rfl, trivial, f_153, f_154, by rw [ht]; exact hP9, va_K.moved hW.alike hK9, hD9⟩, hS.F ht⟩) hS.2.2 dX5_spreadAlong_75
  ·
    have n_c_235 : (y_150.toInt : Int) < bs.toInt := c_nge rfl rfl c_235
    have b_y_150 : (0 : Int) ≤ y_150.toInt ∧ y_150.toInt ≤ 15 := r_lt1 b_y_150 b_bs n_c_235 (by decide)
    have b_bs : (1 : Int) ≤ bs.toInt ∧ bs.toInt ≤ 16 := r_lt2 b_y_150 b_bs n_c_235 (by decide)
    refine lv_aload_n hx hb dX5_spreadAlong_29 rfl (lv_at hl 5 rfl) ?_
    refine lv_iload_n hx hb dX5_spreadAlong_30 rfl (lv_at hl 6 rfl) ?_
    refine lv_iload hx hb dX5_spreadAlong_31 (lv_at hl 1 rfl) ?_
    refine vp_callSi (W.runV (As := [.int a2, .int y_151]) (rest := []) ⟨hx, hb, hml, hown, hts⟩ (kX2_isLucky l dC dI cu ln bs tk lw li fa lu cL nl fl a2 y_151 b_ln (rg_w b_bs (by decide) (by decide)) b_tk b_lw (by omega)) (cwV 2 hts gX5_spreadAlong__X2_isLucky_V63 rfl rfl rfl hd_yX2_isLucky ⟨lel 1 2 rfl, lel 22 42 rfl⟩) ⟨pw_fb, rcv_X2 hK hP (q0 := 4) rfl, (pw_use hP hK hN [4, 5] rfl [3] rfl)⟩ rfl rfl hl.1 rfl (lv_room (Nat.le_of_ble_eq_true rfl)) dX5_spreadAlong_33 ⟨lel 0 0 rfl, lel 0 0 rfl⟩) (fun r_236 h_r_236 => ?_)
    have b_r_236 := h_r_236
    have b_r_236 : (0 : Int) ≤ r_236.toInt ∧ r_236.toInt ≤ 1 := b_r_236
    refine cutW (σ := Int32 × (Nat → Int32) × (Nat → Int32)) (pc2 := 60) (st2 := fun v => []) (cells2 := 0) (slots2 := 0) (fun v H locs ls => va_P (dC, dI) vwCl [(se, .inr (4, [.ref qa, .ref qf, .ref qg])), (qa, .inl (cQ, nq, .inl v.2.1)), (qf, .inl (cR, nr, .inl v.2.2)), (qg, .inl (cH, ng, .inl fh)), (cu, .inr (1, [.int ln, .int bs, .int tk, .int lw, .int li, .ref fa, .ref lu])), (lu, .inl (cL, nl, .inl fl))] H ∧ va_D A [(se, .inr (4, [.ref qa, .ref qf, .ref qg])), (qa, .inl (cQ, nq, .inl v.2.1)), (qf, .inl (cR, nr, .inl v.2.2)), (qg, .inl (cH, ng, .inl fh)), (cu, .inr (1, [.int ln, .int bs, .int tk, .int lw, .int li, .ref fa, .ref lu])), (lu, .inl (cL, nl, .inl fl))] ∧ va_S A s.heap H locs ∧ lv_has ls 11 [(10, .int y_150), (9, .int y_151), (8, .int z_129), (7, .int v.1), (0, .ref se), (1, .ref cu), (2, .int a2), (3, .int a3), (4, .int a4), (5, .int a5), (6, .int a6)]) (fun v H locs ls hI => ?_) (fun hj_60_246 => ?_)
    ·
      obtain ⟨y_244, f_245, f_246⟩ := v
      obtain ⟨hP, hD, hS, hl⟩ := hI
      have hP : va_P (dC, dI) vwCl [(se, .inr (4, [.ref qa, .ref qf, .ref qg])), (qa, .inl (cQ, nq, .inl f_245)), (qf, .inl (cR, nr, .inl f_246)), (qg, .inl (cH, ng, .inl fh)), (cu, .inr (1, [.int ln, .int bs, .int tk, .int lw, .int li, .ref fa, .ref lu])), (lu, .inl (cL, nl, .inl fl))] H := hP
      have hD : va_D A [(se, .inr (4, [.ref qa, .ref qf, .ref qg])), (qa, .inl (cQ, nq, .inl f_245)), (qf, .inl (cR, nr, .inl f_246)), (qg, .inl (cH, ng, .inl fh)), (cu, .inr (1, [.int ln, .int bs, .int tk, .int lw, .int li, .ref fa, .ref lu])), (lu, .inl (cL, nl, .inl fl))] := hD
      have hl : lv_has ls 11 [(10, .int y_150), (9, .int y_151), (8, .int z_129), (7, .int y_244), (0, .ref se), (1, .ref cu), (2, .int a2), (3, .int a3), (4, .int a4), (5, .int a5), (6, .int a6)] := hl
      refine lv_iload hx hb dX5_spreadAlong_60 (lv_at hl 1 rfl) ?_
      refine lv_iload hx hb dX5_spreadAlong_62 (lv_at hl 9 rfl) ?_
      refine lv_iadd hx hb dX5_spreadAlong_64 ?_
      refine lv_topi (fun z_247 e_z_247 => ?_)
      refine lv_istore (lv' := [(9, .int z_247), (10, .int y_150), (8, .int z_129), (7, .int y_244), (0, .ref se), (1, .ref cu), (2, .int a2), (3, .int a3), (4, .int a4), (5, .int a5), (6, .int a6)]) hx hb dX5_spreadAlong_65 hl (by decide) rfl (fun ls hl => ?_)
      obtain ⟨z_248, e_z_248⟩ : ∃ y : Int32, y = y_150 + 1 := ⟨_, rfl⟩
      refine lv_iinc (v := z_248) (lv' := [(10, .int z_248), (9, .int z_247), (8, .int z_129), (7, .int y_244), (0, .ref se), (1, .ref cu), (2, .int a2), (3, .int a3), (4, .int a4), (5, .int a5), (6, .int a6)]) hx hb dX5_spreadAlong_67 hl (k := 1) rfl (by rw [e_z_248]; rfl) (by decide) rfl (fun ls hl => ?_)
      obtain ⟨q_z_248, b_z_248⟩ := ti_add (lo := 1) (hi := 16) e_z_248 rfl (by decide : (1 : Int32).toInt = 1) b_y_150 (by decide : (1 : Int) ≤ (1 : Int32).toInt ∧ (1 : Int32).toInt ≤ 1) (by decide)
      refine lv_goto (tgt := 20) hx hb dX5_spreadAlong_70 (by decide) ?_
      exact ih_20_234 (z_248, z_247, y_244, f_245, f_246) _ _ _ ⟨(show (0 : Int) ≤ z_248.toInt ∧ z_248.toInt ≤ 16 from (rg_w b_z_248 (by decide) (by decide))), hP, hD, hS, lv_sub hl [0, 1, 2, 3, 4, 5, 6, 7, 8, 9, 10] rfl⟩ (show (16 - z_248.toInt).toNat < (16 - y_150.toInt).toNat by omega)
    ·
      refine lv_if_eq (tgt := 60) hx hb dX5_spreadAlong_36 (by decide) (fun c_237 => ?_) (fun c_237 => ?_)
      ·
        have n_c_237 : (r_236.toInt : Int) = 0 := c_eq rfl (by decide) c_237
        have b_r_236 : (0 : Int) ≤ r_236.toInt ∧ r_236.toInt ≤ 0 := r_eq1 b_r_236 (by decide : (0 : Int) ≤ (0 : Int32).toInt ∧ (0 : Int32).toInt ≤ 0) n_c_237 (by decide)
        exact hj_60_246 (y_152, f_153, f_154) _ _ _ ⟨hP, hD, hS, lv_sub hl [0, 1, 2, 3, 4, 5, 6, 7, 8, 9, 10] rfl⟩
      ·
        have n_c_237 : (r_236.toInt : Int) ≠ 0 := c_ne rfl (by decide) c_237
        have b_r_236 : (1 : Int) ≤ r_236.toInt ∧ r_236.toInt ≤ 1 := r_ne1 b_r_236 (by decide : (0 : Int) ≤ (0 : Int32).toInt ∧ (0 : Int32).toInt ≤ 0) n_c_237 (by decide)
        refine lv_aload_n hx hb dX5_spreadAlong_39 rfl (lv_at hl 4 rfl) ?_
        refine lv_iload hx hb dX5_spreadAlong_40 (lv_at hl 1 rfl) ?_
        refine vp_callSi (W.runV (As := [.int y_151]) (rest := []) ⟨hx, hb, hml, hown, hts⟩ (kX5_isReached l dC dI se qa qf qg cQ nq f_153 cR nr f_154 cH ng fh y_151 (by omega) (by omega) (by omega)) (cwV 1 hts gX5_spreadAlong__X5_isReached_V67 rfl rfl rfl hd_yX5_isReached ⟨lel 2 2 rfl, lel 42 42 rfl⟩) ⟨pw_fb, rcv_X5 hK hP (q0 := 0) rfl, (pw_use hP hK hN [0, 1, 2, 3] rfl [0, 1, 2] rfl)⟩ rfl rfl hl.1 rfl (lv_room (Nat.le_of_ble_eq_true rfl)) dX5_spreadAlong_42 ⟨lel 0 0 rfl, lel 0 0 rfl⟩) (fun r_249 h_r_249 => ?_)
        have b_r_249 := h_r_249
        have b_r_249 : (0 : Int) ≤ r_249.toInt ∧ r_249.toInt ≤ 1 := b_r_249
        refine lv_if_ne (tgt := 60) hx hb dX5_spreadAlong_45 (by decide) (fun c_250 => ?_) (fun c_250 => ?_)
        ·
          have n_c_250 : (r_249.toInt : Int) ≠ 0 := c_ne rfl (by decide) c_250
          have b_r_249 : (1 : Int) ≤ r_249.toInt ∧ r_249.toInt ≤ 1 := r_ne1 b_r_249 (by decide : (0 : Int) ≤ (0 : Int32).toInt ∧ (0 : Int32).toInt ≤ 0) n_c_250 (by decide)
          exact hj_60_246 (y_152, f_153, f_154) _ _ _ ⟨hP, hD, hS, lv_sub hl [0, 1, 2, 3, 4, 5, 6, 7, 8, 9, 10] rfl⟩
        ·
          have n_c_250 : (r_249.toInt : Int) = 0 := c_eq rfl (by decide) c_250
          have b_r_249 : (0 : Int) ≤ r_249.toInt ∧ r_249.toInt ≤ 0 := r_eq1 b_r_249 (by decide : (0 : Int) ≤ (0 : Int32).toInt ∧ (0 : Int32).toInt ≤ 0) n_c_250 (by decide)
          refine lv_aload_n hx hb dX5_spreadAlong_48 rfl (lv_at hl 4 rfl) ?_
          refine lv_iload hx hb dX5_spreadAlong_49 (lv_at hl 1 rfl) ?_
          refine lv_iload hx hb dX5_spreadAlong_51 (lv_at hl 2 rfl) ?_
          refine lv_iload hx hb dX5_spreadAlong_53 (lv_at hl 3 rfl) ?_
          have hFc := va_free (wc := [(se, .inr (4, [.ref qa, .ref qf, .ref qg])), (qa, .inl (cQ, nq, .inl f_153)), (qf, .inl (cR, nr, .inl f_154)), (qg, .inl (cH, ng, .inl fh))]) hD hS hA [0, 1, 2, 3] rfl
          refine va_calli (va_runV (As := [.int y_151, .int z_129, .int y_152]) (rest := []) ⟨hx, hb, hml, hown, hts⟩ (kX5_reach l dC dI se qa qf qg cQ nq f_153 cR nr f_154 cH ng fh y_151 z_129 y_152 (H.size) (by omega) (by omega) (by omega)) (cwV 3 hts gX5_spreadAlong__X5_reach_V48 rfl rfl rfl hd_yX5_reach ⟨lel 1 2 rfl, lel 23 42 rfl⟩) ⟨hw_fb, rcv_X5 hK hP (q0 := 0) rfl, (hw_use hP hD hK hN [0, 1, 2, 3] rfl (by decide) rfl [0, 1, 2] rfl)⟩ rfl rfl hl.1 rfl (lv_room (Nat.le_of_ble_eq_true rfl)) dX5_spreadAlong_55 ⟨lel 0 0 rfl, lel 0 0 rfl⟩) hS (fun q _ h => hFc q h) hFc (fun r_251 u_252 t H1 locs ht hvm hw_r_251 hB hz1 hk1 hS => ?_)
          obtain ⟨o0_253, o1_254, hP1, hK1, hD1⟩ := hB
          rw [ht] at hP1
          have hK1 := va_K.moved hvm.symm hK1
          obtain ⟨hP, hD⟩ := va_join (wr := [(cu, .inr (1, [.int ln, .int bs, .int tk, .int lw, .int li, .ref fa, .ref lu])), (lu, .inl (cL, nl, .inl fl))]) (w1 := [(se, .inr (4, [.ref qa, .ref qf, .ref qg])), (qa, .inl (cQ, nq, .inl o0_253)), (qf, .inl (cR, nr, .inl o1_254)), (qg, .inl (cH, ng, .inl fh))]) hP hD [0, 1, 2, 3] [4, 5] rfl rfl (by decide) (by decide) hk1 hFc hP1 hD1
          have hK := (hK.sub (tys' := [(cL, .int)]) [3] rfl).app hK1
          generalize H1 = H at hP hS ⊢
          have hP := hP.sub (ws' := [(se, .inr (4, [.ref qa, .ref qf, .ref qg])), (qa, .inl (cQ, nq, .inl o0_253)), (qf, .inl (cR, nr, .inl o1_254)), (qg, .inl (cH, ng, .inl fh)), (cu, .inr (1, [.int ln, .int bs, .int tk, .int lw, .int li, .ref fa, .ref lu])), (lu, .inl (cL, nl, .inl fl))]) [2, 3, 4, 5, 0, 1] rfl
          have hD := hD.sub (ws' := [(se, .inr (4, [.ref qa, .ref qf, .ref qg])), (qa, .inl (cQ, nq, .inl o0_253)), (qf, .inl (cR, nr, .inl o1_254)), (qg, .inl (cH, ng, .inl fh)), (cu, .inr (1, [.int ln, .int bs, .int tk, .int lw, .int li, .ref fa, .ref lu])), (lu, .inl (cL, nl, .inl fl))]) [2, 3, 4, 5, 0, 1] (by decide) rfl
          have hK := hK.sub (tys' := [(cQ, .int), (cR, .int), (cH, .byte), (cL, .int)]) [1, 2, 3, 0] rfl
          have hP : va_P (dC, dI) vwCl [(se, .inr (4, [.ref qa, .ref qf, .ref qg])), (qa, .inl (cQ, nq, .inl o0_253)), (qf, .inl (cR, nr, .inl o1_254)), (qg, .inl (cH, ng, .inl fh)), (cu, .inr (1, [.int ln, .int bs, .int tk, .int lw, .int li, .ref fa, .ref lu])), (lu, .inl (cL, nl, .inl fl))] H := hP
          have hD : va_D A [(se, .inr (4, [.ref qa, .ref qf, .ref qg])), (qa, .inl (cQ, nq, .inl o0_253)), (qf, .inl (cR, nr, .inl o1_254)), (qg, .inl (cH, ng, .inl fh)), (cu, .inr (1, [.int ln, .int bs, .int tk, .int lw, .int li, .ref fa, .ref lu])), (lu, .inl (cL, nl, .inl fl))] := hD
          have hK : va_K (dC, dI) vwCl [(cQ, .int), (cR, .int), (cH, .byte), (cL, .int)] s := hK
          refine lv_istore (lv' := [(7, .int r_251), (10, .int y_150), (9, .int y_151), (8, .int z_129), (0, .ref se), (1, .ref cu), (2, .int a2), (3, .int a3), (4, .int a4), (5, .int a5), (6, .int a6)]) hx hb dX5_spreadAlong_58 hl (by decide) rfl (fun ls hl => ?_)
          exact hj_60_246 (r_251, o0_253, o1_254) _ _ _ ⟨hP, hD, hS, lv_sub hl [1, 2, 3, 0, 4, 5, 6, 7, 8, 9, 10] rfl⟩
theorem dX5_spreadAround_0 : decode cX5_spreadAround 0 = .ok (.iload 4, 2) := by decide +kernel
theorem dX5_spreadAround_2 : decode cX5_spreadAround 2 = .ok (.istore 5, 2) := by decide +kernel
theorem dX5_spreadAround_4 : decode cX5_spreadAround 4 = .ok (.aload_n 1, 1) := by decide +kernel
theorem dX5_spreadAround_5 : decode cX5_spreadAround 5 = .ok (.getfield 56, 3) := by decide +kernel
theorem dX5_spreadAround_8 : decode cX5_spreadAround 8 = .ok (.istore 6, 2) := by decide +kernel
theorem dX5_spreadAround_10 : decode cX5_spreadAround 10 = .ok (.aload_n 1, 1) := by decide +kernel
theorem dX5_spreadAround_11 : decode cX5_spreadAround 11 = .ok (.invokevirtual 37, 3) := by decide +kernel
theorem dX5_spreadAround_14 : decode cX5_spreadAround 14 = .ok (.istore 7, 2) := by decide +kernel
theorem dX5_spreadAround_16 : decode cX5_spreadAround 16 = .ok (.iconst 1, 1) := by decide +kernel
theorem dX5_spreadAround_17 : decode cX5_spreadAround 17 = .ok (.istore 8, 2) := by decide +kernel
theorem dX5_spreadAround_19 : decode cX5_spreadAround 19 = .ok (.iconst 0, 1) := by decide +kernel
theorem dX5_spreadAround_20 : decode cX5_spreadAround 20 = .ok (.istore 9, 2) := by decide +kernel
theorem dX5_spreadAround_22 : decode cX5_spreadAround 22 = .ok (.iload 9, 2) := by decide +kernel
theorem dX5_spreadAround_24 : decode cX5_spreadAround 24 = .ok (.aload_n 1, 1) := by decide +kernel
theorem dX5_spreadAround_25 : decode cX5_spreadAround 25 = .ok (.getfield 34, 3) := by decide +kernel
theorem dX5_spreadAround_28 : decode cX5_spreadAround 28 = .ok (.if_icmp .ge 115, 3) := by decide +kernel
theorem dX5_spreadAround_31 : decode cX5_spreadAround 31 = .ok (.iload 8, 2) := by decide +kernel
theorem dX5_spreadAround_33 : decode cX5_spreadAround 33 = .ok (.ifCond .le 110, 3) := by decide +kernel
theorem dX5_spreadAround_36 : decode cX5_spreadAround 36 = .ok (.iload 6, 2) := by decide +kernel
theorem dX5_spreadAround_38 : decode cX5_spreadAround 38 = .ok (.iconst 1, 1) := by decide +kernel
theorem dX5_spreadAround_39 : decode cX5_spreadAround 39 = .ok (.if_icmp .le 104, 3) := by decide +kernel
theorem dX5_spreadAround_42 : decode cX5_spreadAround 42 = .ok (.iload_n 3, 1) := by decide +kernel
theorem dX5_spreadAround_43 : decode cX5_spreadAround 43 = .ok (.iload 8, 2) := by decide +kernel
theorem dX5_spreadAround_45 : decode cX5_spreadAround 45 = .ok (.idiv, 1) := by decide +kernel
theorem dX5_spreadAround_46 : decode cX5_spreadAround 46 = .ok (.iload 6, 2) := by decide +kernel
theorem dX5_spreadAround_48 : decode cX5_spreadAround 48 = .ok (.idiv, 1) := by decide +kernel
theorem dX5_spreadAround_49 : decode cX5_spreadAround 49 = .ok (.istore 10, 2) := by decide +kernel
theorem dX5_spreadAround_51 : decode cX5_spreadAround 51 = .ok (.iload_n 3, 1) := by decide +kernel
theorem dX5_spreadAround_52 : decode cX5_spreadAround 52 = .ok (.iload 8, 2) := by decide +kernel
theorem dX5_spreadAround_54 : decode cX5_spreadAround 54 = .ok (.irem, 1) := by decide +kernel
theorem dX5_spreadAround_55 : decode cX5_spreadAround 55 = .ok (.istore 11, 2) := by decide +kernel
theorem dX5_spreadAround_57 : decode cX5_spreadAround 57 = .ok (.iload 9, 2) := by decide +kernel
theorem dX5_spreadAround_59 : decode cX5_spreadAround 59 = .ok (.iload 7, 2) := by decide +kernel
theorem dX5_spreadAround_61 : decode cX5_spreadAround 61 = .ok (.imul, 1) := by decide +kernel
theorem dX5_spreadAround_62 : decode cX5_spreadAround 62 = .ok (.iload 10, 2) := by decide +kernel
theorem dX5_spreadAround_64 : decode cX5_spreadAround 64 = .ok (.iload 8, 2) := by decide +kernel
theorem dX5_spreadAround_66 : decode cX5_spreadAround 66 = .ok (.imul, 1) := by decide +kernel
theorem dX5_spreadAround_67 : decode cX5_spreadAround 67 = .ok (.iadd, 1) := by decide +kernel
theorem dX5_spreadAround_68 : decode cX5_spreadAround 68 = .ok (.iload 11, 2) := by decide +kernel
theorem dX5_spreadAround_70 : decode cX5_spreadAround 70 = .ok (.iadd, 1) := by decide +kernel
theorem dX5_spreadAround_71 : decode cX5_spreadAround 71 = .ok (.istore 12, 2) := by decide +kernel
theorem dX5_spreadAround_73 : decode cX5_spreadAround 73 = .ok (.iload 12, 2) := by decide +kernel
theorem dX5_spreadAround_75 : decode cX5_spreadAround 75 = .ok (.ifCond .lt 55, 3) := by decide +kernel
theorem dX5_spreadAround_78 : decode cX5_spreadAround 78 = .ok (.iload 12, 2) := by decide +kernel
theorem dX5_spreadAround_80 : decode cX5_spreadAround 80 = .ok (.aload_n 0, 1) := by decide +kernel
theorem dX5_spreadAround_81 : decode cX5_spreadAround 81 = .ok (.getfield 18, 3) := by decide +kernel
theorem dX5_spreadAround_84 : decode cX5_spreadAround 84 = .ok (.arraylength, 1) := by decide +kernel
theorem dX5_spreadAround_85 : decode cX5_spreadAround 85 = .ok (.if_icmp .ge 45, 3) := by decide +kernel
theorem dX5_spreadAround_88 : decode cX5_spreadAround 88 = .ok (.aload_n 0, 1) := by decide +kernel
theorem dX5_spreadAround_89 : decode cX5_spreadAround 89 = .ok (.getfield 18, 3) := by decide +kernel
theorem dX5_spreadAround_92 : decode cX5_spreadAround 92 = .ok (.iload 12, 2) := by decide +kernel
theorem dX5_spreadAround_94 : decode cX5_spreadAround 94 = .ok (.baload, 1) := by decide +kernel
theorem dX5_spreadAround_95 : decode cX5_spreadAround 95 = .ok (.ifCond .ne 35, 3) := by decide +kernel
theorem dX5_spreadAround_98 : decode cX5_spreadAround 98 = .ok (.aload_n 0, 1) := by decide +kernel
theorem dX5_spreadAround_99 : decode cX5_spreadAround 99 = .ok (.getfield 18, 3) := by decide +kernel
theorem dX5_spreadAround_102 : decode cX5_spreadAround 102 = .ok (.iload 12, 2) := by decide +kernel
theorem dX5_spreadAround_104 : decode cX5_spreadAround 104 = .ok (.iconst 1, 1) := by decide +kernel
theorem dX5_spreadAround_105 : decode cX5_spreadAround 105 = .ok (.bastore, 1) := by decide +kernel
theorem dX5_spreadAround_106 : decode cX5_spreadAround 106 = .ok (.aload_n 0, 1) := by decide +kernel
theorem dX5_spreadAround_107 : decode cX5_spreadAround 107 = .ok (.aload_n 1, 1) := by decide +kernel
theorem dX5_spreadAround_108 : decode cX5_spreadAround 108 = .ok (.iload_n 2, 1) := by decide +kernel
theorem dX5_spreadAround_109 : decode cX5_spreadAround 109 = .ok (.iload_n 3, 1) := by decide +kernel
theorem dX5_spreadAround_110 : decode cX5_spreadAround 110 = .ok (.iload 10, 2) := by decide +kernel
theorem dX5_spreadAround_112 : decode cX5_spreadAround 112 = .ok (.iload 6, 2) := by decide +kernel
theorem dX5_spreadAround_114 : decode cX5_spreadAround 114 = .ok (.imul, 1) := by decide +kernel
theorem dX5_spreadAround_115 : decode cX5_spreadAround 115 = .ok (.iload 8, 2) := by decide +kernel
theorem dX5_spreadAround_117 : decode cX5_spreadAround 117 = .ok (.imul, 1) := by decide +kernel
theorem dX5_spreadAround_118 : decode cX5_spreadAround 118 = .ok (.iload 11, 2) := by decide +kernel
theorem dX5_spreadAround_120 : decode cX5_spreadAround 120 = .ok (.iadd, 1) := by decide +kernel
theorem dX5_spreadAround_121 : decode cX5_spreadAround 121 = .ok (.iload 8, 2) := by decide +kernel
theorem dX5_spreadAround_123 : decode cX5_spreadAround 123 = .ok (.iload 5, 2) := by decide +kernel
theorem dX5_spreadAround_125 : decode cX5_spreadAround 125 = .ok (.invokevirtual 59, 3) := by decide +kernel
theorem dX5_spreadAround_128 : decode cX5_spreadAround 128 = .ok (.istore 5, 2) := by decide +kernel
theorem dX5_spreadAround_130 : decode cX5_spreadAround 130 = .ok (.iload 8, 2) := by decide +kernel
theorem dX5_spreadAround_132 : decode cX5_spreadAround 132 = .ok (.iload 6, 2) := by decide +kernel
theorem dX5_spreadAround_134 : decode cX5_spreadAround 134 = .ok (.imul, 1) := by decide +kernel
theorem dX5_spreadAround_135 : decode cX5_spreadAround 135 = .ok (.istore 8, 2) := by decide +kernel
theorem dX5_spreadAround_137 : decode cX5_spreadAround 137 = .ok (.iinc 9 1, 3) := by decide +kernel
theorem dX5_spreadAround_140 : decode cX5_spreadAround 140 = .ok (.goto (-118), 3) := by decide +kernel
theorem dX5_spreadAround_143 : decode cX5_spreadAround 143 = .ok (.iload 5, 2) := by decide +kernel
theorem dX5_spreadAround_145 : decode cX5_spreadAround 145 = .ok (.ireturn, 1) := by decide +kernel
theorem hd_yX5_spreadAround : yX5_spreadAround.cls = RX5 ∧ yX5_spreadAround.cls ≠ "java/lang/invoke/MethodHandle" ∧ yX5_spreadAround.cls ≠ "java/lang/invoke/VarHandle" ∧ (parseMethodDescriptor yX5_spreadAround.desc).map (fun d => d.parameters.length) = some 4 := by decide +kernel
def uX5_spreadAround : List Cond := List.cons (.code yX5_spreadAround cX5_spreadAround 13 (some .int)) (HAppend.hAppend ([.methodLink RX5 37 yX2_lineCount, .instanceMethod yX2_lineCount, .selects RX2 yX2_lineCount yX2_lineCount, .initialized RX2, .fieldLink RX5 18 "LuckyTicket$Search" "gone" "[B", .methodLink RX5 59 yX5_spreadAlong, .instanceMethod yX5_spreadAlong, .selects RX5 yX5_spreadAlong yX5_spreadAlong, .initialized RX5] : List Cond) (HAppend.hAppend uX2_lineCount (HAppend.hAppend uX5_spreadAlong (HAppend.hAppend wsX20 wsX50))))
theorem iX5_spreadAround_X2 : ∀ w ∈ wsX20, w ∈ uX5_spreadAround := fun _ h => (List.mem_cons_of_mem _ (List.mem_append_right _ (List.mem_append_right _ (List.mem_append_right _ (List.mem_append_left _ h)))))
theorem iX5_spreadAround_X5 : ∀ w ∈ wsX50, w ∈ uX5_spreadAround := fun _ h => (List.mem_cons_of_mem _ (List.mem_append_right _ (List.mem_append_right _ (List.mem_append_right _ (List.mem_append_right _ h)))))
theorem guX5_spreadAround : GU uX5_spreadAround := gu_cons (gu_app (by decide +kernel) (gu_ap guX2_lineCount (gu_ap guX5_spreadAlong (gu_ap gws_X2 gws_X5))))
theorem gX5_spreadAround__X2_lineCount_V37 : GoodIn uX5_spreadAround (wsV RX5 37 RX2 yX2_lineCount uX2_lineCount) := gin_V (List.mem_of_getElem? (i := 1) rfl) (List.mem_of_getElem? (i := 2) rfl) (List.mem_of_getElem? (i := 3) rfl) (List.mem_of_getElem? (i := 4) rfl) (fun _ h => (List.mem_cons_of_mem _ (List.mem_append_right _ (List.mem_append_left _ h)))) guX2_lineCount
theorem gX5_spreadAround__X5_spreadAlong_V59 : GoodIn uX5_spreadAround (wsV RX5 59 RX5 yX5_spreadAlong uX5_spreadAlong) := gin_V (List.mem_of_getElem? (i := 6) rfl) (List.mem_of_getElem? (i := 7) rfl) (List.mem_of_getElem? (i := 8) rfl) (List.mem_of_getElem? (i := 9) rfl) (fun _ h => (List.mem_cons_of_mem _ (List.mem_append_right _ (List.mem_append_right _ (List.mem_append_left _ h))))) guX5_spreadAlong
set_option maxHeartbeats 4000000 in
set_option maxRecDepth 100000 in
theorem kX5_spreadAround (l : Launch) (dC : Nat → ClassId) (dI : Nat → Nat → Nat) (se : Nat) (qa : Nat) (qf : Nat) (qg : Nat) (cQ : ClassId) (nq : Nat) (fq : Nat → Int32) (cR : ClassId) (nr : Nat) (fr : Nat → Int32) (cH : ClassId) (ng : Nat) (fh : Nat → Int32) (cu : Nat) (ln : Int32) (bs : Int32) (tk : Int32) (lw : Int32) (li : Int32) (fa : Nat) (lu : Nat) (cL : ClassId) (nl : Nat) (fl : Nat → Int32) (a2 : Int32) (a3 : Int32) (a4 : Int32) (sz : Nat) (b_ln : (0 : Int) ≤ ln.toInt ∧ ln.toInt ≤ 12) (b_bs : (0 : Int) ≤ bs.toInt ∧ bs.toInt ≤ 16) (b_tk : (0 : Int) ≤ tk.toInt ∧ tk.toInt ≤ 20000) (b_lw : (0 : Int) ≤ lw.toInt ∧ lw.toInt ≤ 9) (hq1 : nq ≤ 20000) (hq2 : nr ≤ 20000) (hq3 : ng ≤ 200000) (hl1 : tk.toInt ≤ (nl : Int)) : Met l yX5_spreadAround uX5_spreadAround ({ frames := 3, cells := 0, slots := 0, locals := 72 }) (va_Pc [.ref se, .ref cu, .int a2, .int a3, .int a4] (hw (dC, dI) vwCl [(se, .inr (4, [.ref qa, .ref qf, .ref qg])), (qa, .inl (cQ, nq, .inl fq)), (qf, .inl (cR, nr, .inl fr)), (qg, .inl (cH, ng, .inl fh)), (cu, .inr (1, [.int ln, .int bs, .int tk, .int lw, .int li, .ref fa, .ref lu])), (lu, .inl (cL, nl, .inl fl))] [(cQ, .int), (cR, .int), (cH, .byte), (cL, .int)] sz)) (va_Qi (fun (r : Int32) (_ : Unit) => True) (fun (_ : Unit) t => ∃ (o0_ : Nat → Int32) (o1_ : Nat → Int32) (o2_ : Nat → Int32), va_P (dC, dI) vwCl [(se, .inr (4, [.ref qa, .ref qf, .ref qg])), (qa, .inl (cQ, nq, .inl o0_)), (qf, .inl (cR, nr, .inl o1_)), (qg, .inl (cH, ng, .inl o2_)), (cu, .inr (1, [.int ln, .int bs, .int tk, .int lw, .int li, .ref fa, .ref lu])), (lu, .inl (cL, nl, .inl fl))] t.heap ∧ va_K (dC, dI) vwCl [(cQ, .int), (cR, .int), (cH, .byte), (cL, .int)] t ∧ va_D (va_A [(se, .inr (4, [.ref qa, .ref qf, .ref qg])), (qa, .inl (cQ, nq, .inl fq)), (qf, .inl (cR, nr, .inl fr)), (qg, .inl (cH, ng, .inl fh)), (cu, .inr (1, [.int ln, .int bs, .int tk, .int lw, .int li, .ref fa, .ref lu])), (lu, .inl (cL, nl, .inl fl))] sz) [(se, .inr (4, [.ref qa, .ref qf, .ref qg])), (qa, .inl (cQ, nq, .inl o0_)), (qf, .inl (cR, nr, .inl o1_)), (qg, .inl (cH, ng, .inl o2_)), (cu, .inr (1, [.int ln, .int bs, .int tk, .int lw, .int li, .ref fa, .ref lu])), (lu, .inl (cL, nl, .inl fl))]) (va_A [(se, .inr (4, [.ref qa, .ref qf, .ref qg])), (qa, .inl (cQ, nq, .inl fq)), (qf, .inl (cR, nr, .inl fr)), (qg, .inl (cH, ng, .inl fh)), (cu, .inr (1, [.int ln, .int bs, .int tk, .int lw, .int li, .ref fa, .ref lu])), (lu, .inl (cL, nl, .inl fl))] sz)) 0 0 (va_A [(se, .inr (4, [.ref qa, .ref qf, .ref qg])), (qa, .inl (cQ, nq, .inl fq)), (qf, .inl (cR, nr, .inl fr)), (qg, .inl (cH, ng, .inl fh)), (cu, .inr (1, [.int ln, .int bs, .int tk, .int lw, .int li, .ref fa, .ref lu])), (lu, .inl (cL, nl, .inl fl))] sz) := by
  refine Met.ofW (cc := cX5_spreadAround) (maxL := 13) (ret := (some .int)) pn_X5 rfl ?_
  intro p e s m args below meth c s₁ B hml hv
  obtain ⟨rfl, hsz, hP, hK, hD0, hN⟩ := hv
  have hx := B.exec
  have hb := B.bytes
  have hr := B.returns
  have hts := atoms_spec (ws := uX5_spreadAround) B.pre
  have hown : s.vm.findClass RX5 = some m.cls := hown_of B.named rfl
  have hlocks := B.notSynchronized
  subst hsz
  have hD := hD0.self (sz := s.heap.size)
  generalize hAe : va_A [(se, .inr (4, [.ref qa, .ref qf, .ref qg])), (qa, .inl (cQ, nq, .inl fq)), (qf, .inl (cR, nr, .inl fr)), (qg, .inl (cH, ng, .inl fh)), (cu, .inr (1, [.int ln, .int bs, .int tk, .int lw, .int li, .ref fa, .ref lu])), (lu, .inl (cL, nl, .inl fl))] s.heap.size = A at hD ⊢
  have hA : ∀ q : Nat, s.heap.size ≤ q → A q := fun q h => by rw [← hAe]; exact Or.inr h
  have hS : va_S A s.heap s.heap [] := va_S.rf
  have hP : va_P (dC, dI) vwCl [(se, .inr (4, [.ref qa, .ref qf, .ref qg])), (qa, .inl (cQ, nq, .inl fq)), (qf, .inl (cR, nr, .inl fr)), (qg, .inl (cH, ng, .inl fh)), (cu, .inr (1, [.int ln, .int bs, .int tk, .int lw, .int li, .ref fa, .ref lu])), (lu, .inl (cL, nl, .inl fl))] s.heap := hP
  have hl := lv_entry ([.ref se, .ref cu, .int a2, .int a3, .int a4]) (n := 13) (Nat.le_of_ble_eq_true rfl)
  rw [lg_entry_eq]
  generalize (lg_sl ([.ref se, .ref cu, .int a2, .int a3, .int a4]) ++ List.replicate (13 - (lg_sl ([.ref se, .ref cu, .int a2, .int a3, .int a4])).length) Slot.unset).toArray = ls at hl ⊢
  have hl : lv_has ls 13 [(0, .ref se), (1, .ref cu), (2, .int a2), (3, .int a3), (4, .int a4)] := hl
  refine lv_iload hx hb dX5_spreadAround_0 (lv_at hl 4 rfl) ?_
  refine lv_istore (lv' := [(5, .int a4), (0, .ref se), (1, .ref cu), (2, .int a2), (3, .int a3), (4, .int a4)]) hx hb dX5_spreadAround_2 hl (by decide) rfl (fun ls hl => ?_)
  refine lv_aload_n hx hb dX5_spreadAround_4 rfl (lv_at hl 2 rfl) ?_
  refine va_getN (own := RX5) (index := 56) (ref := RX2) (host := RX9) (D := (dC, dI)) (ci := 1) (v := .int bs) (C := RX2) (T := TX2) (N := 7) hx hb hts iX5_spreadAround_X2 hown hK hP 4 rfl rfl 1 (by decide) (va_Nw.use rfl (hN _ (List.mem_of_getElem? (i := 15) rfl))) (fun _ h9 => h9) rfl dX5_spreadAround_5 ?_
  refine lv_istore (lv' := [(6, .int bs), (5, .int a4), (0, .ref se), (1, .ref cu), (2, .int a2), (3, .int a3), (4, .int a4)]) hx hb dX5_spreadAround_8 hl (by decide) rfl (fun ls hl => ?_)
  refine lv_aload_n hx hb dX5_spreadAround_10 rfl (lv_at hl 3 rfl) ?_
  refine vp_callSi (W.runV (As := []) (rest := []) ⟨hx, hb, hml, hown, hts⟩ (kX2_lineCount l dC dI cu ln bs tk lw li fa lu b_ln b_bs b_tk b_lw) (cwV 0 hts gX5_spreadAround__X2_lineCount_V37 rfl rfl rfl hd_yX2_lineCount ⟨lel 1 3 rfl, lel 20 72 rfl⟩) ⟨pw_fb, rcv_X2 hK hP (q0 := 4) rfl, (pw_use hP hK hN [4] rfl [] rfl)⟩ rfl rfl hl.1 rfl (lv_room (Nat.le_of_ble_eq_true rfl)) dX5_spreadAround_11 ⟨lel 0 0 rfl, lel 0 0 rfl⟩) (fun r_336 h_r_336 => ?_)
  have b_r_336 := h_r_336
  have b_r_336 : (0 : Int) ≤ r_336.toInt ∧ r_336.toInt ≤ 10000 := b_r_336
  refine lv_istore (lv' := [(7, .int r_336), (6, .int bs), (5, .int a4), (0, .ref se), (1, .ref cu), (2, .int a2), (3, .int a3), (4, .int a4)]) hx hb dX5_spreadAround_14 hl (by decide) rfl (fun ls hl => ?_)
  refine lv_iconst (v := 1) hx hb dX5_spreadAround_16 (by decide) ?_
  refine lv_istore (lv' := [(8, .int 1), (7, .int r_336), (6, .int bs), (5, .int a4), (0, .ref se), (1, .ref cu), (2, .int a2), (3, .int a3), (4, .int a4)]) hx hb dX5_spreadAround_17 hl (by decide) rfl (fun ls hl => ?_)
  refine lv_iconst (v := 0) hx hb dX5_spreadAround_19 (by decide) ?_
  refine lv_istore (lv' := [(9, .int 0), (8, .int 1), (7, .int r_336), (6, .int bs), (5, .int a4), (0, .ref se), (1, .ref cu), (2, .int a2), (3, .int a3), (4, .int a4)]) hx hb dX5_spreadAround_20 hl (by decide) rfl (fun ls hl => ?_)
  refine loopW (σ := Int32 × Int32 × Int32 × (Nat → Int32) × (Nat → Int32) × (Nat → Int32)) (fun v => (12 - v.1.toInt).toNat) (fun v H locs ls => ((0 : Int) ≤ v.1.toInt ∧ v.1.toInt ≤ 12) ∧ va_P (dC, dI) vwCl [(se, .inr (4, [.ref qa, .ref qf, .ref qg])), (qa, .inl (cQ, nq, .inl v.2.2.2.1)), (qf, .inl (cR, nr, .inl v.2.2.2.2.1)), (qg, .inl (cH, ng, .inl v.2.2.2.2.2)), (cu, .inr (1, [.int ln, .int bs, .int tk, .int lw, .int li, .ref fa, .ref lu])), (lu, .inl (cL, nl, .inl fl))] H ∧ va_D A [(se, .inr (4, [.ref qa, .ref qf, .ref qg])), (qa, .inl (cQ, nq, .inl v.2.2.2.1)), (qf, .inl (cR, nr, .inl v.2.2.2.2.1)), (qg, .inl (cH, ng, .inl v.2.2.2.2.2)), (cu, .inr (1, [.int ln, .int bs, .int tk, .int lw, .int li, .ref fa, .ref lu])), (lu, .inl (cL, nl, .inl fl))] ∧ va_S A s.heap H locs ∧ lv_has ls 13 [(9, .int v.1), (8, .int v.2.1), (7, .int r_336), (6, .int bs), (5, .int v.2.2.1), (0, .ref se), (1, .ref cu), (2, .int a2), (3, .int a3), (4, .int a4)]) (fun v H locs ls hI ih_22_629 => ?_) ((0 : Int32), (1 : Int32), a4, fq, fr, fh) ⟨(show (0 : Int) ≤ (0 : Int32).toInt ∧ (0 : Int32).toInt ≤ 12 from (rg_w (by decide : (0 : Int) ≤ (0 : Int32).toInt ∧ (0 : Int32).toInt ≤ 0) (by decide) (by decide))), hP, hD, hS, lv_sub hl [0, 1, 2, 3, 4, 5, 6, 7, 8, 9] rfl⟩
  obtain ⟨y_378, y_379, y_380, f_381, f_382, f_383⟩ := v
  obtain ⟨b_y_378, hP, hD, hS, hl⟩ := hI
  have b_y_378 : (0 : Int) ≤ y_378.toInt ∧ y_378.toInt ≤ 12 := b_y_378
  have hP : va_P (dC, dI) vwCl [(se, .inr (4, [.ref qa, .ref qf, .ref qg])), (qa, .inl (cQ, nq, .inl f_381)), (qf, .inl (cR, nr, .inl f_382)), (qg, .inl (cH, ng, .inl f_383)), (cu, .inr (1, [.int ln, .int bs, .int tk, .int lw, .int li, .ref fa, .ref lu])), (lu, .inl (cL, nl, .inl fl))] H := hP
  have hD : va_D A [(se, .inr (4, [.ref qa, .ref qf, .ref qg])), (qa, .inl (cQ, nq, .inl f_381)), (qf, .inl (cR, nr, .inl f_382)), (qg, .inl (cH, ng, .inl f_383)), (cu, .inr (1, [.int ln, .int bs, .int tk, .int lw, .int li, .ref fa, .ref lu])), (lu, .inl (cL, nl, .inl fl))] := hD
  have hl : lv_has ls 13 [(9, .int y_378), (8, .int y_379), (7, .int r_336), (6, .int bs), (5, .int y_380), (0, .ref se), (1, .ref cu), (2, .int a2), (3, .int a3), (4, .int a4)] := hl
  refine lv_iload hx hb dX5_spreadAround_22 (lv_at hl 0 rfl) ?_
  refine lv_aload_n hx hb dX5_spreadAround_24 rfl (lv_at hl 6 rfl) ?_
  refine va_getN (own := RX5) (index := 34) (ref := RX2) (host := RX9) (D := (dC, dI)) (ci := 1) (v := .int ln) (C := RX2) (T := TX2) (N := 7) hx hb hts iX5_spreadAround_X2 hown hK hP 4 rfl rfl 0 (by decide) (va_Nw.use rfl (hN _ (List.mem_of_getElem? (i := 13) rfl))) (fun _ h9 => h9) rfl dX5_spreadAround_25 ?_
  refine lv_icmp_ge (tgt := 143) hx hb dX5_spreadAround_28 (by decide) (fun c_630 => ?_) (fun c_630 => ?_)
  ·
    have n_c_630 : (ln.toInt : Int) ≤ y_378.toInt := c_ge rfl rfl c_630
    refine lv_iload hx hb dX5_spreadAround_143 (lv_at hl 4 rfl) ?_
    have hP9 := hP.sub (ws' := [(se, .inr (4, [.ref qa, .ref qf, .ref qg])), (qa, .inl (cQ, nq, .inl f_381)), (qf, .inl (cR, nr, .inl f_382)), (qg, .inl (cH, ng, .inl f_383)), (cu, .inr (1, [.int ln, .int bs, .int tk, .int lw, .int li, .ref fa, .ref lu])), (lu, .inl (cL, nl, .inl fl))]) [0, 1, 2, 3, 4, 5] rfl
    have hD9 := hD.sub (ws' := [(se, .inr (4, [.ref qa, .ref qf, .ref qg])), (qa, .inl (cQ, nq, .inl f_381)), (qf, .inl (cR, nr, .inl f_382)), (qg, .inl (cH, ng, .inl f_383)), (cu, .inr (1, [.int ln, .int bs, .int tk, .int lw, .int li, .ref fa, .ref lu])), (lu, .inl (cL, nl, .inl fl))]) [0, 1, 2, 3, 4, 5] (by decide) rfl
    have hK9 := hK.sub (tys' := [(cQ, .int), (cR, .int), (cH, .byte), (cL, .int)]) [0, 1, 2, 3] rfl
    exact W.iret (v := y_380) hx hb hr (fun t ht hW => ⟨⟨y_380, (), rfl, trivial, f_381, f_382, f_383, by rw [ht]; exact hP9, va_K.moved hW.alike hK9, hD9⟩, hS.F ht⟩) hS.2.2 dX5_spreadAround_145
  ·
    have n_c_630 : (y_378.toInt : Int) < ln.toInt := c_nge rfl rfl c_630
    have b_y_378 : (0 : Int) ≤ y_378.toInt ∧ y_378.toInt ≤ 11 := r_lt1 b_y_378 b_ln n_c_630 (by decide)
    have b_ln : (1 : Int) ≤ ln.toInt ∧ ln.toInt ≤ 12 := r_lt2 b_y_378 b_ln n_c_630 (by decide)
    refine lv_iload hx hb dX5_spreadAround_31 (lv_at hl 1 rfl) ?_
    refine lv_if_le (tgt := 143) hx hb dX5_spreadAround_33 (by decide) (fun c_631 => ?_) (fun c_631 => ?_)
    ·
      have n_c_631 : (y_379.toInt : Int) ≤ 0 := c_le rfl (by decide) c_631
      have b_y_379 : (-2147483648 : Int) ≤ y_379.toInt ∧ y_379.toInt ≤ 0 := r_le1 (ti_rng y_379) (by decide : (0 : Int) ≤ (0 : Int32).toInt ∧ (0 : Int32).toInt ≤ 0) n_c_631 (by decide)
      refine lv_iload hx hb dX5_spreadAround_143 (lv_at hl 4 rfl) ?_
      have hP9 := hP.sub (ws' := [(se, .inr (4, [.ref qa, .ref qf, .ref qg])), (qa, .inl (cQ, nq, .inl f_381)), (qf, .inl (cR, nr, .inl f_382)), (qg, .inl (cH, ng, .inl f_383)), (cu, .inr (1, [.int ln, .int bs, .int tk, .int lw, .int li, .ref fa, .ref lu])), (lu, .inl (cL, nl, .inl fl))]) [0, 1, 2, 3, 4, 5] rfl
      have hD9 := hD.sub (ws' := [(se, .inr (4, [.ref qa, .ref qf, .ref qg])), (qa, .inl (cQ, nq, .inl f_381)), (qf, .inl (cR, nr, .inl f_382)), (qg, .inl (cH, ng, .inl f_383)), (cu, .inr (1, [.int ln, .int bs, .int tk, .int lw, .int li, .ref fa, .ref lu])), (lu, .inl (cL, nl, .inl fl))]) [0, 1, 2, 3, 4, 5] (by decide) rfl
      have hK9 := hK.sub (tys' := [(cQ, .int), (cR, .int), (cH, .byte), (cL, .int)]) [0, 1, 2, 3] rfl
      exact W.iret (v := y_380) hx hb hr (fun t ht hW => ⟨⟨y_380, (), rfl, trivial, f_381, f_382, f_383, by rw [ht]; exact hP9, va_K.moved hW.alike hK9, hD9⟩, hS.F ht⟩) hS.2.2 dX5_spreadAround_145
    ·
      have n_c_631 : (0 : Int) < y_379.toInt := c_nle rfl (by decide) c_631
      have b_y_379 : (1 : Int) ≤ y_379.toInt ∧ y_379.toInt ≤ 2147483647 := r_lt2 (by decide : (0 : Int) ≤ (0 : Int32).toInt ∧ (0 : Int32).toInt ≤ 0) (ti_rng y_379) n_c_631 (by decide)
      refine lv_iload hx hb dX5_spreadAround_36 (lv_at hl 3 rfl) ?_
      refine lv_iconst (v := 1) hx hb dX5_spreadAround_38 (by decide) ?_
      refine lv_icmp_le (tgt := 143) hx hb dX5_spreadAround_39 (by decide) (fun c_632 => ?_) (fun c_632 => ?_)
      ·
        have n_c_632 : (bs.toInt : Int) ≤ 1 := c_le rfl (by decide) c_632
        have b_bs : (0 : Int) ≤ bs.toInt ∧ bs.toInt ≤ 1 := r_le1 b_bs (by decide : (1 : Int) ≤ (1 : Int32).toInt ∧ (1 : Int32).toInt ≤ 1) n_c_632 (by decide)
        refine lv_iload hx hb dX5_spreadAround_143 (lv_at hl 4 rfl) ?_
        have hP9 := hP.sub (ws' := [(se, .inr (4, [.ref qa, .ref qf, .ref qg])), (qa, .inl (cQ, nq, .inl f_381)), (qf, .inl (cR, nr, .inl f_382)), (qg, .inl (cH, ng, .inl f_383)), (cu, .inr (1, [.int ln, .int bs, .int tk, .int lw, .int li, .ref fa, .ref lu])), (lu, .inl (cL, nl, .inl fl))]) [0, 1, 2, 3, 4, 5] rfl
        have hD9 := hD.sub (ws' := [(se, .inr (4, [.ref qa, .ref qf, .ref qg])), (qa, .inl (cQ, nq, .inl f_381)), (qf, .inl (cR, nr, .inl f_382)), (qg, .inl (cH, ng, .inl f_383)), (cu, .inr (1, [.int ln, .int bs, .int tk, .int lw, .int li, .ref fa, .ref lu])), (lu, .inl (cL, nl, .inl fl))]) [0, 1, 2, 3, 4, 5] (by decide) rfl
        have hK9 := hK.sub (tys' := [(cQ, .int), (cR, .int), (cH, .byte), (cL, .int)]) [0, 1, 2, 3] rfl
        exact W.iret (v := y_380) hx hb hr (fun t ht hW => ⟨⟨y_380, (), rfl, trivial, f_381, f_382, f_383, by rw [ht]; exact hP9, va_K.moved hW.alike hK9, hD9⟩, hS.F ht⟩) hS.2.2 dX5_spreadAround_145
      ·
        have n_c_632 : (1 : Int) < bs.toInt := c_nle rfl (by decide) c_632
        have b_bs : (2 : Int) ≤ bs.toInt ∧ bs.toInt ≤ 16 := r_lt2 (by decide : (1 : Int) ≤ (1 : Int32).toInt ∧ (1 : Int32).toInt ≤ 1) b_bs n_c_632 (by decide)
        refine lv_iload_n hx hb dX5_spreadAround_42 rfl (lv_at hl 8 rfl) ?_
        refine lv_iload hx hb dX5_spreadAround_43 (lv_at hl 1 rfl) ?_
        refine lv_idiv hx hb dX5_spreadAround_45 (ti_ne b_y_379 (by decide)) ?_
        refine lv_topi (fun z_633 e_z_633 => ?_)
        refine lv_iload hx hb dX5_spreadAround_46 (lv_at hl 3 rfl) ?_
        refine lv_idiv hx hb dX5_spreadAround_48 (ti_ne b_bs (by decide)) ?_
        refine lv_topi (fun z_634 e_z_634 => ?_)
        refine lv_istore (lv' := [(10, .int z_634), (9, .int y_378), (8, .int y_379), (7, .int r_336), (6, .int bs), (5, .int y_380), (0, .ref se), (1, .ref cu), (2, .int a2), (3, .int a3), (4, .int a4)]) hx hb dX5_spreadAround_49 hl (by decide) rfl (fun ls hl => ?_)
        refine lv_iload_n hx hb dX5_spreadAround_51 rfl (lv_at hl 9 rfl) ?_
        refine lv_iload hx hb dX5_spreadAround_52 (lv_at hl 2 rfl) ?_
        refine lv_irem hx hb dX5_spreadAround_54 (ti_ne b_y_379 (by decide)) ?_
        refine lv_topi (fun z_635 e_z_635 => ?_)
        refine lv_istore (lv' := [(11, .int z_635), (10, .int z_634), (9, .int y_378), (8, .int y_379), (7, .int r_336), (6, .int bs), (5, .int y_380), (0, .ref se), (1, .ref cu), (2, .int a2), (3, .int a3), (4, .int a4)]) hx hb dX5_spreadAround_55 hl (by decide) rfl (fun ls hl => ?_)
        refine lv_iload hx hb dX5_spreadAround_57 (lv_at hl 2 rfl) ?_
        refine lv_iload hx hb dX5_spreadAround_59 (lv_at hl 4 rfl) ?_
        refine lv_imul hx hb dX5_spreadAround_61 ?_
        refine lv_topi (fun z_636 e_z_636 => ?_)
        obtain ⟨q_z_636, b_z_636⟩ := ti_mul (lo := 0) (hi := 110000) e_z_636 rfl rfl b_y_378 b_r_336 (by decide)
        refine lv_iload hx hb dX5_spreadAround_62 (lv_at hl 1 rfl) ?_
        refine lv_iload hx hb dX5_spreadAround_64 (lv_at hl 3 rfl) ?_
        refine lv_imul hx hb dX5_spreadAround_66 ?_
        refine lv_topi (fun z_637 e_z_637 => ?_)
        refine lv_iadd hx hb dX5_spreadAround_67 ?_
        refine lv_topi (fun z_638 e_z_638 => ?_)
        refine lv_iload hx hb dX5_spreadAround_68 (lv_at hl 0 rfl) ?_
        refine lv_iadd hx hb dX5_spreadAround_70 ?_
        refine lv_topi (fun z_639 e_z_639 => ?_)
        refine lv_istore (lv' := [(12, .int z_639), (11, .int z_635), (10, .int z_634), (9, .int y_378), (8, .int y_379), (7, .int r_336), (6, .int bs), (5, .int y_380), (0, .ref se), (1, .ref cu), (2, .int a2), (3, .int a3), (4, .int a4)]) hx hb dX5_spreadAround_71 hl (by decide) rfl (fun ls hl => ?_)
        refine lv_iload hx hb dX5_spreadAround_73 (lv_at hl 0 rfl) ?_
        refine cutW (σ := Int32 × (Nat → Int32) × (Nat → Int32) × (Nat → Int32)) (pc2 := 130) (st2 := fun v => []) (cells2 := 0) (slots2 := 0) (fun v H locs ls => va_P (dC, dI) vwCl [(se, .inr (4, [.ref qa, .ref qf, .ref qg])), (qa, .inl (cQ, nq, .inl v.2.1)), (qf, .inl (cR, nr, .inl v.2.2.1)), (qg, .inl (cH, ng, .inl v.2.2.2)), (cu, .inr (1, [.int ln, .int bs, .int tk, .int lw, .int li, .ref fa, .ref lu])), (lu, .inl (cL, nl, .inl fl))] H ∧ va_D A [(se, .inr (4, [.ref qa, .ref qf, .ref qg])), (qa, .inl (cQ, nq, .inl v.2.1)), (qf, .inl (cR, nr, .inl v.2.2.1)), (qg, .inl (cH, ng, .inl v.2.2.2)), (cu, .inr (1, [.int ln, .int bs, .int tk, .int lw, .int li, .ref fa, .ref lu])), (lu, .inl (cL, nl, .inl fl))] ∧ va_S A s.heap H locs ∧ lv_has ls 13 [(12, .int z_639), (11, .int z_635), (10, .int z_634), (9, .int y_378), (8, .int y_379), (7, .int r_336), (6, .int bs), (5, .int v.1), (0, .ref se), (1, .ref cu), (2, .int a2), (3, .int a3), (4, .int a4)]) (fun v H locs ls hI => ?_) (fun hj_130_656 => ?_)
        ·
          obtain ⟨y_653, f_654, f_655, f_656⟩ := v
          obtain ⟨hP, hD, hS, hl⟩ := hI
          have hP : va_P (dC, dI) vwCl [(se, .inr (4, [.ref qa, .ref qf, .ref qg])), (qa, .inl (cQ, nq, .inl f_654)), (qf, .inl (cR, nr, .inl f_655)), (qg, .inl (cH, ng, .inl f_656)), (cu, .inr (1, [.int ln, .int bs, .int tk, .int lw, .int li, .ref fa, .ref lu])), (lu, .inl (cL, nl, .inl fl))] H := hP
          have hD : va_D A [(se, .inr (4, [.ref qa, .ref qf, .ref qg])), (qa, .inl (cQ, nq, .inl f_654)), (qf, .inl (cR, nr, .inl f_655)), (qg, .inl (cH, ng, .inl f_656)), (cu, .inr (1, [.int ln, .int bs, .int tk, .int lw, .int li, .ref fa, .ref lu])), (lu, .inl (cL, nl, .inl fl))] := hD
          have hl : lv_has ls 13 [(12, .int z_639), (11, .int z_635), (10, .int z_634), (9, .int y_378), (8, .int y_379), (7, .int r_336), (6, .int bs), (5, .int y_653), (0, .ref se), (1, .ref cu), (2, .int a2), (3, .int a3), (4, .int a4)] := hl
          refine lv_iload hx hb dX5_spreadAround_130 (lv_at hl 4 rfl) ?_
          refine lv_iload hx hb dX5_spreadAround_132 (lv_at hl 6 rfl) ?_
          refine lv_imul hx hb dX5_spreadAround_134 ?_
          refine lv_topi (fun z_657 e_z_657 => ?_)
          refine lv_istore (lv' := [(8, .int z_657), (12, .int z_639), (11, .int z_635), (10, .int z_634), (9, .int y_378), (7, .int r_336), (6, .int bs), (5, .int y_653), (0, .ref se), (1, .ref cu), (2, .int a2), (3, .int a3), (4, .int a4)]) hx hb dX5_spreadAround_135 hl (by decide) rfl (fun ls hl => ?_)
          obtain ⟨z_658, e_z_658⟩ : ∃ y : Int32, y = y_378 + 1 := ⟨_, rfl⟩
          refine lv_iinc (v := z_658) (lv' := [(9, .int z_658), (8, .int z_657), (12, .int z_639), (11, .int z_635), (10, .int z_634), (7, .int r_336), (6, .int bs), (5, .int y_653), (0, .ref se), (1, .ref cu), (2, .int a2), (3, .int a3), (4, .int a4)]) hx hb dX5_spreadAround_137 hl (k := 4) rfl (by rw [e_z_658]; rfl) (by decide) rfl (fun ls hl => ?_)
          obtain ⟨q_z_658, b_z_658⟩ := ti_add (lo := 1) (hi := 12) e_z_658 rfl (by decide : (1 : Int32).toInt = 1) b_y_378 (by decide : (1 : Int) ≤ (1 : Int32).toInt ∧ (1 : Int32).toInt ≤ 1) (by decide)
          refine lv_goto (tgt := 22) hx hb dX5_spreadAround_140 (by decide) ?_
          exact ih_22_629 (z_658, z_657, y_653, f_654, f_655, f_656) _ _ _ ⟨(show (0 : Int) ≤ z_658.toInt ∧ z_658.toInt ≤ 12 from (rg_w b_z_658 (by decide) (by decide))), hP, hD, hS, lv_sub hl [0, 1, 5, 6, 7, 8, 9, 10, 11, 12] rfl⟩ (show (12 - z_658.toInt).toNat < (12 - y_378.toInt).toNat by omega)
        ·
          refine lv_if_lt (tgt := 130) hx hb dX5_spreadAround_75 (by decide) (fun c_640 => ?_) (fun c_640 => ?_)
          ·
            have n_c_640 : (z_639.toInt : Int) < 0 := c_lt rfl (by decide) c_640
            have b_z_639 : (-2147483648 : Int) ≤ z_639.toInt ∧ z_639.toInt ≤ -1 := r_lt1 (ti_rng z_639) (by decide : (0 : Int) ≤ (0 : Int32).toInt ∧ (0 : Int32).toInt ≤ 0) n_c_640 (by decide)
            exact hj_130_656 (y_380, f_381, f_382, f_383) _ _ _ ⟨hP, hD, hS, lv_sub hl [0, 1, 2, 3, 4, 5, 6, 7, 8, 9, 10, 11, 12] rfl⟩
          ·
            have n_c_640 : (0 : Int) ≤ z_639.toInt := c_nlt rfl (by decide) c_640
            have b_z_639 : (0 : Int) ≤ z_639.toInt ∧ z_639.toInt ≤ 2147483647 := r_le2 (by decide : (0 : Int) ≤ (0 : Int32).toInt ∧ (0 : Int32).toInt ≤ 0) (ti_rng z_639) n_c_640 (by decide)
            refine lv_iload hx hb dX5_spreadAround_78 (lv_at hl 0 rfl) ?_
            refine lv_aload_n hx hb dX5_spreadAround_80 rfl (lv_at hl 8 rfl) ?_
            refine va_get (D := (dC, dI)) (ci := 4) (v := .ref qg) (C := RX5) (T := TX5) (N := 3) hx hb hts iX5_spreadAround_X5 hown hK hP 0 rfl rfl 2 (by decide) (hts (.fieldLink RX5 18 "LuckyTicket$Search" "gone" "[B") (List.mem_of_getElem? (i := 5) rfl)) (fun _ h9 => h9) rfl dX5_spreadAround_81 ?_
            obtain ⟨z_659, e_z_659⟩ : ∃ y : Int32, y = Int32.ofNat ng := ⟨_, rfl⟩
            refine va_alen (v := z_659) hx hb hK hP 3 2 rfl rfl e_z_659.symm dX5_spreadAround_84 ?_
            obtain ⟨q_z_659, b_z_659⟩ := ti_len (hi := 200000) e_z_659 (by omega) (by decide)
            refine lv_icmp_ge (tgt := 130) hx hb dX5_spreadAround_85 (by decide) (fun c_660 => ?_) (fun c_660 => ?_)
            ·
              have n_c_660 : (z_659.toInt : Int) ≤ z_639.toInt := c_ge rfl rfl c_660
              exact hj_130_656 (y_380, f_381, f_382, f_383) _ _ _ ⟨hP, hD, hS, lv_sub hl [0, 1, 2, 3, 4, 5, 6, 7, 8, 9, 10, 11, 12] rfl⟩
            ·
              have n_c_660 : (z_639.toInt : Int) < z_659.toInt := c_nge rfl rfl c_660
              have b_z_639 : (0 : Int) ≤ z_639.toInt ∧ z_639.toInt ≤ 199999 := r_lt1 b_z_639 b_z_659 n_c_660 (by decide)
              have b_z_659 : (1 : Int) ≤ z_659.toInt ∧ z_659.toInt ≤ 200000 := r_lt2 b_z_639 b_z_659 n_c_660 (by decide)
              refine lv_aload_n hx hb dX5_spreadAround_88 rfl (lv_at hl 8 rfl) ?_
              refine va_get (D := (dC, dI)) (ci := 4) (v := .ref qg) (C := RX5) (T := TX5) (N := 3) hx hb hts iX5_spreadAround_X5 hown hK hP 0 rfl rfl 2 (by decide) (hts (.fieldLink RX5 18 "LuckyTicket$Search" "gone" "[B") (List.mem_of_getElem? (i := 5) rfl)) (fun _ h9 => h9) rfl dX5_spreadAround_89 ?_
              refine lv_iload hx hb dX5_spreadAround_92 (lv_at hl 0 rfl) ?_
              refine va_bald hx hb hK hP 3 2 rfl rfl (vp_in_iff.mpr ⟨by omega, by omega⟩) dX5_spreadAround_94 ?_
              refine lv_topi (fun z_661 e_z_661 => ?_)
              refine lv_if_ne (tgt := 130) hx hb dX5_spreadAround_95 (by decide) (fun c_662 => ?_) (fun c_662 => ?_)
              ·
                have n_c_662 : (z_661.toInt : Int) ≠ 0 := c_ne rfl (by decide) c_662
                exact hj_130_656 (y_380, f_381, f_382, f_383) _ _ _ ⟨hP, hD, hS, lv_sub hl [0, 1, 2, 3, 4, 5, 6, 7, 8, 9, 10, 11, 12] rfl⟩
              ·
                have n_c_662 : (z_661.toInt : Int) = 0 := c_eq rfl (by decide) c_662
                have b_z_661 : (0 : Int) ≤ z_661.toInt ∧ z_661.toInt ≤ 0 := r_eq1 (ti_rng z_661) (by decide : (0 : Int) ≤ (0 : Int32).toInt ∧ (0 : Int32).toInt ≤ 0) n_c_662 (by decide)
                refine lv_aload_n hx hb dX5_spreadAround_98 rfl (lv_at hl 8 rfl) ?_
                refine va_get (D := (dC, dI)) (ci := 4) (v := .ref qg) (C := RX5) (T := TX5) (N := 3) hx hb hts iX5_spreadAround_X5 hown hK hP 0 rfl rfl 2 (by decide) (hts (.fieldLink RX5 18 "LuckyTicket$Search" "gone" "[B") (List.mem_of_getElem? (i := 5) rfl)) (fun _ h9 => h9) rfl dX5_spreadAround_99 ?_
                refine lv_iload hx hb dX5_spreadAround_102 (lv_at hl 0 rfl) ?_
                refine lv_iconst (v := 1) hx hb dX5_spreadAround_104 (by decide) ?_
                refine va_bast hx hb hK hP hD hS 3 2 rfl rfl (vp_in_iff.mpr ⟨by omega, by omega⟩) dX5_spreadAround_105 (fun H locs hP hD hS => ?_)
                have hP : va_P (dC, dI) vwCl [(se, .inr (4, [.ref qa, .ref qf, .ref qg])), (qa, .inl (cQ, nq, .inl f_381)), (qf, .inl (cR, nr, .inl f_382)), (qg, .inl (cH, ng, .inl (upd f_383 (z_639 : Int32).toNatClampNeg (vp_nar .byte 1)))), (cu, .inr (1, [.int ln, .int bs, .int tk, .int lw, .int li, .ref fa, .ref lu])), (lu, .inl (cL, nl, .inl fl))] H := hP
                have hD : va_D A [(se, .inr (4, [.ref qa, .ref qf, .ref qg])), (qa, .inl (cQ, nq, .inl f_381)), (qf, .inl (cR, nr, .inl f_382)), (qg, .inl (cH, ng, .inl (upd f_383 (z_639 : Int32).toNatClampNeg (vp_nar .byte 1)))), (cu, .inr (1, [.int ln, .int bs, .int tk, .int lw, .int li, .ref fa, .ref lu])), (lu, .inl (cL, nl, .inl fl))] := hD
                generalize (upd f_383 (z_639 : Int32).toNatClampNeg (vp_nar .byte 1)) = f_663 at hP hD
                have hP : va_P (dC, dI) vwCl [(se, .inr (4, [.ref qa, .ref qf, .ref qg])), (qa, .inl (cQ, nq, .inl f_381)), (qf, .inl (cR, nr, .inl f_382)), (qg, .inl (cH, ng, .inl f_663)), (cu, .inr (1, [.int ln, .int bs, .int tk, .int lw, .int li, .ref fa, .ref lu])), (lu, .inl (cL, nl, .inl fl))] H := hP
                have hD : va_D A [(se, .inr (4, [.ref qa, .ref qf, .ref qg])), (qa, .inl (cQ, nq, .inl f_381)), (qf, .inl (cR, nr, .inl f_382)), (qg, .inl (cH, ng, .inl f_663)), (cu, .inr (1, [.int ln, .int bs, .int tk, .int lw, .int li, .ref fa, .ref lu])), (lu, .inl (cL, nl, .inl fl))] := hD
                refine lv_aload_n hx hb dX5_spreadAround_106 rfl (lv_at hl 8 rfl) ?_
                refine lv_aload_n hx hb dX5_spreadAround_107 rfl (lv_at hl 9 rfl) ?_
                refine lv_iload_n hx hb dX5_spreadAround_108 rfl (lv_at hl 10 rfl) ?_
                refine lv_iload_n hx hb dX5_spreadAround_109 rfl (lv_at hl 11 rfl) ?_
                refine lv_iload hx hb dX5_spreadAround_110 (lv_at hl 2 rfl) ?_
                refine lv_iload hx hb dX5_spreadAround_112 (lv_at hl 6 rfl) ?_
                refine lv_imul hx hb dX5_spreadAround_114 ?_
                refine lv_topi (fun z_664 e_z_664 => ?_)
                refine lv_iload hx hb dX5_spreadAround_115 (lv_at hl 4 rfl) ?_
                refine lv_imul hx hb dX5_spreadAround_117 ?_
                refine lv_topi (fun z_665 e_z_665 => ?_)
                refine lv_iload hx hb dX5_spreadAround_118 (lv_at hl 1 rfl) ?_
                refine lv_iadd hx hb dX5_spreadAround_120 ?_
                refine lv_topi (fun z_666 e_z_666 => ?_)
                refine lv_iload hx hb dX5_spreadAround_121 (lv_at hl 4 rfl) ?_
                refine lv_iload hx hb dX5_spreadAround_123 (lv_at hl 7 rfl) ?_
                have hFc := va_free (wc := [(se, .inr (4, [.ref qa, .ref qf, .ref qg])), (qa, .inl (cQ, nq, .inl f_381)), (qf, .inl (cR, nr, .inl f_382)), (qg, .inl (cH, ng, .inl f_663)), (cu, .inr (1, [.int ln, .int bs, .int tk, .int lw, .int li, .ref fa, .ref lu])), (lu, .inl (cL, nl, .inl fl))]) hD hS hA [0, 1, 2, 3, 4, 5] rfl
                refine va_calli (va_runV (As := [.ref cu, .int a2, .int a3, .int z_666, .int y_379, .int y_380]) (rest := []) ⟨hx, hb, hml, hown, hts⟩ (kX5_spreadAlong l dC dI se qa qf qg cQ nq f_381 cR nr f_382 cH ng f_663 cu ln bs tk lw li fa lu cL nl fl a2 a3 z_666 y_379 y_380 (H.size) (rg_w b_ln (by decide) (by decide)) (rg_w b_bs (by decide) (by decide)) b_tk b_lw (by omega) (by omega) (by omega) (by omega)) (cwV 6 hts gX5_spreadAround__X5_spreadAlong_V59 rfl rfl rfl hd_yX5_spreadAlong ⟨lel 3 3 rfl, lel 72 72 rfl⟩) ⟨hw_fb, rcv_X5 hK hP (q0 := 0) rfl, (hw_use hP hD hK hN [0, 1, 2, 3, 4, 5] rfl (by decide) rfl [0, 1, 2, 3] rfl)⟩ rfl rfl hl.1 rfl (lv_room (Nat.le_of_ble_eq_true rfl)) dX5_spreadAround_125 ⟨lel 0 0 rfl, lel 0 0 rfl⟩) hS (fun q _ h => hFc q h) hFc (fun r_667 u_668 t H1 locs ht hvm hw_r_667 hB hz1 hk1 hS => ?_)
                obtain ⟨o0_669, o1_670, hP1, hK1, hD1⟩ := hB
                rw [ht] at hP1
                have hK1 := va_K.moved hvm.symm hK1
                obtain ⟨hP, hD⟩ := va_join (wr := []) (w1 := [(se, .inr (4, [.ref qa, .ref qf, .ref qg])), (qa, .inl (cQ, nq, .inl o0_669)), (qf, .inl (cR, nr, .inl o1_670)), (qg, .inl (cH, ng, .inl f_663)), (cu, .inr (1, [.int ln, .int bs, .int tk, .int lw, .int li, .ref fa, .ref lu])), (lu, .inl (cL, nl, .inl fl))]) hP hD [0, 1, 2, 3, 4, 5] [] rfl rfl (by decide) (by decide) hk1 hFc hP1 hD1
                have hK := (hK.sub (tys' := []) [] rfl).app hK1
                generalize H1 = H at hP hS ⊢
                have hP : va_P (dC, dI) vwCl [(se, .inr (4, [.ref qa, .ref qf, .ref qg])), (qa, .inl (cQ, nq, .inl o0_669)), (qf, .inl (cR, nr, .inl o1_670)), (qg, .inl (cH, ng, .inl f_663)), (cu, .inr (1, [.int ln, .int bs, .int tk, .int lw, .int li, .ref fa, .ref lu])), (lu, .inl (cL, nl, .inl fl))] H := hP
                have hD : va_D A [(se, .inr (4, [.ref qa, .ref qf, .ref qg])), (qa, .inl (cQ, nq, .inl o0_669)), (qf, .inl (cR, nr, .inl o1_670)), (qg, .inl (cH, ng, .inl f_663)), (cu, .inr (1, [.int ln, .int bs, .int tk, .int lw, .int li, .ref fa, .ref lu])), (lu, .inl (cL, nl, .inl fl))] := hD
                have hK : va_K (dC, dI) vwCl [(cQ, .int), (cR, .int), (cH, .byte), (cL, .int)] s := hK
                refine lv_istore (lv' := [(5, .int r_667), (12, .int z_639), (11, .int z_635), (10, .int z_634), (9, .int y_378), (8, .int y_379), (7, .int r_336), (6, .int bs), (0, .ref se), (1, .ref cu), (2, .int a2), (3, .int a3), (4, .int a4)]) hx hb dX5_spreadAround_128 hl (by decide) rfl (fun ls hl => ?_)
                exact hj_130_656 (r_667, o0_669, o1_670, f_663) _ _ _ ⟨hP, hD, hS, lv_sub hl [1, 2, 3, 4, 5, 6, 7, 0, 8, 9, 10, 11, 12] rfl⟩
theorem dX5_spread_0 : decode cX5_spread 0 = .ok (.aload_n 0, 1) := by decide +kernel
theorem dX5_spread_1 : decode cX5_spread 1 = .ok (.iload_n 3, 1) := by decide +kernel
theorem dX5_spread_2 : decode cX5_spread 2 = .ok (.iconst 1, 1) := by decide +kernel
theorem dX5_spread_3 : decode cX5_spread 3 = .ok (.iconst 0, 1) := by decide +kernel
theorem dX5_spread_4 : decode cX5_spread 4 = .ok (.invokevirtual 48, 3) := by decide +kernel
theorem dX5_spread_7 : decode cX5_spread 7 = .ok (.istore 4, 2) := by decide +kernel
theorem dX5_spread_9 : decode cX5_spread 9 = .ok (.iconst 0, 1) := by decide +kernel
theorem dX5_spread_10 : decode cX5_spread 10 = .ok (.istore 5, 2) := by decide +kernel
theorem dX5_spread_12 : decode cX5_spread 12 = .ok (.iload 5, 2) := by decide +kernel
theorem dX5_spread_14 : decode cX5_spread 14 = .ok (.iload 4, 2) := by decide +kernel
theorem dX5_spread_16 : decode cX5_spread 16 = .ok (.if_icmp .ge 36, 3) := by decide +kernel
theorem dX5_spread_19 : decode cX5_spread 19 = .ok (.iload 5, 2) := by decide +kernel
theorem dX5_spread_21 : decode cX5_spread 21 = .ok (.aload_n 0, 1) := by decide +kernel
theorem dX5_spread_22 : decode cX5_spread 22 = .ok (.getfield 9, 3) := by decide +kernel
theorem dX5_spread_25 : decode cX5_spread 25 = .ok (.arraylength, 1) := by decide +kernel
theorem dX5_spread_26 : decode cX5_spread 26 = .ok (.if_icmp .ge 26, 3) := by decide +kernel
theorem dX5_spread_29 : decode cX5_spread 29 = .ok (.aload_n 0, 1) := by decide +kernel
theorem dX5_spread_30 : decode cX5_spread 30 = .ok (.aload_n 1, 1) := by decide +kernel
theorem dX5_spread_31 : decode cX5_spread 31 = .ok (.iload_n 2, 1) := by decide +kernel
theorem dX5_spread_32 : decode cX5_spread 32 = .ok (.aload_n 0, 1) := by decide +kernel
theorem dX5_spread_33 : decode cX5_spread 33 = .ok (.getfield 9, 3) := by decide +kernel
theorem dX5_spread_36 : decode cX5_spread 36 = .ok (.iload 5, 2) := by decide +kernel
theorem dX5_spread_38 : decode cX5_spread 38 = .ok (.iaload, 1) := by decide +kernel
theorem dX5_spread_39 : decode cX5_spread 39 = .ok (.iload 4, 2) := by decide +kernel
theorem dX5_spread_41 : decode cX5_spread 41 = .ok (.invokevirtual 52, 3) := by decide +kernel
theorem dX5_spread_44 : decode cX5_spread 44 = .ok (.istore 4, 2) := by decide +kernel
theorem dX5_spread_46 : decode cX5_spread 46 = .ok (.iinc 5 1, 3) := by decide +kernel
theorem dX5_spread_49 : decode cX5_spread 49 = .ok (.goto (-37), 3) := by decide +kernel
theorem dX5_spread_52 : decode cX5_spread 52 = .ok (.iload 4, 2) := by decide +kernel
theorem dX5_spread_54 : decode cX5_spread 54 = .ok (.ireturn, 1) := by decide +kernel
theorem hd_yX5_spread : yX5_spread.cls = RX5 ∧ yX5_spread.cls ≠ "java/lang/invoke/MethodHandle" ∧ yX5_spread.cls ≠ "java/lang/invoke/VarHandle" ∧ (parseMethodDescriptor yX5_spread.desc).map (fun d => d.parameters.length) = some 3 := by decide +kernel
def uX5_spread : List Cond := List.cons (.code yX5_spread cX5_spread 6 (some .int)) (HAppend.hAppend ([.methodLink RX5 48 yX5_reach, .instanceMethod yX5_reach, .selects RX5 yX5_reach yX5_reach, .initialized RX5, .fieldLink RX5 9 "LuckyTicket$Search" "queue" "[I", .methodLink RX5 52 yX5_spreadAround, .instanceMethod yX5_spreadAround, .selects RX5 yX5_spreadAround yX5_spreadAround] : List Cond) (HAppend.hAppend uX5_reach (HAppend.hAppend uX5_spreadAround wsX50)))
theorem iX5_spread_X5 : ∀ w ∈ wsX50, w ∈ uX5_spread := fun _ h => (List.mem_cons_of_mem _ (List.mem_append_right _ (List.mem_append_right _ (List.mem_append_right _ h))))
theorem guX5_spread : GU uX5_spread := gu_cons (gu_app (by decide +kernel) (gu_ap guX5_reach (gu_ap guX5_spreadAround gws_X5)))
theorem gX5_spread__X5_reach_V48 : GoodIn uX5_spread (wsV RX5 48 RX5 yX5_reach uX5_reach) := gin_V (List.mem_of_getElem? (i := 1) rfl) (List.mem_of_getElem? (i := 2) rfl) (List.mem_of_getElem? (i := 3) rfl) (List.mem_of_getElem? (i := 4) rfl) (fun _ h => (List.mem_cons_of_mem _ (List.mem_append_right _ (List.mem_append_left _ h)))) guX5_reach
theorem gX5_spread__X5_spreadAround_V52 : GoodIn uX5_spread (wsV RX5 52 RX5 yX5_spreadAround uX5_spreadAround) := gin_V (List.mem_of_getElem? (i := 6) rfl) (List.mem_of_getElem? (i := 7) rfl) (List.mem_of_getElem? (i := 8) rfl) (List.mem_of_getElem? (i := 4) rfl) (fun _ h => (List.mem_cons_of_mem _ (List.mem_append_right _ (List.mem_append_right _ (List.mem_append_left _ h))))) guX5_spreadAround
set_option maxHeartbeats 4000000 in
set_option maxRecDepth 100000 in
theorem kX5_spread (l : Launch) (dC : Nat → ClassId) (dI : Nat → Nat → Nat) (se : Nat) (qa : Nat) (qf : Nat) (qg : Nat) (cQ : ClassId) (nq : Nat) (fq : Nat → Int32) (cR : ClassId) (nr : Nat) (fr : Nat → Int32) (cH : ClassId) (ng : Nat) (fh : Nat → Int32) (cu : Nat) (ln : Int32) (bs : Int32) (tk : Int32) (lw : Int32) (li : Int32) (fa : Nat) (lu : Nat) (cL : ClassId) (nl : Nat) (fl : Nat → Int32) (a2 : Int32) (a3 : Int32) (sz : Nat) (b_ln : (0 : Int) ≤ ln.toInt ∧ ln.toInt ≤ 12) (b_bs : (0 : Int) ≤ bs.toInt ∧ bs.toInt ≤ 16) (b_tk : (0 : Int) ≤ tk.toInt ∧ tk.toInt ≤ 20000) (b_lw : (0 : Int) ≤ lw.toInt ∧ lw.toInt ≤ 9) (hq1 : nq ≤ 20000) (hq2 : nr ≤ 20000) (hq3 : ng ≤ 200000) (hl1 : tk.toInt ≤ (nl : Int)) : Met l yX5_spread uX5_spread ({ frames := 4, cells := 0, slots := 0, locals := 104 }) (va_Pc [.ref se, .ref cu, .int a2, .int a3] (hw (dC, dI) vwCl [(se, .inr (4, [.ref qa, .ref qf, .ref qg])), (qa, .inl (cQ, nq, .inl fq)), (qf, .inl (cR, nr, .inl fr)), (qg, .inl (cH, ng, .inl fh)), (cu, .inr (1, [.int ln, .int bs, .int tk, .int lw, .int li, .ref fa, .ref lu])), (lu, .inl (cL, nl, .inl fl))] [(cQ, .int), (cR, .int), (cH, .byte), (cL, .int)] sz)) (va_Qi (fun (r : Int32) (_ : Unit) => True) (fun (_ : Unit) t => ∃ (o0_ : Nat → Int32) (o1_ : Nat → Int32) (o2_ : Nat → Int32), va_P (dC, dI) vwCl [(se, .inr (4, [.ref qa, .ref qf, .ref qg])), (qa, .inl (cQ, nq, .inl o0_)), (qf, .inl (cR, nr, .inl o1_)), (qg, .inl (cH, ng, .inl o2_)), (cu, .inr (1, [.int ln, .int bs, .int tk, .int lw, .int li, .ref fa, .ref lu])), (lu, .inl (cL, nl, .inl fl))] t.heap ∧ va_K (dC, dI) vwCl [(cQ, .int), (cR, .int), (cH, .byte), (cL, .int)] t ∧ va_D (va_A [(se, .inr (4, [.ref qa, .ref qf, .ref qg])), (qa, .inl (cQ, nq, .inl fq)), (qf, .inl (cR, nr, .inl fr)), (qg, .inl (cH, ng, .inl fh)), (cu, .inr (1, [.int ln, .int bs, .int tk, .int lw, .int li, .ref fa, .ref lu])), (lu, .inl (cL, nl, .inl fl))] sz) [(se, .inr (4, [.ref qa, .ref qf, .ref qg])), (qa, .inl (cQ, nq, .inl o0_)), (qf, .inl (cR, nr, .inl o1_)), (qg, .inl (cH, ng, .inl o2_)), (cu, .inr (1, [.int ln, .int bs, .int tk, .int lw, .int li, .ref fa, .ref lu])), (lu, .inl (cL, nl, .inl fl))]) (va_A [(se, .inr (4, [.ref qa, .ref qf, .ref qg])), (qa, .inl (cQ, nq, .inl fq)), (qf, .inl (cR, nr, .inl fr)), (qg, .inl (cH, ng, .inl fh)), (cu, .inr (1, [.int ln, .int bs, .int tk, .int lw, .int li, .ref fa, .ref lu])), (lu, .inl (cL, nl, .inl fl))] sz)) 0 0 (va_A [(se, .inr (4, [.ref qa, .ref qf, .ref qg])), (qa, .inl (cQ, nq, .inl fq)), (qf, .inl (cR, nr, .inl fr)), (qg, .inl (cH, ng, .inl fh)), (cu, .inr (1, [.int ln, .int bs, .int tk, .int lw, .int li, .ref fa, .ref lu])), (lu, .inl (cL, nl, .inl fl))] sz) := by
  refine Met.ofW (cc := cX5_spread) (maxL := 6) (ret := (some .int)) pn_X5 rfl ?_
  intro p e s m args below meth c s₁ B hml hv
  obtain ⟨rfl, hsz, hP, hK, hD0, hN⟩ := hv
  have hx := B.exec
  have hb := B.bytes
  have hr := B.returns
  have hts := atoms_spec (ws := uX5_spread) B.pre
  have hown : s.vm.findClass RX5 = some m.cls := hown_of B.named rfl
  have hlocks := B.notSynchronized
  subst hsz
  have hD := hD0.self (sz := s.heap.size)
  generalize hAe : va_A [(se, .inr (4, [.ref qa, .ref qf, .ref qg])), (qa, .inl (cQ, nq, .inl fq)), (qf, .inl (cR, nr, .inl fr)), (qg, .inl (cH, ng, .inl fh)), (cu, .inr (1, [.int ln, .int bs, .int tk, .int lw, .int li, .ref fa, .ref lu])), (lu, .inl (cL, nl, .inl fl))] s.heap.size = A at hD ⊢
  have hA : ∀ q : Nat, s.heap.size ≤ q → A q := fun q h => by rw [← hAe]; exact Or.inr h
  have hS : va_S A s.heap s.heap [] := va_S.rf
  have hP : va_P (dC, dI) vwCl [(se, .inr (4, [.ref qa, .ref qf, .ref qg])), (qa, .inl (cQ, nq, .inl fq)), (qf, .inl (cR, nr, .inl fr)), (qg, .inl (cH, ng, .inl fh)), (cu, .inr (1, [.int ln, .int bs, .int tk, .int lw, .int li, .ref fa, .ref lu])), (lu, .inl (cL, nl, .inl fl))] s.heap := hP
  have hl := lv_entry ([.ref se, .ref cu, .int a2, .int a3]) (n := 6) (Nat.le_of_ble_eq_true rfl)
  rw [lg_entry_eq]
  generalize (lg_sl ([.ref se, .ref cu, .int a2, .int a3]) ++ List.replicate (6 - (lg_sl ([.ref se, .ref cu, .int a2, .int a3])).length) Slot.unset).toArray = ls at hl ⊢
  have hl : lv_has ls 6 [(0, .ref se), (1, .ref cu), (2, .int a2), (3, .int a3)] := hl
  refine lv_aload_n hx hb dX5_spread_0 rfl (lv_at hl 0 rfl) ?_
  refine lv_iload_n hx hb dX5_spread_1 rfl (lv_at hl 3 rfl) ?_
  refine lv_iconst (v := 1) hx hb dX5_spread_2 (by decide) ?_
  refine lv_iconst (v := 0) hx hb dX5_spread_3 (by decide) ?_
  have hFc := va_free (wc := [(se, .inr (4, [.ref qa, .ref qf, .ref qg])), (qa, .inl (cQ, nq, .inl fq)), (qf, .inl (cR, nr, .inl fr)), (qg, .inl (cH, ng, .inl fh))]) hD hS hA [0, 1, 2, 3] rfl
  refine va_calli (va_runV (As := [.int a3, .int 1, .int 0]) (rest := []) ⟨hx, hb, hml, hown, hts⟩ (kX5_reach l dC dI se qa qf qg cQ nq fq cR nr fr cH ng fh a3 1 0 (s.heap.size) (by omega) (by omega) (by omega)) (cwV 3 hts gX5_spread__X5_reach_V48 rfl rfl rfl hd_yX5_reach ⟨lel 1 4 rfl, lel 23 104 rfl⟩) ⟨hw_fb, rcv_X5 hK hP (q0 := 0) rfl, (hw_use hP hD hK hN [0, 1, 2, 3] rfl (by decide) rfl [0, 1, 2] rfl)⟩ rfl rfl hl.1 rfl (lv_room (Nat.le_of_ble_eq_true rfl)) dX5_spread_4 ⟨lel 0 0 rfl, lel 0 0 rfl⟩) hS (fun q _ h => hFc q h) hFc (fun r_140 u_141 t H1 locs ht hvm hw_r_140 hB hz1 hk1 hS => ?_)
  obtain ⟨o0_142, o1_143, hP1, hK1, hD1⟩ := hB
  rw [ht] at hP1
  have hK1 := va_K.moved hvm.symm hK1
  obtain ⟨hP, hD⟩ := va_join (wr := [(cu, .inr (1, [.int ln, .int bs, .int tk, .int lw, .int li, .ref fa, .ref lu])), (lu, .inl (cL, nl, .inl fl))]) (w1 := [(se, .inr (4, [.ref qa, .ref qf, .ref qg])), (qa, .inl (cQ, nq, .inl o0_142)), (qf, .inl (cR, nr, .inl o1_143)), (qg, .inl (cH, ng, .inl fh))]) hP hD [0, 1, 2, 3] [4, 5] rfl rfl (by decide) (by decide) hk1 hFc hP1 hD1
  have hK := (hK.sub (tys' := [(cL, .int)]) [3] rfl).app hK1
  generalize H1 = H at hP hS ⊢
  have hP := hP.sub (ws' := [(se, .inr (4, [.ref qa, .ref qf, .ref qg])), (qa, .inl (cQ, nq, .inl o0_142)), (qf, .inl (cR, nr, .inl o1_143)), (qg, .inl (cH, ng, .inl fh)), (cu, .inr (1, [.int ln, .int bs, .int tk, .int lw, .int li, .ref fa, .ref lu])), (lu, .inl (cL, nl, .inl fl))]) [2, 3, 4, 5, 0, 1] rfl
  have hD := hD.sub (ws' := [(se, .inr (4, [.ref qa, .ref qf, .ref qg])), (qa, .inl (cQ, nq, .inl o0_142)), (qf, .inl (cR, nr, .inl o1_143)), (qg, .inl (cH, ng, .inl fh)), (cu, .inr (1, [.int ln, .int bs, .int tk, .int lw, .int li, .ref fa, .ref lu])), (lu, .inl (cL, nl, .inl fl))]) [2, 3, 4, 5, 0, 1] (by decide) rfl
  have hK := hK.sub (tys' := [(cQ, .int), (cR, .int), (cH, .byte), (cL, .int)]) [1, 2, 3, 0] rfl
  have hP : va_P (dC, dI) vwCl [(se, .inr (4, [.ref qa, .ref qf, .ref qg])), (qa, .inl (cQ, nq, .inl o0_142)), (qf, .inl (cR, nr, .inl o1_143)), (qg, .inl (cH, ng, .inl fh)), (cu, .inr (1, [.int ln, .int bs, .int tk, .int lw, .int li, .ref fa, .ref lu])), (lu, .inl (cL, nl, .inl fl))] H := hP
  have hD : va_D A [(se, .inr (4, [.ref qa, .ref qf, .ref qg])), (qa, .inl (cQ, nq, .inl o0_142)), (qf, .inl (cR, nr, .inl o1_143)), (qg, .inl (cH, ng, .inl fh)), (cu, .inr (1, [.int ln, .int bs, .int tk, .int lw, .int li, .ref fa, .ref lu])), (lu, .inl (cL, nl, .inl fl))] := hD
  have hK : va_K (dC, dI) vwCl [(cQ, .int), (cR, .int), (cH, .byte), (cL, .int)] s := hK
  refine lv_istore (lv' := [(4, .int r_140), (0, .ref se), (1, .ref cu), (2, .int a2), (3, .int a3)]) hx hb dX5_spread_7 hl (by decide) rfl (fun ls hl => ?_)
  refine lv_iconst (v := 0) hx hb dX5_spread_9 (by decide) ?_
  refine lv_istore (lv' := [(5, .int 0), (4, .int r_140), (0, .ref se), (1, .ref cu), (2, .int a2), (3, .int a3)]) hx hb dX5_spread_10 hl (by decide) rfl (fun ls hl => ?_)
  refine loopW (σ := Int32 × Int32 × (Nat → Int32) × (Nat → Int32) × (Nat → Int32)) (fun v => (20000 - v.1.toInt).toNat) (fun v H locs ls => ((0 : Int) ≤ v.1.toInt ∧ v.1.toInt ≤ 20000) ∧ va_P (dC, dI) vwCl [(se, .inr (4, [.ref qa, .ref qf, .ref qg])), (qa, .inl (cQ, nq, .inl v.2.2.1)), (qf, .inl (cR, nr, .inl v.2.2.2.1)), (qg, .inl (cH, ng, .inl v.2.2.2.2)), (cu, .inr (1, [.int ln, .int bs, .int tk, .int lw, .int li, .ref fa, .ref lu])), (lu, .inl (cL, nl, .inl fl))] H ∧ va_D A [(se, .inr (4, [.ref qa, .ref qf, .ref qg])), (qa, .inl (cQ, nq, .inl v.2.2.1)), (qf, .inl (cR, nr, .inl v.2.2.2.1)), (qg, .inl (cH, ng, .inl v.2.2.2.2)), (cu, .inr (1, [.int ln, .int bs, .int tk, .int lw, .int li, .ref fa, .ref lu])), (lu, .inl (cL, nl, .inl fl))] ∧ va_S A s.heap H locs ∧ lv_has ls 6 [(5, .int v.1), (4, .int v.2.1), (0, .ref se), (1, .ref cu), (2, .int a2), (3, .int a3)]) (fun v H locs ls hI ih_12_268 => ?_) ((0 : Int32), r_140, o0_142, o1_143, fh) ⟨(show (0 : Int) ≤ (0 : Int32).toInt ∧ (0 : Int32).toInt ≤ 20000 from (rg_w (by decide : (0 : Int) ≤ (0 : Int32).toInt ∧ (0 : Int32).toInt ≤ 0) (by decide) (by decide))), hP, hD, hS, lv_sub hl [0, 1, 2, 3, 4, 5] rfl⟩
  obtain ⟨y_154, y_155, f_156, f_157, f_158⟩ := v
  obtain ⟨b_y_154, hP, hD, hS, hl⟩ := hI
  have b_y_154 : (0 : Int) ≤ y_154.toInt ∧ y_154.toInt ≤ 20000 := b_y_154
  have hP : va_P (dC, dI) vwCl [(se, .inr (4, [.ref qa, .ref qf, .ref qg])), (qa, .inl (cQ, nq, .inl f_156)), (qf, .inl (cR, nr, .inl f_157)), (qg, .inl (cH, ng, .inl f_158)), (cu, .inr (1, [.int ln, .int bs, .int tk, .int lw, .int li, .ref fa, .ref lu])), (lu, .inl (cL, nl, .inl fl))] H := hP
  have hD : va_D A [(se, .inr (4, [.ref qa, .ref qf, .ref qg])), (qa, .inl (cQ, nq, .inl f_156)), (qf, .inl (cR, nr, .inl f_157)), (qg, .inl (cH, ng, .inl f_158)), (cu, .inr (1, [.int ln, .int bs, .int tk, .int lw, .int li, .ref fa, .ref lu])), (lu, .inl (cL, nl, .inl fl))] := hD
  have hl : lv_has ls 6 [(5, .int y_154), (4, .int y_155), (0, .ref se), (1, .ref cu), (2, .int a2), (3, .int a3)] := hl
  refine lv_iload hx hb dX5_spread_12 (lv_at hl 0 rfl) ?_
  refine lv_iload hx hb dX5_spread_14 (lv_at hl 1 rfl) ?_
  refine lv_icmp_ge (tgt := 52) hx hb dX5_spread_16 (by decide) (fun c_269 => ?_) (fun c_269 => ?_)
  ·
    have n_c_269 : (y_155.toInt : Int) ≤ y_154.toInt := c_ge rfl rfl c_269
    have b_y_155 : (-2147483648 : Int) ≤ y_155.toInt ∧ y_155.toInt ≤ 20000 := r_le1 (ti_rng y_155) b_y_154 n_c_269 (by decide)
    refine lv_iload hx hb dX5_spread_52 (lv_at hl 1 rfl) ?_
    have hP9 := hP.sub (ws' := [(se, .inr (4, [.ref qa, .ref qf, .ref qg])), (qa, .inl (cQ, nq, .inl f_156)), (qf, .inl (cR, nr, .inl f_157)), (qg, .inl (cH, ng, .inl f_158)), (cu, .inr (1, [.int ln, .int bs, .int tk, .int lw, .int li, .ref fa, .ref lu])), (lu, .inl (cL, nl, .inl fl))]) [0, 1, 2, 3, 4, 5] rfl
    have hD9 := hD.sub (ws' := [(se, .inr (4, [.ref qa, .ref qf, .ref qg])), (qa, .inl (cQ, nq, .inl f_156)), (qf, .inl (cR, nr, .inl f_157)), (qg, .inl (cH, ng, .inl f_158)), (cu, .inr (1, [.int ln, .int bs, .int tk, .int lw, .int li, .ref fa, .ref lu])), (lu, .inl (cL, nl, .inl fl))]) [0, 1, 2, 3, 4, 5] (by decide) rfl
    have hK9 := hK.sub (tys' := [(cQ, .int), (cR, .int), (cH, .byte), (cL, .int)]) [0, 1, 2, 3] rfl
    exact W.iret (v := y_155) hx hb hr (fun t ht hW => ⟨⟨y_155, (), rfl, trivial, f_156, f_157, f_158, by rw [ht]; exact hP9, va_K.moved hW.alike hK9, hD9⟩, hS.F ht⟩) hS.2.2 dX5_spread_54
  ·
    have n_c_269 : (y_154.toInt : Int) < y_155.toInt := c_nge rfl rfl c_269
    have b_y_155 : (1 : Int) ≤ y_155.toInt ∧ y_155.toInt ≤ 2147483647 := r_lt2 b_y_154 (ti_rng y_155) n_c_269 (by decide)
    refine lv_iload hx hb dX5_spread_19 (lv_at hl 0 rfl) ?_
    refine lv_aload_n hx hb dX5_spread_21 rfl (lv_at hl 2 rfl) ?_
    refine va_get (D := (dC, dI)) (ci := 4) (v := .ref qa) (C := RX5) (T := TX5) (N := 3) hx hb hts iX5_spread_X5 hown hK hP 0 rfl rfl 0 (by decide) (hts (.fieldLink RX5 9 "LuckyTicket$Search" "queue" "[I") (List.mem_of_getElem? (i := 5) rfl)) (fun _ h9 => h9) rfl dX5_spread_22 ?_
    obtain ⟨z_270, e_z_270⟩ : ∃ y : Int32, y = Int32.ofNat nq := ⟨_, rfl⟩
    refine va_alen (v := z_270) hx hb hK hP 1 0 rfl rfl e_z_270.symm dX5_spread_25 ?_
    obtain ⟨q_z_270, b_z_270⟩ := ti_len (hi := 20000) e_z_270 (by omega) (by decide)
    refine lv_icmp_ge (tgt := 52) hx hb dX5_spread_26 (by decide) (fun c_271 => ?_) (fun c_271 => ?_)
    ·
      have n_c_271 : (z_270.toInt : Int) ≤ y_154.toInt := c_ge rfl rfl c_271
      refine lv_iload hx hb dX5_spread_52 (lv_at hl 1 rfl) ?_
      have hP9 := hP.sub (ws' := [(se, .inr (4, [.ref qa, .ref qf, .ref qg])), (qa, .inl (cQ, nq, .inl f_156)), (qf, .inl (cR, nr, .inl f_157)), (qg, .inl (cH, ng, .inl f_158)), (cu, .inr (1, [.int ln, .int bs, .int tk, .int lw, .int li, .ref fa, .ref lu])), (lu, .inl (cL, nl, .inl fl))]) [0, 1, 2, 3, 4, 5] rfl
      have hD9 := hD.sub (ws' := [(se, .inr (4, [.ref qa, .ref qf, .ref qg])), (qa, .inl (cQ, nq, .inl f_156)), (qf, .inl (cR, nr, .inl f_157)), (qg, .inl (cH, ng, .inl f_158)), (cu, .inr (1, [.int ln, .int bs, .int tk, .int lw, .int li, .ref fa, .ref lu])), (lu, .inl (cL, nl, .inl fl))]) [0, 1, 2, 3, 4, 5] (by decide) rfl
      have hK9 := hK.sub (tys' := [(cQ, .int), (cR, .int), (cH, .byte), (cL, .int)]) [0, 1, 2, 3] rfl
      exact W.iret (v := y_155) hx hb hr (fun t ht hW => ⟨⟨y_155, (), rfl, trivial, f_156, f_157, f_158, by rw [ht]; exact hP9, va_K.moved hW.alike hK9, hD9⟩, hS.F ht⟩) hS.2.2 dX5_spread_54
    ·
      have n_c_271 : (y_154.toInt : Int) < z_270.toInt := c_nge rfl rfl c_271
      have b_y_154 : (0 : Int) ≤ y_154.toInt ∧ y_154.toInt ≤ 19999 := r_lt1 b_y_154 b_z_270 n_c_271 (by decide)
      have b_z_270 : (1 : Int) ≤ z_270.toInt ∧ z_270.toInt ≤ 20000 := r_lt2 b_y_154 b_z_270 n_c_271 (by decide)
      refine lv_aload_n hx hb dX5_spread_29 rfl (lv_at hl 2 rfl) ?_
      refine lv_aload_n hx hb dX5_spread_30 rfl (lv_at hl 3 rfl) ?_
      refine lv_iload_n hx hb dX5_spread_31 rfl (lv_at hl 4 rfl) ?_
      refine lv_aload_n hx hb dX5_spread_32 rfl (lv_at hl 2 rfl) ?_
      refine va_get (D := (dC, dI)) (ci := 4) (v := .ref qa) (C := RX5) (T := TX5) (N := 3) hx hb hts iX5_spread_X5 hown hK hP 0 rfl rfl 0 (by decide) (hts (.fieldLink RX5 9 "LuckyTicket$Search" "queue" "[I") (List.mem_of_getElem? (i := 5) rfl)) (fun _ h9 => h9) rfl dX5_spread_33 ?_
      refine lv_iload hx hb dX5_spread_36 (lv_at hl 0 rfl) ?_
      refine va_iald hx hb hK hP 1 0 rfl rfl (vp_in_iff.mpr ⟨by omega, by omega⟩) dX5_spread_38 ?_
      refine lv_topi (fun z_272 e_z_272 => ?_)
      refine lv_iload hx hb dX5_spread_39 (lv_at hl 1 rfl) ?_
      have hFc := va_free (wc := [(se, .inr (4, [.ref qa, .ref qf, .ref qg])), (qa, .inl (cQ, nq, .inl f_156)), (qf, .inl (cR, nr, .inl f_157)), (qg, .inl (cH, ng, .inl f_158)), (cu, .inr (1, [.int ln, .int bs, .int tk, .int lw, .int li, .ref fa, .ref lu])), (lu, .inl (cL, nl, .inl fl))]) hD hS hA [0, 1, 2, 3, 4, 5] rfl
      refine va_calli (va_runV (As := [.ref cu, .int a2, .int z_272, .int y_155]) (rest := []) ⟨hx, hb, hml, hown, hts⟩ (kX5_spreadAround l dC dI se qa qf qg cQ nq f_156 cR nr f_157 cH ng f_158 cu ln bs tk lw li fa lu cL nl fl a2 z_272 y_155 (H.size) b_ln b_bs b_tk b_lw (by omega) (by omega) (by omega) (by omega)) (cwV 4 hts gX5_spread__X5_spreadAround_V52 rfl rfl rfl hd_yX5_spreadAround ⟨lel 4 4 rfl, lel 104 104 rfl⟩) ⟨hw_fb, rcv_X5 hK hP (q0 := 0) rfl, (hw_use hP hD hK hN [0, 1, 2, 3, 4, 5] rfl (by decide) rfl [0, 1, 2, 3] rfl)⟩ rfl rfl hl.1 rfl (lv_room (Nat.le_of_ble_eq_true rfl)) dX5_spread_41 ⟨lel 0 0 rfl, lel 0 0 rfl⟩) hS (fun q _ h => hFc q h) hFc (fun r_273 u_274 t H1 locs ht hvm hw_r_273 hB hz1 hk1 hS => ?_)
      obtain ⟨o0_275, o1_276, o2_277, hP1, hK1, hD1⟩ := hB
      rw [ht] at hP1
      have hK1 := va_K.moved hvm.symm hK1
      obtain ⟨hP, hD⟩ := va_join (wr := []) (w1 := [(se, .inr (4, [.ref qa, .ref qf, .ref qg])), (qa, .inl (cQ, nq, .inl o0_275)), (qf, .inl (cR, nr, .inl o1_276)), (qg, .inl (cH, ng, .inl o2_277)), (cu, .inr (1, [.int ln, .int bs, .int tk, .int lw, .int li, .ref fa, .ref lu])), (lu, .inl (cL, nl, .inl fl))]) hP hD [0, 1, 2, 3, 4, 5] [] rfl rfl (by decide) (by decide) hk1 hFc hP1 hD1
      have hK := (hK.sub (tys' := []) [] rfl).app hK1
      generalize H1 = H at hP hS ⊢
      have hP : va_P (dC, dI) vwCl [(se, .inr (4, [.ref qa, .ref qf, .ref qg])), (qa, .inl (cQ, nq, .inl o0_275)), (qf, .inl (cR, nr, .inl o1_276)), (qg, .inl (cH, ng, .inl o2_277)), (cu, .inr (1, [.int ln, .int bs, .int tk, .int lw, .int li, .ref fa, .ref lu])), (lu, .inl (cL, nl, .inl fl))] H := hP
      have hD : va_D A [(se, .inr (4, [.ref qa, .ref qf, .ref qg])), (qa, .inl (cQ, nq, .inl o0_275)), (qf, .inl (cR, nr, .inl o1_276)), (qg, .inl (cH, ng, .inl o2_277)), (cu, .inr (1, [.int ln, .int bs, .int tk, .int lw, .int li, .ref fa, .ref lu])), (lu, .inl (cL, nl, .inl fl))] := hD
      have hK : va_K (dC, dI) vwCl [(cQ, .int), (cR, .int), (cH, .byte), (cL, .int)] s := hK
      refine lv_istore (lv' := [(4, .int r_273), (5, .int y_154), (0, .ref se), (1, .ref cu), (2, .int a2), (3, .int a3)]) hx hb dX5_spread_44 hl (by decide) rfl (fun ls hl => ?_)
      obtain ⟨z_278, e_z_278⟩ : ∃ y : Int32, y = y_154 + 1 := ⟨_, rfl⟩
      refine lv_iinc (v := z_278) (lv' := [(5, .int z_278), (4, .int r_273), (0, .ref se), (1, .ref cu), (2, .int a2), (3, .int a3)]) hx hb dX5_spread_46 hl (k := 1) rfl (by rw [e_z_278]; rfl) (by decide) rfl (fun ls hl => ?_)
      obtain ⟨q_z_278, b_z_278⟩ := ti_add (lo := 1) (hi := 20000) e_z_278 rfl (by decide : (1 : Int32).toInt = 1) b_y_154 (by decide : (1 : Int) ≤ (1 : Int32).toInt ∧ (1 : Int32).toInt ≤ 1) (by decide)
      refine lv_goto (tgt := 12) hx hb dX5_spread_49 (by decide) ?_
      exact ih_12_268 (z_278, r_273, o0_275, o1_276, o2_277) _ _ _ ⟨(show (0 : Int) ≤ z_278.toInt ∧ z_278.toInt ≤ 20000 from (rg_w b_z_278 (by decide) (by decide))), hP, hD, hS, lv_sub hl [0, 1, 2, 3, 4, 5] rfl⟩ (show (20000 - z_278.toInt).toNat < (20000 - y_154.toInt).toNat by omega)
