theorem dX9_paste_0 : decode cX9_paste 0 = .ok (.aload_n 0, 1) := by decide +kernel
theorem dX9_paste_1 : decode cX9_paste 1 = .ok (.iload_n 1, 1) := by decide +kernel
theorem dX9_paste_2 : decode cX9_paste 2 = .ok (.invokevirtual 206, 3) := by decide +kernel
theorem dX9_paste_5 : decode cX9_paste 5 = .ok (.ifCond .eq 11, 3) := by decide +kernel
theorem dX9_paste_8 : decode cX9_paste 8 = .ok (.aload_n 0, 1) := by decide +kernel
theorem dX9_paste_9 : decode cX9_paste 9 = .ok (.iload_n 3, 1) := by decide +kernel
theorem dX9_paste_10 : decode cX9_paste 10 = .ok (.invokevirtual 206, 3) := by decide +kernel
theorem dX9_paste_13 : decode cX9_paste 13 = .ok (.ifCond .ne 6, 3) := by decide +kernel
theorem dX9_paste_16 : decode cX9_paste 16 = .ok (.bipush (-2), 2) := by decide +kernel
theorem dX9_paste_18 : decode cX9_paste 18 = .ok (.ireturn, 1) := by decide +kernel
theorem dX9_paste_19 : decode cX9_paste 19 = .ok (.aload_n 0, 1) := by decide +kernel
theorem dX9_paste_20 : decode cX9_paste 20 = .ok (.getfield 50, 3) := by decide +kernel
theorem dX9_paste_23 : decode cX9_paste 23 = .ok (.iload_n 1, 1) := by decide +kernel
theorem dX9_paste_24 : decode cX9_paste 24 = .ok (.aaload, 1) := by decide +kernel
theorem dX9_paste_25 : decode cX9_paste 25 = .ok (.astore 6, 2) := by decide +kernel
theorem dX9_paste_27 : decode cX9_paste 27 = .ok (.aload_n 0, 1) := by decide +kernel
theorem dX9_paste_28 : decode cX9_paste 28 = .ok (.getfield 50, 3) := by decide +kernel
theorem dX9_paste_31 : decode cX9_paste 31 = .ok (.iload_n 3, 1) := by decide +kernel
theorem dX9_paste_32 : decode cX9_paste 32 = .ok (.aaload, 1) := by decide +kernel
theorem dX9_paste_33 : decode cX9_paste 33 = .ok (.astore 7, 2) := by decide +kernel
theorem dX9_paste_35 : decode cX9_paste 35 = .ok (.aload 6, 2) := by decide +kernel
theorem dX9_paste_37 : decode cX9_paste 37 = .ok (.invokevirtual 270, 3) := by decide +kernel
theorem dX9_paste_40 : decode cX9_paste 40 = .ok (.ifCond .eq 11, 3) := by decide +kernel
theorem dX9_paste_43 : decode cX9_paste 43 = .ok (.aload 7, 2) := by decide +kernel
theorem dX9_paste_45 : decode cX9_paste 45 = .ok (.invokevirtual 270, 3) := by decide +kernel
theorem dX9_paste_48 : decode cX9_paste 48 = .ok (.ifCond .ne 6, 3) := by decide +kernel
theorem dX9_paste_51 : decode cX9_paste 51 = .ok (.bipush (-6), 2) := by decide +kernel
theorem dX9_paste_53 : decode cX9_paste 53 = .ok (.ireturn, 1) := by decide +kernel
theorem dX9_paste_54 : decode cX9_paste 54 = .ok (.aload 6, 2) := by decide +kernel
theorem dX9_paste_56 : decode cX9_paste 56 = .ok (.getfield 350, 3) := by decide +kernel
theorem dX9_paste_59 : decode cX9_paste 59 = .ok (.aload 7, 2) := by decide +kernel
theorem dX9_paste_61 : decode cX9_paste 61 = .ok (.getfield 350, 3) := by decide +kernel
theorem dX9_paste_64 : decode cX9_paste 64 = .ok (.if_icmp .eq 6, 3) := by decide +kernel
theorem dX9_paste_67 : decode cX9_paste 67 = .ok (.bipush (-8), 2) := by decide +kernel
theorem dX9_paste_69 : decode cX9_paste 69 = .ok (.ireturn, 1) := by decide +kernel
theorem dX9_paste_70 : decode cX9_paste 70 = .ok (.aload 6, 2) := by decide +kernel
theorem dX9_paste_72 : decode cX9_paste 72 = .ok (.iload_n 2, 1) := by decide +kernel
theorem dX9_paste_73 : decode cX9_paste 73 = .ok (.iload 5, 2) := by decide +kernel
theorem dX9_paste_75 : decode cX9_paste 75 = .ok (.invokevirtual 343, 3) := by decide +kernel
theorem dX9_paste_78 : decode cX9_paste 78 = .ok (.ifCond .eq 15, 3) := by decide +kernel
theorem dX9_paste_81 : decode cX9_paste 81 = .ok (.aload 7, 2) := by decide +kernel
theorem dX9_paste_83 : decode cX9_paste 83 = .ok (.iload 4, 2) := by decide +kernel
theorem dX9_paste_85 : decode cX9_paste 85 = .ok (.iload 5, 2) := by decide +kernel
theorem dX9_paste_87 : decode cX9_paste 87 = .ok (.invokevirtual 343, 3) := by decide +kernel
theorem dX9_paste_90 : decode cX9_paste 90 = .ok (.ifCond .ne 6, 3) := by decide +kernel
theorem dX9_paste_93 : decode cX9_paste 93 = .ok (.bipush (-7), 2) := by decide +kernel
theorem dX9_paste_95 : decode cX9_paste 95 = .ok (.ireturn, 1) := by decide +kernel
theorem dX9_paste_96 : decode cX9_paste 96 = .ok (.aload 7, 2) := by decide +kernel
theorem dX9_paste_98 : decode cX9_paste 98 = .ok (.iload 4, 2) := by decide +kernel
theorem dX9_paste_100 : decode cX9_paste 100 = .ok (.aload 6, 2) := by decide +kernel
theorem dX9_paste_102 : decode cX9_paste 102 = .ok (.iload_n 2, 1) := by decide +kernel
theorem dX9_paste_103 : decode cX9_paste 103 = .ok (.iload 5, 2) := by decide +kernel
theorem dX9_paste_105 : decode cX9_paste 105 = .ok (.invokevirtual 353, 3) := by decide +kernel
theorem dX9_paste_108 : decode cX9_paste 108 = .ok (.iconst 0, 1) := by decide +kernel
theorem dX9_paste_109 : decode cX9_paste 109 = .ok (.ireturn, 1) := by decide +kernel
theorem hd_yX9_paste : yX9_paste.cls = RX9 ∧ yX9_paste.cls ≠ "java/lang/invoke/MethodHandle" ∧ yX9_paste.cls ≠ "java/lang/invoke/VarHandle" ∧ (parseMethodDescriptor yX9_paste.desc).map (fun d => d.parameters.length) = some 5 := by decide +kernel
def uX9_paste : List Cond := List.cons (.code yX9_paste cX9_paste 8 (some .int)) (HAppend.hAppend ([.methodLink RX9 206 yX9_hasSlot, .instanceMethod yX9_hasSlot, .selects RX9 yX9_hasSlot yX9_hasSlot, .initialized RX9, .fieldLink RX9 50 "LuckyTicket" "slots" "[LLuckyTicket$Row;", .methodLink RX9 270 yX3_stands, .instanceMethod yX3_stands, .selects RX3 yX3_stands yX3_stands, .initialized RX3, .methodLink RX9 343 yX3_hasStretch, .instanceMethod yX3_hasStretch, .selects RX3 yX3_hasStretch yX3_hasStretch, .methodLink RX9 353 yX3_take, .instanceMethod yX3_take, .selects RX3 yX3_take yX3_take] : List Cond) (HAppend.hAppend uX9_hasSlot (HAppend.hAppend uX3_stands (HAppend.hAppend uX3_hasStretch (HAppend.hAppend uX3_takeS (HAppend.hAppend uX3_take (HAppend.hAppend wsX90 wsX30)))))))
theorem iX9_paste_X9 : ∀ w ∈ wsX90, w ∈ uX9_paste := fun _ h => (List.mem_cons_of_mem _ (List.mem_append_right _ (List.mem_append_right _ (List.mem_append_right _ (List.mem_append_right _ (List.mem_append_right _ (List.mem_append_right _ (List.mem_append_left _ h))))))))
theorem iX9_paste_X3 : ∀ w ∈ wsX30, w ∈ uX9_paste := fun _ h => (List.mem_cons_of_mem _ (List.mem_append_right _ (List.mem_append_right _ (List.mem_append_right _ (List.mem_append_right _ (List.mem_append_right _ (List.mem_append_right _ (List.mem_append_right _ h))))))))
theorem guX9_paste : GU uX9_paste := gu_cons (gu_app (by decide +kernel) (gu_ap guX9_hasSlot (gu_ap guX3_stands (gu_ap guX3_hasStretch (gu_ap guX3_takeS (gu_ap guX3_take (gu_ap gws_X9 gws_X3)))))))
theorem gX9_paste__X9_hasSlot_V206 : GoodIn uX9_paste (wsV RX9 206 RX9 yX9_hasSlot uX9_hasSlot) := gin_V (List.mem_of_getElem? (i := 1) rfl) (List.mem_of_getElem? (i := 2) rfl) (List.mem_of_getElem? (i := 3) rfl) (List.mem_of_getElem? (i := 4) rfl) (fun _ h => (List.mem_cons_of_mem _ (List.mem_append_right _ (List.mem_append_left _ h)))) guX9_hasSlot
theorem gX9_paste__X3_stands_V270 : GoodIn uX9_paste (wsV RX9 270 RX3 yX3_stands uX3_stands) := gin_V (List.mem_of_getElem? (i := 6) rfl) (List.mem_of_getElem? (i := 7) rfl) (List.mem_of_getElem? (i := 8) rfl) (List.mem_of_getElem? (i := 9) rfl) (fun _ h => (List.mem_cons_of_mem _ (List.mem_append_right _ (List.mem_append_right _ (List.mem_append_left _ h))))) guX3_stands
theorem gX9_paste__X3_hasStretch_V343 : GoodIn uX9_paste (wsV RX9 343 RX3 yX3_hasStretch uX3_hasStretch) := gin_V (List.mem_of_getElem? (i := 10) rfl) (List.mem_of_getElem? (i := 11) rfl) (List.mem_of_getElem? (i := 12) rfl) (List.mem_of_getElem? (i := 9) rfl) (fun _ h => (List.mem_cons_of_mem _ (List.mem_append_right _ (List.mem_append_right _ (List.mem_append_right _ (List.mem_append_left _ h)))))) guX3_hasStretch
theorem gX9_paste__X3_takeS_V353 : GoodIn uX9_paste (wsV RX9 353 RX3 yX3_take uX3_takeS) := gin_V (List.mem_of_getElem? (i := 13) rfl) (List.mem_of_getElem? (i := 14) rfl) (List.mem_of_getElem? (i := 15) rfl) (List.mem_of_getElem? (i := 9) rfl) (fun _ h => (List.mem_cons_of_mem _ (List.mem_append_right _ (List.mem_append_right _ (List.mem_append_right _ (List.mem_append_right _ (List.mem_append_left _ h))))))) guX3_takeS
theorem gX9_paste__X3_take_V353 : GoodIn uX9_paste (wsV RX9 353 RX3 yX3_take uX3_take) := gin_V (List.mem_of_getElem? (i := 13) rfl) (List.mem_of_getElem? (i := 14) rfl) (List.mem_of_getElem? (i := 15) rfl) (List.mem_of_getElem? (i := 9) rfl) (fun _ h => (List.mem_cons_of_mem _ (List.mem_append_right _ (List.mem_append_right _ (List.mem_append_right _ (List.mem_append_right _ (List.mem_append_right _ (List.mem_append_left _ h)))))))) guX3_take
set_option maxHeartbeats 4000000 in
set_option maxRecDepth 100000 in
theorem kX9_paste (l : Launch) (dC : Nat → ClassId) (dI : Nat → Nat → Nat) (h0 : Nat) (tp : Nat) (sc : Nat) (rd : Nat) (cu : Nat) (im : Nat) (ig : Nat) (sl : Nat) (se : Nat) (sm : Nat) (fc : Nat) (cS : ClassId) (s0 : Nat) (s1 : Nat) (s2 : Nat) (s3 : Nat) (n0 : Nat) (n1 : Nat) (n2 : Nat) (n3 : Nat) (wd0 : Int32) (wd1 : Int32) (wd2 : Int32) (wd3 : Int32) (rz0 : Int32) (rz1 : Int32) (rz2 : Int32) (rz3 : Int32) (cJ0 : ClassId) (cJ1 : ClassId) (cJ2 : ClassId) (cJ3 : ClassId) (g0 : Nat → Int64) (g1 : Nat → Int64) (g2 : Nat → Int64) (g3 : Nat → Int64) (a1 : Int32) (a2 : Int32) (a3 : Int32) (a4 : Int32) (a5 : Int32) (sz : Nat) (b_wd0 : (-1 : Int) ≤ wd0.toInt ∧ wd0.toInt ≤ 3) (b_wd1 : (-1 : Int) ≤ wd1.toInt ∧ wd1.toInt ≤ 3) (b_wd2 : (-1 : Int) ≤ wd2.toInt ∧ wd2.toInt ≤ 3) (b_wd3 : (-1 : Int) ≤ wd3.toInt ∧ wd3.toInt ≤ 3) (b_rz0 : (0 : Int) ≤ rz0.toInt ∧ rz0.toInt ≤ 60) (b_rz1 : (0 : Int) ≤ rz1.toInt ∧ rz1.toInt ≤ 60) (b_rz2 : (0 : Int) ≤ rz2.toInt ∧ rz2.toInt ≤ 60) (b_rz3 : (0 : Int) ≤ rz3.toInt ∧ rz3.toInt ≤ 60) : Met l yX9_paste uX9_paste ({ frames := 2, cells := 0, slots := 0, locals := 88 }) (va_Pc [.ref h0, .int a1, .int a2, .int a3, .int a4, .int a5] (hw (dC, dI) vwCl [(h0, .inr (7, [.ref tp, .ref sc, .ref rd, .ref cu, .ref im, .ref ig, .ref sl, .ref se, .ref sm, .ref fc])), (sl, .inl (cS, 4, .inr (.inr (.inr (.inr (sf4 s0 s1 s2 s3)))))), (s0, .inr (2, [.int wd0, .int rz0, .ref n0])), (s1, .inr (2, [.int wd1, .int rz1, .ref n1])), (s2, .inr (2, [.int wd2, .int rz2, .ref n2])), (s3, .inr (2, [.int wd3, .int rz3, .ref n3])), (n0, .inl (cJ0, 60, .inr (.inl g0))), (n1, .inl (cJ1, 60, .inr (.inl g1))), (n2, .inl (cJ2, 60, .inr (.inl g2))), (n3, .inl (cJ3, 60, .inr (.inl g3)))] [(cS, .object RX3), (cJ0, .long), (cJ1, .long), (cJ2, .long), (cJ3, .long)] sz)) (va_Qi (fun (r : Int32) (_ : Unit) => ((-8 : Int) ≤ r.toInt ∧ r.toInt ≤ 0)) (fun (_ : Unit) t => ∃ (o0_ : Nat → Int64) (o1_ : Nat → Int64) (o2_ : Nat → Int64) (o3_ : Nat → Int64), va_P (dC, dI) vwCl [(h0, .inr (7, [.ref tp, .ref sc, .ref rd, .ref cu, .ref im, .ref ig, .ref sl, .ref se, .ref sm, .ref fc])), (sl, .inl (cS, 4, .inr (.inr (.inr (.inr (sf4 s0 s1 s2 s3)))))), (s0, .inr (2, [.int wd0, .int rz0, .ref n0])), (s1, .inr (2, [.int wd1, .int rz1, .ref n1])), (s2, .inr (2, [.int wd2, .int rz2, .ref n2])), (s3, .inr (2, [.int wd3, .int rz3, .ref n3])), (n0, .inl (cJ0, 60, .inr (.inl o0_))), (n1, .inl (cJ1, 60, .inr (.inl o1_))), (n2, .inl (cJ2, 60, .inr (.inl o2_))), (n3, .inl (cJ3, 60, .inr (.inl o3_)))] t.heap ∧ va_K (dC, dI) vwCl [(cS, .object RX3), (cJ0, .long), (cJ1, .long), (cJ2, .long), (cJ3, .long)] t ∧ va_D (va_A [(h0, .inr (7, [.ref tp, .ref sc, .ref rd, .ref cu, .ref im, .ref ig, .ref sl, .ref se, .ref sm, .ref fc])), (sl, .inl (cS, 4, .inr (.inr (.inr (.inr (sf4 s0 s1 s2 s3)))))), (s0, .inr (2, [.int wd0, .int rz0, .ref n0])), (s1, .inr (2, [.int wd1, .int rz1, .ref n1])), (s2, .inr (2, [.int wd2, .int rz2, .ref n2])), (s3, .inr (2, [.int wd3, .int rz3, .ref n3])), (n0, .inl (cJ0, 60, .inr (.inl g0))), (n1, .inl (cJ1, 60, .inr (.inl g1))), (n2, .inl (cJ2, 60, .inr (.inl g2))), (n3, .inl (cJ3, 60, .inr (.inl g3)))] sz) [(h0, .inr (7, [.ref tp, .ref sc, .ref rd, .ref cu, .ref im, .ref ig, .ref sl, .ref se, .ref sm, .ref fc])), (sl, .inl (cS, 4, .inr (.inr (.inr (.inr (sf4 s0 s1 s2 s3)))))), (s0, .inr (2, [.int wd0, .int rz0, .ref n0])), (s1, .inr (2, [.int wd1, .int rz1, .ref n1])), (s2, .inr (2, [.int wd2, .int rz2, .ref n2])), (s3, .inr (2, [.int wd3, .int rz3, .ref n3])), (n0, .inl (cJ0, 60, .inr (.inl o0_))), (n1, .inl (cJ1, 60, .inr (.inl o1_))), (n2, .inl (cJ2, 60, .inr (.inl o2_))), (n3, .inl (cJ3, 60, .inr (.inl o3_)))]) (va_A [(h0, .inr (7, [.ref tp, .ref sc, .ref rd, .ref cu, .ref im, .ref ig, .ref sl, .ref se, .ref sm, .ref fc])), (sl, .inl (cS, 4, .inr (.inr (.inr (.inr (sf4 s0 s1 s2 s3)))))), (s0, .inr (2, [.int wd0, .int rz0, .ref n0])), (s1, .inr (2, [.int wd1, .int rz1, .ref n1])), (s2, .inr (2, [.int wd2, .int rz2, .ref n2])), (s3, .inr (2, [.int wd3, .int rz3, .ref n3])), (n0, .inl (cJ0, 60, .inr (.inl g0))), (n1, .inl (cJ1, 60, .inr (.inl g1))), (n2, .inl (cJ2, 60, .inr (.inl g2))), (n3, .inl (cJ3, 60, .inr (.inl g3)))] sz)) 0 0 (va_A [(h0, .inr (7, [.ref tp, .ref sc, .ref rd, .ref cu, .ref im, .ref ig, .ref sl, .ref se, .ref sm, .ref fc])), (sl, .inl (cS, 4, .inr (.inr (.inr (.inr (sf4 s0 s1 s2 s3)))))), (s0, .inr (2, [.int wd0, .int rz0, .ref n0])), (s1, .inr (2, [.int wd1, .int rz1, .ref n1])), (s2, .inr (2, [.int wd2, .int rz2, .ref n2])), (s3, .inr (2, [.int wd3, .int rz3, .ref n3])), (n0, .inl (cJ0, 60, .inr (.inl g0))), (n1, .inl (cJ1, 60, .inr (.inl g1))), (n2, .inl (cJ2, 60, .inr (.inl g2))), (n3, .inl (cJ3, 60, .inr (.inl g3)))] sz) := by
  refine Met.ofW (cc := cX9_paste) (maxL := 8) (ret := (some .int)) pn_X9 rfl ?_
  intro p e s m args below meth c s₁ B hml hv
  obtain ⟨rfl, hsz, hP, hK, hD0, hN⟩ := hv
  have hx := B.exec
  have hb := B.bytes
  have hr := B.returns
  have hts := atoms_spec (ws := uX9_paste) B.pre
  have hown : s.vm.findClass RX9 = some m.cls := hown_of B.named rfl
  have hlocks := B.notSynchronized
  subst hsz
  have hD := hD0.self (sz := s.heap.size)
  generalize hAe : va_A [(h0, .inr (7, [.ref tp, .ref sc, .ref rd, .ref cu, .ref im, .ref ig, .ref sl, .ref se, .ref sm, .ref fc])), (sl, .inl (cS, 4, .inr (.inr (.inr (.inr (sf4 s0 s1 s2 s3)))))), (s0, .inr (2, [.int wd0, .int rz0, .ref n0])), (s1, .inr (2, [.int wd1, .int rz1, .ref n1])), (s2, .inr (2, [.int wd2, .int rz2, .ref n2])), (s3, .inr (2, [.int wd3, .int rz3, .ref n3])), (n0, .inl (cJ0, 60, .inr (.inl g0))), (n1, .inl (cJ1, 60, .inr (.inl g1))), (n2, .inl (cJ2, 60, .inr (.inl g2))), (n3, .inl (cJ3, 60, .inr (.inl g3)))] s.heap.size = A at hD ⊢
  have hA : ∀ q : Nat, s.heap.size ≤ q → A q := fun q h => by rw [← hAe]; exact Or.inr h
  have hS : va_S A s.heap s.heap [] := va_S.rf
  have hP : va_P (dC, dI) vwCl [(h0, .inr (7, [.ref tp, .ref sc, .ref rd, .ref cu, .ref im, .ref ig, .ref sl, .ref se, .ref sm, .ref fc])), (sl, .inl (cS, 4, .inr (.inr (.inr (.inr (sf4 s0 s1 s2 s3)))))), (s0, .inr (2, [.int wd0, .int rz0, .ref n0])), (s1, .inr (2, [.int wd1, .int rz1, .ref n1])), (s2, .inr (2, [.int wd2, .int rz2, .ref n2])), (s3, .inr (2, [.int wd3, .int rz3, .ref n3])), (n0, .inl (cJ0, 60, .inr (.inl g0))), (n1, .inl (cJ1, 60, .inr (.inl g1))), (n2, .inl (cJ2, 60, .inr (.inl g2))), (n3, .inl (cJ3, 60, .inr (.inl g3)))] s.heap := hP
  have hl := lv_entry ([.ref h0, .int a1, .int a2, .int a3, .int a4, .int a5]) (n := 8) (Nat.le_of_ble_eq_true rfl)
  rw [lg_entry_eq]
  generalize (lg_sl ([.ref h0, .int a1, .int a2, .int a3, .int a4, .int a5]) ++ List.replicate (8 - (lg_sl ([.ref h0, .int a1, .int a2, .int a3, .int a4, .int a5])).length) Slot.unset).toArray = ls at hl ⊢
  have hl : lv_has ls 8 [(0, .ref h0), (1, .int a1), (2, .int a2), (3, .int a3), (4, .int a4), (5, .int a5)] := hl
  refine lv_aload_n hx hb dX9_paste_0 rfl (lv_at hl 0 rfl) ?_
  refine lv_iload_n hx hb dX9_paste_1 rfl (lv_at hl 1 rfl) ?_
  refine vp_callSi (W.runV (As := [.int a1]) (rest := []) ⟨hx, hb, hml, hown, hts⟩ (kX9_hasSlot l dC dI h0 tp sc rd cu im ig sl se sm fc cS s0 s1 s2 s3 a1 ) (cwV 1 hts gX9_paste__X9_hasSlot_V206 rfl rfl rfl hd_yX9_hasSlot ⟨lel 2 2 rfl, lel 43 88 rfl⟩) ⟨pw_fb, rcv_X9 hK hP (q0 := 0) rfl, (pw_use hP hK hN [0, 1] rfl [0] rfl)⟩ rfl rfl hl.1 rfl (lv_room (Nat.le_of_ble_eq_true rfl)) dX9_paste_2 ⟨lel 0 0 rfl, lel 0 0 rfl⟩) (fun r_268 h_r_268 => ?_)
  obtain ⟨b_r_268, nz_r_268⟩ := h_r_268
  have b_r_268 : (0 : Int) ≤ r_268.toInt ∧ r_268.toInt ≤ 1 := b_r_268
  refine lv_if_eq (tgt := 16) hx hb dX9_paste_5 (by decide) (fun c_269 => ?_) (fun c_269 => ?_)
  ·
    have n_c_269 : (r_268.toInt : Int) = 0 := c_eq rfl (by decide) c_269
    have b_r_268 : (0 : Int) ≤ r_268.toInt ∧ r_268.toInt ≤ 0 := r_eq1 b_r_268 (by decide : (0 : Int) ≤ (0 : Int32).toInt ∧ (0 : Int32).toInt ≤ 0) n_c_269 (by decide)
    refine lv_bipush (v := (-2)) hx hb dX9_paste_16 (by decide) ?_
    have hP9 := hP.sub (ws' := [(h0, .inr (7, [.ref tp, .ref sc, .ref rd, .ref cu, .ref im, .ref ig, .ref sl, .ref se, .ref sm, .ref fc])), (sl, .inl (cS, 4, .inr (.inr (.inr (.inr (sf4 s0 s1 s2 s3)))))), (s0, .inr (2, [.int wd0, .int rz0, .ref n0])), (s1, .inr (2, [.int wd1, .int rz1, .ref n1])), (s2, .inr (2, [.int wd2, .int rz2, .ref n2])), (s3, .inr (2, [.int wd3, .int rz3, .ref n3])), (n0, .inl (cJ0, 60, .inr (.inl g0))), (n1, .inl (cJ1, 60, .inr (.inl g1))), (n2, .inl (cJ2, 60, .inr (.inl g2))), (n3, .inl (cJ3, 60, .inr (.inl g3)))]) [0, 1, 2, 3, 4, 5, 6, 7, 8, 9] rfl
    have hD9 := hD.sub (ws' := [(h0, .inr (7, [.ref tp, .ref sc, .ref rd, .ref cu, .ref im, .ref ig, .ref sl, .ref se, .ref sm, .ref fc])), (sl, .inl (cS, 4, .inr (.inr (.inr (.inr (sf4 s0 s1 s2 s3)))))), (s0, .inr (2, [.int wd0, .int rz0, .ref n0])), (s1, .inr (2, [.int wd1, .int rz1, .ref n1])), (s2, .inr (2, [.int wd2, .int rz2, .ref n2])), (s3, .inr (2, [.int wd3, .int rz3, .ref n3])), (n0, .inl (cJ0, 60, .inr (.inl g0))), (n1, .inl (cJ1, 60, .inr (.inl g1))), (n2, .inl (cJ2, 60, .inr (.inl g2))), (n3, .inl (cJ3, 60, .inr (.inl g3)))]) [0, 1, 2, 3, 4, 5, 6, 7, 8, 9] (by decide) rfl
    have hK9 := hK.sub (tys' := [(cS, .object RX3), (cJ0, .long), (cJ1, .long), (cJ2, .long), (cJ3, .long)]) [0, 1, 2, 3, 4] rfl
    exact W.iret (v := (-2)) hx hb hr (fun t ht hW => ⟨⟨(-2), (), rfl, (rg_w (by decide : (-2 : Int) ≤ ((-2) : Int32).toInt ∧ ((-2) : Int32).toInt ≤ -2) (by decide) (by decide)), g0, g1, g2, g3, by rw [ht]; exact hP9, va_K.moved hW.alike hK9, hD9⟩, hS.F ht⟩) hS.2.2 dX9_paste_18
  ·
    have n_c_269 : (r_268.toInt : Int) ≠ 0 := c_ne rfl (by decide) c_269
    have b_r_268 : (1 : Int) ≤ r_268.toInt ∧ r_268.toInt ≤ 1 := r_ne1 b_r_268 (by decide : (0 : Int) ≤ (0 : Int32).toInt ∧ (0 : Int32).toInt ≤ 0) n_c_269 (by decide)
    obtain ⟨b_a1, g_270⟩ := nz_r_268 c_269
    refine lv_aload_n hx hb dX9_paste_8 rfl (lv_at hl 0 rfl) ?_
    refine lv_iload_n hx hb dX9_paste_9 rfl (lv_at hl 3 rfl) ?_
    refine vp_callSi (W.runV (As := [.int a3]) (rest := []) ⟨hx, hb, hml, hown, hts⟩ (kX9_hasSlot l dC dI h0 tp sc rd cu im ig sl se sm fc cS s0 s1 s2 s3 a3 ) (cwV 1 hts gX9_paste__X9_hasSlot_V206 rfl rfl rfl hd_yX9_hasSlot ⟨lel 2 2 rfl, lel 43 88 rfl⟩) ⟨pw_fb, rcv_X9 hK hP (q0 := 0) rfl, (pw_use hP hK hN [0, 1] rfl [0] rfl)⟩ rfl rfl hl.1 rfl (lv_room (Nat.le_of_ble_eq_true rfl)) dX9_paste_10 ⟨lel 0 0 rfl, lel 0 0 rfl⟩) (fun r_271 h_r_271 => ?_)
    obtain ⟨b_r_271, nz_r_271⟩ := h_r_271
    have b_r_271 : (0 : Int) ≤ r_271.toInt ∧ r_271.toInt ≤ 1 := b_r_271
    refine lv_if_ne (tgt := 19) hx hb dX9_paste_13 (by decide) (fun c_272 => ?_) (fun c_272 => ?_)
    ·
      have n_c_272 : (r_271.toInt : Int) ≠ 0 := c_ne rfl (by decide) c_272
      have b_r_271 : (1 : Int) ≤ r_271.toInt ∧ r_271.toInt ≤ 1 := r_ne1 b_r_271 (by decide : (0 : Int) ≤ (0 : Int32).toInt ∧ (0 : Int32).toInt ≤ 0) n_c_272 (by decide)
      obtain ⟨b_a3, g_273⟩ := nz_r_271 c_272
      refine lv_aload_n hx hb dX9_paste_19 rfl (lv_at hl 0 rfl) ?_
      refine va_get (D := (dC, dI)) (ci := 7) (v := .ref sl) (C := RX9) (T := TX9) (N := 10) hx hb hts iX9_paste_X9 hown hK hP 0 rfl rfl 6 (by decide) (hts (.fieldLink RX9 50 "LuckyTicket" "slots" "[LLuckyTicket$Row;") (List.mem_of_getElem? (i := 5) rfl)) (fun _ h9 => h9) rfl dX9_paste_20 ?_
      refine lv_iload_n hx hb dX9_paste_23 rfl (lv_at hl 1 rfl) ?_
      rcases (show a1.toInt = 0 ∨ a1.toInt = 1 ∨ a1.toInt = 2 ∨ a1.toInt = 3 by omega) with h_274 | h_274 | h_274 | h_274
      ·
        obtain rfl : a1 = 0 := Int32.toInt_inj.mp (h_274.trans (by decide))
        refine va_aldq hx hb hK hP 1 0 rfl rfl (vp_in_b (by decide : (0 : Int) ≤ (0 : Int32).toInt ∧ (0 : Int32).toInt ≤ 0) (by decide) (by decide)) dX9_paste_24 ?_
        refine W.eq (g2 := F0 m 25 ls (.ref s0 :: [])) (congrArg (fun v => F0 m 25 ls (va_rf v :: [])) (sf4_0 s0 s1 s2 s3)) ?_
        refine lv_astore (lv' := [(6, .ref s0), (0, .ref h0), (1, .int 0), (2, .int a2), (3, .int a3), (4, .int a4), (5, .int a5)]) hx hb dX9_paste_25 hl (by decide) rfl (fun ls hl => ?_)
        refine lv_aload_n hx hb dX9_paste_27 rfl (lv_at hl 1 rfl) ?_
        refine va_get (D := (dC, dI)) (ci := 7) (v := .ref sl) (C := RX9) (T := TX9) (N := 10) hx hb hts iX9_paste_X9 hown hK hP 0 rfl rfl 6 (by decide) (hts (.fieldLink RX9 50 "LuckyTicket" "slots" "[LLuckyTicket$Row;") (List.mem_of_getElem? (i := 5) rfl)) (fun _ h9 => h9) rfl dX9_paste_28 ?_
        refine lv_iload_n hx hb dX9_paste_31 rfl (lv_at hl 4 rfl) ?_
        rcases (show a3.toInt = 0 ∨ a3.toInt = 1 ∨ a3.toInt = 2 ∨ a3.toInt = 3 by omega) with h_275 | h_275 | h_275 | h_275
        ·
          obtain rfl : a3 = 0 := Int32.toInt_inj.mp (h_275.trans (by decide))
          refine va_aldq hx hb hK hP 1 0 rfl rfl (vp_in_b (by decide : (0 : Int) ≤ (0 : Int32).toInt ∧ (0 : Int32).toInt ≤ 0) (by decide) (by decide)) dX9_paste_32 ?_
          refine W.eq (g2 := F0 m 33 ls (.ref s0 :: [])) (congrArg (fun v => F0 m 33 ls (va_rf v :: [])) (sf4_0 s0 s1 s2 s3)) ?_
          refine lv_astore (lv' := [(7, .ref s0), (6, .ref s0), (0, .ref h0), (1, .int 0), (2, .int a2), (3, .int 0), (4, .int a4), (5, .int a5)]) hx hb dX9_paste_33 hl (by decide) rfl (fun ls hl => ?_)
          refine lv_aload hx hb dX9_paste_35 (lv_at hl 1 rfl) ?_
          refine vp_callSi (W.runV (As := []) (rest := []) ⟨hx, hb, hml, hown, hts⟩ (kX3_stands l dC dI s0 wd0 rz0 n0 b_wd0 b_rz0) (cwV 0 hts gX9_paste__X3_stands_V270 rfl rfl rfl hd_yX3_stands ⟨lel 1 2 rfl, lel 20 88 rfl⟩) ⟨pw_fb, rcv_X3 hK hP (q0 := 2) rfl, (pw_use hP hK hN [2] rfl [] rfl)⟩ rfl rfl hl.1 rfl (lv_room (Nat.le_of_ble_eq_true rfl)) dX9_paste_37 ⟨lel 0 0 rfl, lel 0 0 rfl⟩) (fun r_276 h_r_276 => ?_)
          obtain ⟨b_r_276, nz_r_276⟩ := h_r_276
          have b_r_276 : (0 : Int) ≤ r_276.toInt ∧ r_276.toInt ≤ 1 := b_r_276
          refine lv_if_eq (tgt := 51) hx hb dX9_paste_40 (by decide) (fun c_277 => ?_) (fun c_277 => ?_)
          ·
            have n_c_277 : (r_276.toInt : Int) = 0 := c_eq rfl (by decide) c_277
            have b_r_276 : (0 : Int) ≤ r_276.toInt ∧ r_276.toInt ≤ 0 := r_eq1 b_r_276 (by decide : (0 : Int) ≤ (0 : Int32).toInt ∧ (0 : Int32).toInt ≤ 0) n_c_277 (by decide)
            refine lv_bipush (v := (-6)) hx hb dX9_paste_51 (by decide) ?_
            have hP9 := hP.sub (ws' := [(h0, .inr (7, [.ref tp, .ref sc, .ref rd, .ref cu, .ref im, .ref ig, .ref sl, .ref se, .ref sm, .ref fc])), (sl, .inl (cS, 4, .inr (.inr (.inr (.inr (sf4 s0 s1 s2 s3)))))), (s0, .inr (2, [.int wd0, .int rz0, .ref n0])), (s1, .inr (2, [.int wd1, .int rz1, .ref n1])), (s2, .inr (2, [.int wd2, .int rz2, .ref n2])), (s3, .inr (2, [.int wd3, .int rz3, .ref n3])), (n0, .inl (cJ0, 60, .inr (.inl g0))), (n1, .inl (cJ1, 60, .inr (.inl g1))), (n2, .inl (cJ2, 60, .inr (.inl g2))), (n3, .inl (cJ3, 60, .inr (.inl g3)))]) [0, 1, 2, 3, 4, 5, 6, 7, 8, 9] rfl
            have hD9 := hD.sub (ws' := [(h0, .inr (7, [.ref tp, .ref sc, .ref rd, .ref cu, .ref im, .ref ig, .ref sl, .ref se, .ref sm, .ref fc])), (sl, .inl (cS, 4, .inr (.inr (.inr (.inr (sf4 s0 s1 s2 s3)))))), (s0, .inr (2, [.int wd0, .int rz0, .ref n0])), (s1, .inr (2, [.int wd1, .int rz1, .ref n1])), (s2, .inr (2, [.int wd2, .int rz2, .ref n2])), (s3, .inr (2, [.int wd3, .int rz3, .ref n3])), (n0, .inl (cJ0, 60, .inr (.inl g0))), (n1, .inl (cJ1, 60, .inr (.inl g1))), (n2, .inl (cJ2, 60, .inr (.inl g2))), (n3, .inl (cJ3, 60, .inr (.inl g3)))]) [0, 1, 2, 3, 4, 5, 6, 7, 8, 9] (by decide) rfl
            have hK9 := hK.sub (tys' := [(cS, .object RX3), (cJ0, .long), (cJ1, .long), (cJ2, .long), (cJ3, .long)]) [0, 1, 2, 3, 4] rfl
            exact W.iret (v := (-6)) hx hb hr (fun t ht hW => ⟨⟨(-6), (), rfl, (rg_w (by decide : (-6 : Int) ≤ ((-6) : Int32).toInt ∧ ((-6) : Int32).toInt ≤ -6) (by decide) (by decide)), g0, g1, g2, g3, by rw [ht]; exact hP9, va_K.moved hW.alike hK9, hD9⟩, hS.F ht⟩) hS.2.2 dX9_paste_53
          ·
            have n_c_277 : (r_276.toInt : Int) ≠ 0 := c_ne rfl (by decide) c_277
            have b_r_276 : (1 : Int) ≤ r_276.toInt ∧ r_276.toInt ≤ 1 := r_ne1 b_r_276 (by decide : (0 : Int) ≤ (0 : Int32).toInt ∧ (0 : Int32).toInt ≤ 0) n_c_277 (by decide)
            obtain ⟨b_wd0, g_278⟩ := nz_r_276 c_277
            refine lv_aload hx hb dX9_paste_43 (lv_at hl 0 rfl) ?_
            refine vp_callSi (W.runV (As := []) (rest := []) ⟨hx, hb, hml, hown, hts⟩ (kX3_stands l dC dI s0 wd0 rz0 n0 (rg_w b_wd0 (by decide) (by decide)) b_rz0) (cwV 0 hts gX9_paste__X3_stands_V270 rfl rfl rfl hd_yX3_stands ⟨lel 1 2 rfl, lel 20 88 rfl⟩) ⟨pw_fb, rcv_X3 hK hP (q0 := 2) rfl, (pw_use hP hK hN [2] rfl [] rfl)⟩ rfl rfl hl.1 rfl (lv_room (Nat.le_of_ble_eq_true rfl)) dX9_paste_45 ⟨lel 0 0 rfl, lel 0 0 rfl⟩) (fun r_279 h_r_279 => ?_)
            obtain ⟨b_r_279, nz_r_279⟩ := h_r_279
            have b_r_279 : (0 : Int) ≤ r_279.toInt ∧ r_279.toInt ≤ 1 := b_r_279
            refine lv_if_ne (tgt := 54) hx hb dX9_paste_48 (by decide) (fun c_280 => ?_) (fun c_280 => ?_)
            ·
              have n_c_280 : (r_279.toInt : Int) ≠ 0 := c_ne rfl (by decide) c_280
              have b_r_279 : (1 : Int) ≤ r_279.toInt ∧ r_279.toInt ≤ 1 := r_ne1 b_r_279 (by decide : (0 : Int) ≤ (0 : Int32).toInt ∧ (0 : Int32).toInt ≤ 0) n_c_280 (by decide)
              obtain ⟨b_wd0, g_281⟩ := nz_r_279 c_280
              refine lv_aload hx hb dX9_paste_54 (lv_at hl 1 rfl) ?_
              refine va_getN (own := RX9) (index := 350) (ref := RX3) (host := RX9) (D := (dC, dI)) (ci := 2) (v := .int wd0) (C := RX3) (T := TX3) (N := 3) hx hb hts iX9_paste_X3 hown hK hP 2 rfl rfl 0 (by decide) (va_Nw.use rfl (hN _ (List.mem_of_getElem? (i := 21) rfl))) (fun _ h9 => h9) rfl dX9_paste_56 ?_
              refine lv_aload hx hb dX9_paste_59 (lv_at hl 0 rfl) ?_
              refine va_getN (own := RX9) (index := 350) (ref := RX3) (host := RX9) (D := (dC, dI)) (ci := 2) (v := .int wd0) (C := RX3) (T := TX3) (N := 3) hx hb hts iX9_paste_X3 hown hK hP 2 rfl rfl 0 (by decide) (va_Nw.use rfl (hN _ (List.mem_of_getElem? (i := 21) rfl))) (fun _ h9 => h9) rfl dX9_paste_61 ?_
              refine lv_icmp_eq (tgt := 70) hx hb dX9_paste_64 (by decide) (fun c_282 => ?_) (fun c_282 => ?_)
              ·
                have n_c_282 : (wd0.toInt : Int) = wd0.toInt := c_eq rfl rfl c_282
                refine lv_aload hx hb dX9_paste_70 (lv_at hl 1 rfl) ?_
                refine lv_iload_n hx hb dX9_paste_72 rfl (lv_at hl 4 rfl) ?_
                refine lv_iload hx hb dX9_paste_73 (lv_at hl 7 rfl) ?_
                refine vp_callSi (W.runV (As := [.int a2, .int a5]) (rest := []) ⟨hx, hb, hml, hown, hts⟩ (kX3_hasStretch l dC dI s0 wd0 rz0 n0 a2 a5 (rg_w b_wd0 (by decide) (by decide)) b_rz0) (cwV 2 hts gX9_paste__X3_hasStretch_V343 rfl rfl rfl hd_yX3_hasStretch ⟨lel 1 2 rfl, lel 22 88 rfl⟩) ⟨pw_fb, rcv_X3 hK hP (q0 := 2) rfl, (pw_use hP hK hN [2] rfl [] rfl)⟩ rfl rfl hl.1 rfl (lv_room (Nat.le_of_ble_eq_true rfl)) dX9_paste_75 ⟨lel 0 0 rfl, lel 0 0 rfl⟩) (fun r_283 h_r_283 => ?_)
                obtain ⟨b_r_283, nz_r_283⟩ := h_r_283
                have b_r_283 : (0 : Int) ≤ r_283.toInt ∧ r_283.toInt ≤ 1 := b_r_283
                refine lv_if_eq (tgt := 93) hx hb dX9_paste_78 (by decide) (fun c_284 => ?_) (fun c_284 => ?_)
                ·
                  have n_c_284 : (r_283.toInt : Int) = 0 := c_eq rfl (by decide) c_284
                  have b_r_283 : (0 : Int) ≤ r_283.toInt ∧ r_283.toInt ≤ 0 := r_eq1 b_r_283 (by decide : (0 : Int) ≤ (0 : Int32).toInt ∧ (0 : Int32).toInt ≤ 0) n_c_284 (by decide)
                  refine lv_bipush (v := (-7)) hx hb dX9_paste_93 (by decide) ?_
                  have hP9 := hP.sub (ws' := [(h0, .inr (7, [.ref tp, .ref sc, .ref rd, .ref cu, .ref im, .ref ig, .ref sl, .ref se, .ref sm, .ref fc])), (sl, .inl (cS, 4, .inr (.inr (.inr (.inr (sf4 s0 s1 s2 s3)))))), (s0, .inr (2, [.int wd0, .int rz0, .ref n0])), (s1, .inr (2, [.int wd1, .int rz1, .ref n1])), (s2, .inr (2, [.int wd2, .int rz2, .ref n2])), (s3, .inr (2, [.int wd3, .int rz3, .ref n3])), (n0, .inl (cJ0, 60, .inr (.inl g0))), (n1, .inl (cJ1, 60, .inr (.inl g1))), (n2, .inl (cJ2, 60, .inr (.inl g2))), (n3, .inl (cJ3, 60, .inr (.inl g3)))]) [0, 1, 2, 3, 4, 5, 6, 7, 8, 9] rfl
                  have hD9 := hD.sub (ws' := [(h0, .inr (7, [.ref tp, .ref sc, .ref rd, .ref cu, .ref im, .ref ig, .ref sl, .ref se, .ref sm, .ref fc])), (sl, .inl (cS, 4, .inr (.inr (.inr (.inr (sf4 s0 s1 s2 s3)))))), (s0, .inr (2, [.int wd0, .int rz0, .ref n0])), (s1, .inr (2, [.int wd1, .int rz1, .ref n1])), (s2, .inr (2, [.int wd2, .int rz2, .ref n2])), (s3, .inr (2, [.int wd3, .int rz3, .ref n3])), (n0, .inl (cJ0, 60, .inr (.inl g0))), (n1, .inl (cJ1, 60, .inr (.inl g1))), (n2, .inl (cJ2, 60, .inr (.inl g2))), (n3, .inl (cJ3, 60, .inr (.inl g3)))]) [0, 1, 2, 3, 4, 5, 6, 7, 8, 9] (by decide) rfl
                  have hK9 := hK.sub (tys' := [(cS, .object RX3), (cJ0, .long), (cJ1, .long), (cJ2, .long), (cJ3, .long)]) [0, 1, 2, 3, 4] rfl
                  exact W.iret (v := (-7)) hx hb hr (fun t ht hW => ⟨⟨(-7), (), rfl, (rg_w (by decide : (-7 : Int) ≤ ((-7) : Int32).toInt ∧ ((-7) : Int32).toInt ≤ -7) (by decide) (by decide)), g0, g1, g2, g3, by rw [ht]; exact hP9, va_K.moved hW.alike hK9, hD9⟩, hS.F ht⟩) hS.2.2 dX9_paste_95
                ·
                  have n_c_284 : (r_283.toInt : Int) ≠ 0 := c_ne rfl (by decide) c_284
                  have b_r_283 : (1 : Int) ≤ r_283.toInt ∧ r_283.toInt ≤ 1 := r_ne1 b_r_283 (by decide : (0 : Int) ≤ (0 : Int32).toInt ∧ (0 : Int32).toInt ≤ 0) n_c_284 (by decide)
                  obtain ⟨b_a2, b_a5, g_285⟩ := nz_r_283 c_284
                  refine lv_aload hx hb dX9_paste_81 (lv_at hl 0 rfl) ?_
                  refine lv_iload hx hb dX9_paste_83 (lv_at hl 6 rfl) ?_
                  refine lv_iload hx hb dX9_paste_85 (lv_at hl 7 rfl) ?_
                  refine vp_callSi (W.runV (As := [.int a4, .int a5]) (rest := []) ⟨hx, hb, hml, hown, hts⟩ (kX3_hasStretch l dC dI s0 wd0 rz0 n0 a4 a5 (rg_w b_wd0 (by decide) (by decide)) b_rz0) (cwV 2 hts gX9_paste__X3_hasStretch_V343 rfl rfl rfl hd_yX3_hasStretch ⟨lel 1 2 rfl, lel 22 88 rfl⟩) ⟨pw_fb, rcv_X3 hK hP (q0 := 2) rfl, (pw_use hP hK hN [2] rfl [] rfl)⟩ rfl rfl hl.1 rfl (lv_room (Nat.le_of_ble_eq_true rfl)) dX9_paste_87 ⟨lel 0 0 rfl, lel 0 0 rfl⟩) (fun r_286 h_r_286 => ?_)
                  obtain ⟨b_r_286, nz_r_286⟩ := h_r_286
                  have b_r_286 : (0 : Int) ≤ r_286.toInt ∧ r_286.toInt ≤ 1 := b_r_286
                  refine lv_if_ne (tgt := 96) hx hb dX9_paste_90 (by decide) (fun c_287 => ?_) (fun c_287 => ?_)
                  ·
                    have n_c_287 : (r_286.toInt : Int) ≠ 0 := c_ne rfl (by decide) c_287
                    have b_r_286 : (1 : Int) ≤ r_286.toInt ∧ r_286.toInt ≤ 1 := r_ne1 b_r_286 (by decide : (0 : Int) ≤ (0 : Int32).toInt ∧ (0 : Int32).toInt ≤ 0) n_c_287 (by decide)
                    obtain ⟨b_a4, b_a5, g_288⟩ := nz_r_286 c_287
                    refine lv_aload hx hb dX9_paste_96 (lv_at hl 0 rfl) ?_
                    refine lv_iload hx hb dX9_paste_98 (lv_at hl 6 rfl) ?_
                    refine lv_aload hx hb dX9_paste_100 (lv_at hl 1 rfl) ?_
                    refine lv_iload_n hx hb dX9_paste_102 rfl (lv_at hl 4 rfl) ?_
                    refine lv_iload hx hb dX9_paste_103 (lv_at hl 7 rfl) ?_
                    have hFc := va_free (wc := [(s0, .inr (2, [.int wd0, .int rz0, .ref n0])), (n0, .inl (cJ0, 60, .inr (.inl g0)))]) hD hS hA [2, 6] rfl
                    refine va_callv (va_runV (As := [.int a4, .ref s0, .int a2, .int a5]) (rest := []) ⟨hx, hb, hml, hown, hts⟩ (kX3_takeS l dC dI s0 wd0 rz0 n0 cJ0 g0 a4 a2 a5 (s.heap.size) (rg_w b_wd0 (by decide) (by decide)) b_rz0) (cwV 4 hts gX9_paste__X3_takeS_V353 rfl rfl rfl hd_yX3_take ⟨lel 2 2 rfl, lel 88 88 rfl⟩) ⟨hw_fb, rcv_X3 hK hP (q0 := 2) rfl, (hw_use hP hD hK hN [2, 6] rfl (by decide) rfl [1] rfl)⟩ rfl rfl hl.1 rfl (lv_room (Nat.le_of_ble_eq_true rfl)) dX9_paste_105 ⟨lel 0 0 rfl, lel 0 0 rfl⟩) hS (fun q _ h => hFc q h) hFc (fun u_290 t H1 locs ht hvm hw_r_289 hB hz1 hk1 hS => ?_)
                    obtain ⟨o0_291, hP1, hK1, hD1⟩ := hB
                    rw [ht] at hP1
                    have hK1 := va_K.moved hvm.symm hK1
                    obtain ⟨hP, hD⟩ := va_join (wr := [(h0, .inr (7, [.ref tp, .ref sc, .ref rd, .ref cu, .ref im, .ref ig, .ref sl, .ref se, .ref sm, .ref fc])), (sl, .inl (cS, 4, .inr (.inr (.inr (.inr (sf4 s0 s1 s2 s3)))))), (s1, .inr (2, [.int wd1, .int rz1, .ref n1])), (s2, .inr (2, [.int wd2, .int rz2, .ref n2])), (s3, .inr (2, [.int wd3, .int rz3, .ref n3])), (n1, .inl (cJ1, 60, .inr (.inl g1))), (n2, .inl (cJ2, 60, .inr (.inl g2))), (n3, .inl (cJ3, 60, .inr (.inl g3)))]) (w1 := [(s0, .inr (2, [.int wd0, .int rz0, .ref n0])), (n0, .inl (cJ0, 60, .inr (.inl o0_291)))]) hP hD [2, 6] [0, 1, 3, 4, 5, 7, 8, 9] rfl rfl (by decide) (by decide) hk1 hFc hP1 hD1
                    have hK := (hK.sub (tys' := [(cS, .object RX3), (cJ1, .long), (cJ2, .long), (cJ3, .long)]) [0, 2, 3, 4] rfl).app hK1
                    generalize H1 = H at hP hS ⊢
                    have hP := hP.sub (ws' := [(h0, .inr (7, [.ref tp, .ref sc, .ref rd, .ref cu, .ref im, .ref ig, .ref sl, .ref se, .ref sm, .ref fc])), (sl, .inl (cS, 4, .inr (.inr (.inr (.inr (sf4 s0 s1 s2 s3)))))), (s0, .inr (2, [.int wd0, .int rz0, .ref n0])), (s1, .inr (2, [.int wd1, .int rz1, .ref n1])), (s2, .inr (2, [.int wd2, .int rz2, .ref n2])), (s3, .inr (2, [.int wd3, .int rz3, .ref n3])), (n0, .inl (cJ0, 60, .inr (.inl o0_291))), (n1, .inl (cJ1, 60, .inr (.inl g1))), (n2, .inl (cJ2, 60, .inr (.inl g2))), (n3, .inl (cJ3, 60, .inr (.inl g3)))]) [0, 1, 8, 2, 3, 4, 9, 5, 6, 7] rfl
                    have hD := hD.sub (ws' := [(h0, .inr (7, [.ref tp, .ref sc, .ref rd, .ref cu, .ref im, .ref ig, .ref sl, .ref se, .ref sm, .ref fc])), (sl, .inl (cS, 4, .inr (.inr (.inr (.inr (sf4 s0 s1 s2 s3)))))), (s0, .inr (2, [.int wd0, .int rz0, .ref n0])), (s1, .inr (2, [.int wd1, .int rz1, .ref n1])), (s2, .inr (2, [.int wd2, .int rz2, .ref n2])), (s3, .inr (2, [.int wd3, .int rz3, .ref n3])), (n0, .inl (cJ0, 60, .inr (.inl o0_291))), (n1, .inl (cJ1, 60, .inr (.inl g1))), (n2, .inl (cJ2, 60, .inr (.inl g2))), (n3, .inl (cJ3, 60, .inr (.inl g3)))]) [0, 1, 8, 2, 3, 4, 9, 5, 6, 7] (by decide) rfl
                    have hK := hK.sub (tys' := [(cS, .object RX3), (cJ0, .long), (cJ1, .long), (cJ2, .long), (cJ3, .long)]) [0, 4, 1, 2, 3] rfl
                    have hP : va_P (dC, dI) vwCl [(h0, .inr (7, [.ref tp, .ref sc, .ref rd, .ref cu, .ref im, .ref ig, .ref sl, .ref se, .ref sm, .ref fc])), (sl, .inl (cS, 4, .inr (.inr (.inr (.inr (sf4 s0 s1 s2 s3)))))), (s0, .inr (2, [.int wd0, .int rz0, .ref n0])), (s1, .inr (2, [.int wd1, .int rz1, .ref n1])), (s2, .inr (2, [.int wd2, .int rz2, .ref n2])), (s3, .inr (2, [.int wd3, .int rz3, .ref n3])), (n0, .inl (cJ0, 60, .inr (.inl o0_291))), (n1, .inl (cJ1, 60, .inr (.inl g1))), (n2, .inl (cJ2, 60, .inr (.inl g2))), (n3, .inl (cJ3, 60, .inr (.inl g3)))] H := hP
                    have hD : va_D A [(h0, .inr (7, [.ref tp, .ref sc, .ref rd, .ref cu, .ref im, .ref ig, .ref sl, .ref se, .ref sm, .ref fc])), (sl, .inl (cS, 4, .inr (.inr (.inr (.inr (sf4 s0 s1 s2 s3)))))), (s0, .inr (2, [.int wd0, .int rz0, .ref n0])), (s1, .inr (2, [.int wd1, .int rz1, .ref n1])), (s2, .inr (2, [.int wd2, .int rz2, .ref n2])), (s3, .inr (2, [.int wd3, .int rz3, .ref n3])), (n0, .inl (cJ0, 60, .inr (.inl o0_291))), (n1, .inl (cJ1, 60, .inr (.inl g1))), (n2, .inl (cJ2, 60, .inr (.inl g2))), (n3, .inl (cJ3, 60, .inr (.inl g3)))] := hD
                    have hK : va_K (dC, dI) vwCl [(cS, .object RX3), (cJ0, .long), (cJ1, .long), (cJ2, .long), (cJ3, .long)] s := hK
                    refine lv_iconst (v := 0) hx hb dX9_paste_108 (by decide) ?_
                    have hP9 := hP.sub (ws' := [(h0, .inr (7, [.ref tp, .ref sc, .ref rd, .ref cu, .ref im, .ref ig, .ref sl, .ref se, .ref sm, .ref fc])), (sl, .inl (cS, 4, .inr (.inr (.inr (.inr (sf4 s0 s1 s2 s3)))))), (s0, .inr (2, [.int wd0, .int rz0, .ref n0])), (s1, .inr (2, [.int wd1, .int rz1, .ref n1])), (s2, .inr (2, [.int wd2, .int rz2, .ref n2])), (s3, .inr (2, [.int wd3, .int rz3, .ref n3])), (n0, .inl (cJ0, 60, .inr (.inl o0_291))), (n1, .inl (cJ1, 60, .inr (.inl g1))), (n2, .inl (cJ2, 60, .inr (.inl g2))), (n3, .inl (cJ3, 60, .inr (.inl g3)))]) [0, 1, 2, 3, 4, 5, 6, 7, 8, 9] rfl
                    have hD9 := hD.sub (ws' := [(h0, .inr (7, [.ref tp, .ref sc, .ref rd, .ref cu, .ref im, .ref ig, .ref sl, .ref se, .ref sm, .ref fc])), (sl, .inl (cS, 4, .inr (.inr (.inr (.inr (sf4 s0 s1 s2 s3)))))), (s0, .inr (2, [.int wd0, .int rz0, .ref n0])), (s1, .inr (2, [.int wd1, .int rz1, .ref n1])), (s2, .inr (2, [.int wd2, .int rz2, .ref n2])), (s3, .inr (2, [.int wd3, .int rz3, .ref n3])), (n0, .inl (cJ0, 60, .inr (.inl o0_291))), (n1, .inl (cJ1, 60, .inr (.inl g1))), (n2, .inl (cJ2, 60, .inr (.inl g2))), (n3, .inl (cJ3, 60, .inr (.inl g3)))]) [0, 1, 2, 3, 4, 5, 6, 7, 8, 9] (by decide) rfl
                    have hK9 := hK.sub (tys' := [(cS, .object RX3), (cJ0, .long), (cJ1, .long), (cJ2, .long), (cJ3, .long)]) [0, 1, 2, 3, 4] rfl
                    exact W.iret (v := 0) hx hb hr (fun t ht hW => ⟨⟨0, (), rfl, (rg_w (by decide : (0 : Int) ≤ (0 : Int32).toInt ∧ (0 : Int32).toInt ≤ 0) (by decide) (by decide)), o0_291, g1, g2, g3, by rw [ht]; exact hP9, va_K.moved hW.alike hK9, hD9⟩, hS.F ht⟩) hS.2.2 dX9_paste_109
                  ·
                    have n_c_287 : (r_286.toInt : Int) = 0 := c_eq rfl (by decide) c_287
                    have b_r_286 : (0 : Int) ≤ r_286.toInt ∧ r_286.toInt ≤ 0 := r_eq1 b_r_286 (by decide : (0 : Int) ≤ (0 : Int32).toInt ∧ (0 : Int32).toInt ≤ 0) n_c_287 (by decide)
                    refine lv_bipush (v := (-7)) hx hb dX9_paste_93 (by decide) ?_
                    have hP9 := hP.sub (ws' := [(h0, .inr (7, [.ref tp, .ref sc, .ref rd, .ref cu, .ref im, .ref ig, .ref sl, .ref se, .ref sm, .ref fc])), (sl, .inl (cS, 4, .inr (.inr (.inr (.inr (sf4 s0 s1 s2 s3)))))), (s0, .inr (2, [.int wd0, .int rz0, .ref n0])), (s1, .inr (2, [.int wd1, .int rz1, .ref n1])), (s2, .inr (2, [.int wd2, .int rz2, .ref n2])), (s3, .inr (2, [.int wd3, .int rz3, .ref n3])), (n0, .inl (cJ0, 60, .inr (.inl g0))), (n1, .inl (cJ1, 60, .inr (.inl g1))), (n2, .inl (cJ2, 60, .inr (.inl g2))), (n3, .inl (cJ3, 60, .inr (.inl g3)))]) [0, 1, 2, 3, 4, 5, 6, 7, 8, 9] rfl
                    have hD9 := hD.sub (ws' := [(h0, .inr (7, [.ref tp, .ref sc, .ref rd, .ref cu, .ref im, .ref ig, .ref sl, .ref se, .ref sm, .ref fc])), (sl, .inl (cS, 4, .inr (.inr (.inr (.inr (sf4 s0 s1 s2 s3)))))), (s0, .inr (2, [.int wd0, .int rz0, .ref n0])), (s1, .inr (2, [.int wd1, .int rz1, .ref n1])), (s2, .inr (2, [.int wd2, .int rz2, .ref n2])), (s3, .inr (2, [.int wd3, .int rz3, .ref n3])), (n0, .inl (cJ0, 60, .inr (.inl g0))), (n1, .inl (cJ1, 60, .inr (.inl g1))), (n2, .inl (cJ2, 60, .inr (.inl g2))), (n3, .inl (cJ3, 60, .inr (.inl g3)))]) [0, 1, 2, 3, 4, 5, 6, 7, 8, 9] (by decide) rfl
                    have hK9 := hK.sub (tys' := [(cS, .object RX3), (cJ0, .long), (cJ1, .long), (cJ2, .long), (cJ3, .long)]) [0, 1, 2, 3, 4] rfl
                    exact W.iret (v := (-7)) hx hb hr (fun t ht hW => ⟨⟨(-7), (), rfl, (rg_w (by decide : (-7 : Int) ≤ ((-7) : Int32).toInt ∧ ((-7) : Int32).toInt ≤ -7) (by decide) (by decide)), g0, g1, g2, g3, by rw [ht]; exact hP9, va_K.moved hW.alike hK9, hD9⟩, hS.F ht⟩) hS.2.2 dX9_paste_95
              ·
                have n_c_282 : (wd0.toInt : Int) ≠ wd0.toInt := c_ne rfl rfl c_282
                refine lv_bipush (v := (-8)) hx hb dX9_paste_67 (by decide) ?_
                have hP9 := hP.sub (ws' := [(h0, .inr (7, [.ref tp, .ref sc, .ref rd, .ref cu, .ref im, .ref ig, .ref sl, .ref se, .ref sm, .ref fc])), (sl, .inl (cS, 4, .inr (.inr (.inr (.inr (sf4 s0 s1 s2 s3)))))), (s0, .inr (2, [.int wd0, .int rz0, .ref n0])), (s1, .inr (2, [.int wd1, .int rz1, .ref n1])), (s2, .inr (2, [.int wd2, .int rz2, .ref n2])), (s3, .inr (2, [.int wd3, .int rz3, .ref n3])), (n0, .inl (cJ0, 60, .inr (.inl g0))), (n1, .inl (cJ1, 60, .inr (.inl g1))), (n2, .inl (cJ2, 60, .inr (.inl g2))), (n3, .inl (cJ3, 60, .inr (.inl g3)))]) [0, 1, 2, 3, 4, 5, 6, 7, 8, 9] rfl
                have hD9 := hD.sub (ws' := [(h0, .inr (7, [.ref tp, .ref sc, .ref rd, .ref cu, .ref im, .ref ig, .ref sl, .ref se, .ref sm, .ref fc])), (sl, .inl (cS, 4, .inr (.inr (.inr (.inr (sf4 s0 s1 s2 s3)))))), (s0, .inr (2, [.int wd0, .int rz0, .ref n0])), (s1, .inr (2, [.int wd1, .int rz1, .ref n1])), (s2, .inr (2, [.int wd2, .int rz2, .ref n2])), (s3, .inr (2, [.int wd3, .int rz3, .ref n3])), (n0, .inl (cJ0, 60, .inr (.inl g0))), (n1, .inl (cJ1, 60, .inr (.inl g1))), (n2, .inl (cJ2, 60, .inr (.inl g2))), (n3, .inl (cJ3, 60, .inr (.inl g3)))]) [0, 1, 2, 3, 4, 5, 6, 7, 8, 9] (by decide) rfl
                have hK9 := hK.sub (tys' := [(cS, .object RX3), (cJ0, .long), (cJ1, .long), (cJ2, .long), (cJ3, .long)]) [0, 1, 2, 3, 4] rfl
                exact W.iret (v := (-8)) hx hb hr (fun t ht hW => ⟨⟨(-8), (), rfl, (rg_w (by decide : (-8 : Int) ≤ ((-8) : Int32).toInt ∧ ((-8) : Int32).toInt ≤ -8) (by decide) (by decide)), g0, g1, g2, g3, by rw [ht]; exact hP9, va_K.moved hW.alike hK9, hD9⟩, hS.F ht⟩) hS.2.2 dX9_paste_69
            ·
              have n_c_280 : (r_279.toInt : Int) = 0 := c_eq rfl (by decide) c_280
              have b_r_279 : (0 : Int) ≤ r_279.toInt ∧ r_279.toInt ≤ 0 := r_eq1 b_r_279 (by decide : (0 : Int) ≤ (0 : Int32).toInt ∧ (0 : Int32).toInt ≤ 0) n_c_280 (by decide)
              refine lv_bipush (v := (-6)) hx hb dX9_paste_51 (by decide) ?_
              have hP9 := hP.sub (ws' := [(h0, .inr (7, [.ref tp, .ref sc, .ref rd, .ref cu, .ref im, .ref ig, .ref sl, .ref se, .ref sm, .ref fc])), (sl, .inl (cS, 4, .inr (.inr (.inr (.inr (sf4 s0 s1 s2 s3)))))), (s0, .inr (2, [.int wd0, .int rz0, .ref n0])), (s1, .inr (2, [.int wd1, .int rz1, .ref n1])), (s2, .inr (2, [.int wd2, .int rz2, .ref n2])), (s3, .inr (2, [.int wd3, .int rz3, .ref n3])), (n0, .inl (cJ0, 60, .inr (.inl g0))), (n1, .inl (cJ1, 60, .inr (.inl g1))), (n2, .inl (cJ2, 60, .inr (.inl g2))), (n3, .inl (cJ3, 60, .inr (.inl g3)))]) [0, 1, 2, 3, 4, 5, 6, 7, 8, 9] rfl
              have hD9 := hD.sub (ws' := [(h0, .inr (7, [.ref tp, .ref sc, .ref rd, .ref cu, .ref im, .ref ig, .ref sl, .ref se, .ref sm, .ref fc])), (sl, .inl (cS, 4, .inr (.inr (.inr (.inr (sf4 s0 s1 s2 s3)))))), (s0, .inr (2, [.int wd0, .int rz0, .ref n0])), (s1, .inr (2, [.int wd1, .int rz1, .ref n1])), (s2, .inr (2, [.int wd2, .int rz2, .ref n2])), (s3, .inr (2, [.int wd3, .int rz3, .ref n3])), (n0, .inl (cJ0, 60, .inr (.inl g0))), (n1, .inl (cJ1, 60, .inr (.inl g1))), (n2, .inl (cJ2, 60, .inr (.inl g2))), (n3, .inl (cJ3, 60, .inr (.inl g3)))]) [0, 1, 2, 3, 4, 5, 6, 7, 8, 9] (by decide) rfl
              have hK9 := hK.sub (tys' := [(cS, .object RX3), (cJ0, .long), (cJ1, .long), (cJ2, .long), (cJ3, .long)]) [0, 1, 2, 3, 4] rfl
              exact W.iret (v := (-6)) hx hb hr (fun t ht hW => ⟨⟨(-6), (), rfl, (rg_w (by decide : (-6 : Int) ≤ ((-6) : Int32).toInt ∧ ((-6) : Int32).toInt ≤ -6) (by decide) (by decide)), g0, g1, g2, g3, by rw [ht]; exact hP9, va_K.moved hW.alike hK9, hD9⟩, hS.F ht⟩) hS.2.2 dX9_paste_53
        ·
          obtain rfl : a3 = 1 := Int32.toInt_inj.mp (h_275.trans (by decide))
          refine va_aldq hx hb hK hP 1 0 rfl rfl (vp_in_b (by decide : (1 : Int) ≤ (1 : Int32).toInt ∧ (1 : Int32).toInt ≤ 1) (by decide) (by decide)) dX9_paste_32 ?_
          refine W.eq (g2 := F0 m 33 ls (.ref s1 :: [])) (congrArg (fun v => F0 m 33 ls (va_rf v :: [])) (sf4_1 s0 s1 s2 s3)) ?_
          refine lv_astore (lv' := [(7, .ref s1), (6, .ref s0), (0, .ref h0), (1, .int 0), (2, .int a2), (3, .int 1), (4, .int a4), (5, .int a5)]) hx hb dX9_paste_33 hl (by decide) rfl (fun ls hl => ?_)
          refine lv_aload hx hb dX9_paste_35 (lv_at hl 1 rfl) ?_
          refine vp_callSi (W.runV (As := []) (rest := []) ⟨hx, hb, hml, hown, hts⟩ (kX3_stands l dC dI s0 wd0 rz0 n0 b_wd0 b_rz0) (cwV 0 hts gX9_paste__X3_stands_V270 rfl rfl rfl hd_yX3_stands ⟨lel 1 2 rfl, lel 20 88 rfl⟩) ⟨pw_fb, rcv_X3 hK hP (q0 := 2) rfl, (pw_use hP hK hN [2] rfl [] rfl)⟩ rfl rfl hl.1 rfl (lv_room (Nat.le_of_ble_eq_true rfl)) dX9_paste_37 ⟨lel 0 0 rfl, lel 0 0 rfl⟩) (fun r_292 h_r_292 => ?_)
          obtain ⟨b_r_292, nz_r_292⟩ := h_r_292
          have b_r_292 : (0 : Int) ≤ r_292.toInt ∧ r_292.toInt ≤ 1 := b_r_292
          refine lv_if_eq (tgt := 51) hx hb dX9_paste_40 (by decide) (fun c_293 => ?_) (fun c_293 => ?_)
          ·
            have n_c_293 : (r_292.toInt : Int) = 0 := c_eq rfl (by decide) c_293
            have b_r_292 : (0 : Int) ≤ r_292.toInt ∧ r_292.toInt ≤ 0 := r_eq1 b_r_292 (by decide : (0 : Int) ≤ (0 : Int32).toInt ∧ (0 : Int32).toInt ≤ 0) n_c_293 (by decide)
            refine lv_bipush (v := (-6)) hx hb dX9_paste_51 (by decide) ?_
            have hP9 := hP.sub (ws' := [(h0, .inr (7, [.ref tp, .ref sc, .ref rd, .ref cu, .ref im, .ref ig, .ref sl, .ref se, .ref sm, .ref fc])), (sl, .inl (cS, 4, .inr (.inr (.inr (.inr (sf4 s0 s1 s2 s3)))))), (s0, .inr (2, [.int wd0, .int rz0, .ref n0])), (s1, .inr (2, [.int wd1, .int rz1, .ref n1])), (s2, .inr (2, [.int wd2, .int rz2, .ref n2])), (s3, .inr (2, [.int wd3, .int rz3, .ref n3])), (n0, .inl (cJ0, 60, .inr (.inl g0))), (n1, .inl (cJ1, 60, .inr (.inl g1))), (n2, .inl (cJ2, 60, .inr (.inl g2))), (n3, .inl (cJ3, 60, .inr (.inl g3)))]) [0, 1, 2, 3, 4, 5, 6, 7, 8, 9] rfl
            have hD9 := hD.sub (ws' := [(h0, .inr (7, [.ref tp, .ref sc, .ref rd, .ref cu, .ref im, .ref ig, .ref sl, .ref se, .ref sm, .ref fc])), (sl, .inl (cS, 4, .inr (.inr (.inr (.inr (sf4 s0 s1 s2 s3)))))), (s0, .inr (2, [.int wd0, .int rz0, .ref n0])), (s1, .inr (2, [.int wd1, .int rz1, .ref n1])), (s2, .inr (2, [.int wd2, .int rz2, .ref n2])), (s3, .inr (2, [.int wd3, .int rz3, .ref n3])), (n0, .inl (cJ0, 60, .inr (.inl g0))), (n1, .inl (cJ1, 60, .inr (.inl g1))), (n2, .inl (cJ2, 60, .inr (.inl g2))), (n3, .inl (cJ3, 60, .inr (.inl g3)))]) [0, 1, 2, 3, 4, 5, 6, 7, 8, 9] (by decide) rfl
            have hK9 := hK.sub (tys' := [(cS, .object RX3), (cJ0, .long), (cJ1, .long), (cJ2, .long), (cJ3, .long)]) [0, 1, 2, 3, 4] rfl
            exact W.iret (v := (-6)) hx hb hr (fun t ht hW => ⟨⟨(-6), (), rfl, (rg_w (by decide : (-6 : Int) ≤ ((-6) : Int32).toInt ∧ ((-6) : Int32).toInt ≤ -6) (by decide) (by decide)), g0, g1, g2, g3, by rw [ht]; exact hP9, va_K.moved hW.alike hK9, hD9⟩, hS.F ht⟩) hS.2.2 dX9_paste_53
          ·
            have n_c_293 : (r_292.toInt : Int) ≠ 0 := c_ne rfl (by decide) c_293
            have b_r_292 : (1 : Int) ≤ r_292.toInt ∧ r_292.toInt ≤ 1 := r_ne1 b_r_292 (by decide : (0 : Int) ≤ (0 : Int32).toInt ∧ (0 : Int32).toInt ≤ 0) n_c_293 (by decide)
            obtain ⟨b_wd0, g_294⟩ := nz_r_292 c_293
            refine lv_aload hx hb dX9_paste_43 (lv_at hl 0 rfl) ?_
            refine vp_callSi (W.runV (As := []) (rest := []) ⟨hx, hb, hml, hown, hts⟩ (kX3_stands l dC dI s1 wd1 rz1 n1 b_wd1 b_rz1) (cwV 0 hts gX9_paste__X3_stands_V270 rfl rfl rfl hd_yX3_stands ⟨lel 1 2 rfl, lel 20 88 rfl⟩) ⟨pw_fb, rcv_X3 hK hP (q0 := 3) rfl, (pw_use hP hK hN [3] rfl [] rfl)⟩ rfl rfl hl.1 rfl (lv_room (Nat.le_of_ble_eq_true rfl)) dX9_paste_45 ⟨lel 0 0 rfl, lel 0 0 rfl⟩) (fun r_295 h_r_295 => ?_)
            obtain ⟨b_r_295, nz_r_295⟩ := h_r_295
            have b_r_295 : (0 : Int) ≤ r_295.toInt ∧ r_295.toInt ≤ 1 := b_r_295
            refine lv_if_ne (tgt := 54) hx hb dX9_paste_48 (by decide) (fun c_296 => ?_) (fun c_296 => ?_)
            ·
              have n_c_296 : (r_295.toInt : Int) ≠ 0 := c_ne rfl (by decide) c_296
              have b_r_295 : (1 : Int) ≤ r_295.toInt ∧ r_295.toInt ≤ 1 := r_ne1 b_r_295 (by decide : (0 : Int) ≤ (0 : Int32).toInt ∧ (0 : Int32).toInt ≤ 0) n_c_296 (by decide)
              obtain ⟨b_wd1, g_297⟩ := nz_r_295 c_296
              refine lv_aload hx hb dX9_paste_54 (lv_at hl 1 rfl) ?_
              refine va_getN (own := RX9) (index := 350) (ref := RX3) (host := RX9) (D := (dC, dI)) (ci := 2) (v := .int wd0) (C := RX3) (T := TX3) (N := 3) hx hb hts iX9_paste_X3 hown hK hP 2 rfl rfl 0 (by decide) (va_Nw.use rfl (hN _ (List.mem_of_getElem? (i := 21) rfl))) (fun _ h9 => h9) rfl dX9_paste_56 ?_
              refine lv_aload hx hb dX9_paste_59 (lv_at hl 0 rfl) ?_
              refine va_getN (own := RX9) (index := 350) (ref := RX3) (host := RX9) (D := (dC, dI)) (ci := 2) (v := .int wd1) (C := RX3) (T := TX3) (N := 3) hx hb hts iX9_paste_X3 hown hK hP 3 rfl rfl 0 (by decide) (va_Nw.use rfl (hN _ (List.mem_of_getElem? (i := 21) rfl))) (fun _ h9 => h9) rfl dX9_paste_61 ?_
              refine lv_icmp_eq (tgt := 70) hx hb dX9_paste_64 (by decide) (fun c_298 => ?_) (fun c_298 => ?_)
              ·
                have n_c_298 : (wd0.toInt : Int) = wd1.toInt := c_eq rfl rfl c_298
                refine lv_aload hx hb dX9_paste_70 (lv_at hl 1 rfl) ?_
                refine lv_iload_n hx hb dX9_paste_72 rfl (lv_at hl 4 rfl) ?_
                refine lv_iload hx hb dX9_paste_73 (lv_at hl 7 rfl) ?_
                refine vp_callSi (W.runV (As := [.int a2, .int a5]) (rest := []) ⟨hx, hb, hml, hown, hts⟩ (kX3_hasStretch l dC dI s0 wd0 rz0 n0 a2 a5 (rg_w b_wd0 (by decide) (by decide)) b_rz0) (cwV 2 hts gX9_paste__X3_hasStretch_V343 rfl rfl rfl hd_yX3_hasStretch ⟨lel 1 2 rfl, lel 22 88 rfl⟩) ⟨pw_fb, rcv_X3 hK hP (q0 := 2) rfl, (pw_use hP hK hN [2] rfl [] rfl)⟩ rfl rfl hl.1 rfl (lv_room (Nat.le_of_ble_eq_true rfl)) dX9_paste_75 ⟨lel 0 0 rfl, lel 0 0 rfl⟩) (fun r_299 h_r_299 => ?_)
                obtain ⟨b_r_299, nz_r_299⟩ := h_r_299
                have b_r_299 : (0 : Int) ≤ r_299.toInt ∧ r_299.toInt ≤ 1 := b_r_299
                refine lv_if_eq (tgt := 93) hx hb dX9_paste_78 (by decide) (fun c_300 => ?_) (fun c_300 => ?_)
                ·
                  have n_c_300 : (r_299.toInt : Int) = 0 := c_eq rfl (by decide) c_300
                  have b_r_299 : (0 : Int) ≤ r_299.toInt ∧ r_299.toInt ≤ 0 := r_eq1 b_r_299 (by decide : (0 : Int) ≤ (0 : Int32).toInt ∧ (0 : Int32).toInt ≤ 0) n_c_300 (by decide)
                  refine lv_bipush (v := (-7)) hx hb dX9_paste_93 (by decide) ?_
                  have hP9 := hP.sub (ws' := [(h0, .inr (7, [.ref tp, .ref sc, .ref rd, .ref cu, .ref im, .ref ig, .ref sl, .ref se, .ref sm, .ref fc])), (sl, .inl (cS, 4, .inr (.inr (.inr (.inr (sf4 s0 s1 s2 s3)))))), (s0, .inr (2, [.int wd0, .int rz0, .ref n0])), (s1, .inr (2, [.int wd1, .int rz1, .ref n1])), (s2, .inr (2, [.int wd2, .int rz2, .ref n2])), (s3, .inr (2, [.int wd3, .int rz3, .ref n3])), (n0, .inl (cJ0, 60, .inr (.inl g0))), (n1, .inl (cJ1, 60, .inr (.inl g1))), (n2, .inl (cJ2, 60, .inr (.inl g2))), (n3, .inl (cJ3, 60, .inr (.inl g3)))]) [0, 1, 2, 3, 4, 5, 6, 7, 8, 9] rfl
                  have hD9 := hD.sub (ws' := [(h0, .inr (7, [.ref tp, .ref sc, .ref rd, .ref cu, .ref im, .ref ig, .ref sl, .ref se, .ref sm, .ref fc])), (sl, .inl (cS, 4, .inr (.inr (.inr (.inr (sf4 s0 s1 s2 s3)))))), (s0, .inr (2, [.int wd0, .int rz0, .ref n0])), (s1, .inr (2, [.int wd1, .int rz1, .ref n1])), (s2, .inr (2, [.int wd2, .int rz2, .ref n2])), (s3, .inr (2, [.int wd3, .int rz3, .ref n3])), (n0, .inl (cJ0, 60, .inr (.inl g0))), (n1, .inl (cJ1, 60, .inr (.inl g1))), (n2, .inl (cJ2, 60, .inr (.inl g2))), (n3, .inl (cJ3, 60, .inr (.inl g3)))]) [0, 1, 2, 3, 4, 5, 6, 7, 8, 9] (by decide) rfl
                  have hK9 := hK.sub (tys' := [(cS, .object RX3), (cJ0, .long), (cJ1, .long), (cJ2, .long), (cJ3, .long)]) [0, 1, 2, 3, 4] rfl
                  exact W.iret (v := (-7)) hx hb hr (fun t ht hW => ⟨⟨(-7), (), rfl, (rg_w (by decide : (-7 : Int) ≤ ((-7) : Int32).toInt ∧ ((-7) : Int32).toInt ≤ -7) (by decide) (by decide)), g0, g1, g2, g3, by rw [ht]; exact hP9, va_K.moved hW.alike hK9, hD9⟩, hS.F ht⟩) hS.2.2 dX9_paste_95
                ·
                  have n_c_300 : (r_299.toInt : Int) ≠ 0 := c_ne rfl (by decide) c_300
                  have b_r_299 : (1 : Int) ≤ r_299.toInt ∧ r_299.toInt ≤ 1 := r_ne1 b_r_299 (by decide : (0 : Int) ≤ (0 : Int32).toInt ∧ (0 : Int32).toInt ≤ 0) n_c_300 (by decide)
                  obtain ⟨b_a2, b_a5, g_301⟩ := nz_r_299 c_300
                  refine lv_aload hx hb dX9_paste_81 (lv_at hl 0 rfl) ?_
                  refine lv_iload hx hb dX9_paste_83 (lv_at hl 6 rfl) ?_
                  refine lv_iload hx hb dX9_paste_85 (lv_at hl 7 rfl) ?_
                  refine vp_callSi (W.runV (As := [.int a4, .int a5]) (rest := []) ⟨hx, hb, hml, hown, hts⟩ (kX3_hasStretch l dC dI s1 wd1 rz1 n1 a4 a5 (rg_w b_wd1 (by decide) (by decide)) b_rz1) (cwV 2 hts gX9_paste__X3_hasStretch_V343 rfl rfl rfl hd_yX3_hasStretch ⟨lel 1 2 rfl, lel 22 88 rfl⟩) ⟨pw_fb, rcv_X3 hK hP (q0 := 3) rfl, (pw_use hP hK hN [3] rfl [] rfl)⟩ rfl rfl hl.1 rfl (lv_room (Nat.le_of_ble_eq_true rfl)) dX9_paste_87 ⟨lel 0 0 rfl, lel 0 0 rfl⟩) (fun r_302 h_r_302 => ?_)
                  obtain ⟨b_r_302, nz_r_302⟩ := h_r_302
                  have b_r_302 : (0 : Int) ≤ r_302.toInt ∧ r_302.toInt ≤ 1 := b_r_302
                  refine lv_if_ne (tgt := 96) hx hb dX9_paste_90 (by decide) (fun c_303 => ?_) (fun c_303 => ?_)
                  ·
                    have n_c_303 : (r_302.toInt : Int) ≠ 0 := c_ne rfl (by decide) c_303
                    have b_r_302 : (1 : Int) ≤ r_302.toInt ∧ r_302.toInt ≤ 1 := r_ne1 b_r_302 (by decide : (0 : Int) ≤ (0 : Int32).toInt ∧ (0 : Int32).toInt ≤ 0) n_c_303 (by decide)
                    obtain ⟨b_a4, b_a5, g_304⟩ := nz_r_302 c_303
                    refine lv_aload hx hb dX9_paste_96 (lv_at hl 0 rfl) ?_
                    refine lv_iload hx hb dX9_paste_98 (lv_at hl 6 rfl) ?_
                    refine lv_aload hx hb dX9_paste_100 (lv_at hl 1 rfl) ?_
                    refine lv_iload_n hx hb dX9_paste_102 rfl (lv_at hl 4 rfl) ?_
                    refine lv_iload hx hb dX9_paste_103 (lv_at hl 7 rfl) ?_
                    have hFc := va_free (wc := [(s1, .inr (2, [.int wd1, .int rz1, .ref n1])), (n1, .inl (cJ1, 60, .inr (.inl g1))), (s0, .inr (2, [.int wd0, .int rz0, .ref n0])), (n0, .inl (cJ0, 60, .inr (.inl g0)))]) hD hS hA [3, 7, 2, 6] rfl
                    refine va_callv (va_runV (As := [.int a4, .ref s0, .int a2, .int a5]) (rest := []) ⟨hx, hb, hml, hown, hts⟩ (kX3_take l dC dI s1 wd1 rz1 n1 cJ1 g1 s0 wd0 rz0 n0 cJ0 g0 a4 a2 a5 (s.heap.size) (rg_w b_wd1 (by decide) (by decide)) b_rz1 (rg_w b_wd0 (by decide) (by decide)) b_rz0) (cwV 4 hts gX9_paste__X3_take_V353 rfl rfl rfl hd_yX3_take ⟨lel 2 2 rfl, lel 88 88 rfl⟩) ⟨hw_fb, rcv_X3 hK hP (q0 := 3) rfl, (hw_use hP hD hK hN [3, 7, 2, 6] rfl (by decide) rfl [2, 1] rfl)⟩ rfl rfl hl.1 rfl (lv_room (Nat.le_of_ble_eq_true rfl)) dX9_paste_105 ⟨lel 0 0 rfl, lel 0 0 rfl⟩) hS (fun q _ h => hFc q h) hFc (fun u_306 t H1 locs ht hvm hw_r_305 hB hz1 hk1 hS => ?_)
                    obtain ⟨o0_307, hP1, hK1, hD1⟩ := hB
                    rw [ht] at hP1
                    have hK1 := va_K.moved hvm.symm hK1
                    obtain ⟨hP, hD⟩ := va_join (wr := [(h0, .inr (7, [.ref tp, .ref sc, .ref rd, .ref cu, .ref im, .ref ig, .ref sl, .ref se, .ref sm, .ref fc])), (sl, .inl (cS, 4, .inr (.inr (.inr (.inr (sf4 s0 s1 s2 s3)))))), (s2, .inr (2, [.int wd2, .int rz2, .ref n2])), (s3, .inr (2, [.int wd3, .int rz3, .ref n3])), (n2, .inl (cJ2, 60, .inr (.inl g2))), (n3, .inl (cJ3, 60, .inr (.inl g3)))]) (w1 := [(s1, .inr (2, [.int wd1, .int rz1, .ref n1])), (n1, .inl (cJ1, 60, .inr (.inl o0_307))), (s0, .inr (2, [.int wd0, .int rz0, .ref n0])), (n0, .inl (cJ0, 60, .inr (.inl g0)))]) hP hD [3, 7, 2, 6] [0, 1, 4, 5, 8, 9] rfl rfl (by decide) (by decide) hk1 hFc hP1 hD1
                    have hK := (hK.sub (tys' := [(cS, .object RX3), (cJ2, .long), (cJ3, .long)]) [0, 3, 4] rfl).app hK1
                    generalize H1 = H at hP hS ⊢
                    have hP := hP.sub (ws' := [(h0, .inr (7, [.ref tp, .ref sc, .ref rd, .ref cu, .ref im, .ref ig, .ref sl, .ref se, .ref sm, .ref fc])), (sl, .inl (cS, 4, .inr (.inr (.inr (.inr (sf4 s0 s1 s2 s3)))))), (s0, .inr (2, [.int wd0, .int rz0, .ref n0])), (s1, .inr (2, [.int wd1, .int rz1, .ref n1])), (s2, .inr (2, [.int wd2, .int rz2, .ref n2])), (s3, .inr (2, [.int wd3, .int rz3, .ref n3])), (n0, .inl (cJ0, 60, .inr (.inl g0))), (n1, .inl (cJ1, 60, .inr (.inl o0_307))), (n2, .inl (cJ2, 60, .inr (.inl g2))), (n3, .inl (cJ3, 60, .inr (.inl g3)))]) [0, 1, 8, 6, 2, 3, 9, 7, 4, 5] rfl
                    have hD := hD.sub (ws' := [(h0, .inr (7, [.ref tp, .ref sc, .ref rd, .ref cu, .ref im, .ref ig, .ref sl, .ref se, .ref sm, .ref fc])), (sl, .inl (cS, 4, .inr (.inr (.inr (.inr (sf4 s0 s1 s2 s3)))))), (s0, .inr (2, [.int wd0, .int rz0, .ref n0])), (s1, .inr (2, [.int wd1, .int rz1, .ref n1])), (s2, .inr (2, [.int wd2, .int rz2, .ref n2])), (s3, .inr (2, [.int wd3, .int rz3, .ref n3])), (n0, .inl (cJ0, 60, .inr (.inl g0))), (n1, .inl (cJ1, 60, .inr (.inl o0_307))), (n2, .inl (cJ2, 60, .inr (.inl g2))), (n3, .inl (cJ3, 60, .inr (.inl g3)))]) [0, 1, 8, 6, 2, 3, 9, 7, 4, 5] (by decide) rfl
                    have hK := hK.sub (tys' := [(cS, .object RX3), (cJ0, .long), (cJ1, .long), (cJ2, .long), (cJ3, .long)]) [0, 4, 3, 1, 2] rfl
                    have hP : va_P (dC, dI) vwCl [(h0, .inr (7, [.ref tp, .ref sc, .ref rd, .ref cu, .ref im, .ref ig, .ref sl, .ref se, .ref sm, .ref fc])), (sl, .inl (cS, 4, .inr (.inr (.inr (.inr (sf4 s0 s1 s2 s3)))))), (s0, .inr (2, [.int wd0, .int rz0, .ref n0])), (s1, .inr (2, [.int wd1, .int rz1, .ref n1])), (s2, .inr (2, [.int wd2, .int rz2, .ref n2])), (s3, .inr (2, [.int wd3, .int rz3, .ref n3])), (n0, .inl (cJ0, 60, .inr (.inl g0))), (n1, .inl (cJ1, 60, .inr (.inl o0_307))), (n2, .inl (cJ2, 60, .inr (.inl g2))), (n3, .inl (cJ3, 60, .inr (.inl g3)))] H := hP
                    have hD : va_D A [(h0, .inr (7, [.ref tp, .ref sc, .ref rd, .ref cu, .ref im, .ref ig, .ref sl, .ref se, .ref sm, .ref fc])), (sl, .inl (cS, 4, .inr (.inr (.inr (.inr (sf4 s0 s1 s2 s3)))))), (s0, .inr (2, [.int wd0, .int rz0, .ref n0])), (s1, .inr (2, [.int wd1, .int rz1, .ref n1])), (s2, .inr (2, [.int wd2, .int rz2, .ref n2])), (s3, .inr (2, [.int wd3, .int rz3, .ref n3])), (n0, .inl (cJ0, 60, .inr (.inl g0))), (n1, .inl (cJ1, 60, .inr (.inl o0_307))), (n2, .inl (cJ2, 60, .inr (.inl g2))), (n3, .inl (cJ3, 60, .inr (.inl g3)))] := hD
                    have hK : va_K (dC, dI) vwCl [(cS, .object RX3), (cJ0, .long), (cJ1, .long), (cJ2, .long), (cJ3, .long)] s := hK
                    refine lv_iconst (v := 0) hx hb dX9_paste_108 (by decide) ?_
                    have hP9 := hP.sub (ws' := [(h0, .inr (7, [.ref tp, .ref sc, .ref rd, .ref cu, .ref im, .ref ig, .ref sl, .ref se, .ref sm, .ref fc])), (sl, .inl (cS, 4, .inr (.inr (.inr (.inr (sf4 s0 s1 s2 s3)))))), (s0, .inr (2, [.int wd0, .int rz0, .ref n0])), (s1, .inr (2, [.int wd1, .int rz1, .ref n1])), (s2, .inr (2, [.int wd2, .int rz2, .ref n2])), (s3, .inr (2, [.int wd3, .int rz3, .ref n3])), (n0, .inl (cJ0, 60, .inr (.inl g0))), (n1, .inl (cJ1, 60, .inr (.inl o0_307))), (n2, .inl (cJ2, 60, .inr (.inl g2))), (n3, .inl (cJ3, 60, .inr (.inl g3)))]) [0, 1, 2, 3, 4, 5, 6, 7, 8, 9] rfl
                    have hD9 := hD.sub (ws' := [(h0, .inr (7, [.ref tp, .ref sc, .ref rd, .ref cu, .ref im, .ref ig, .ref sl, .ref se, .ref sm, .ref fc])), (sl, .inl (cS, 4, .inr (.inr (.inr (.inr (sf4 s0 s1 s2 s3)))))), (s0, .inr (2, [.int wd0, .int rz0, .ref n0])), (s1, .inr (2, [.int wd1, .int rz1, .ref n1])), (s2, .inr (2, [.int wd2, .int rz2, .ref n2])), (s3, .inr (2, [.int wd3, .int rz3, .ref n3])), (n0, .inl (cJ0, 60, .inr (.inl g0))), (n1, .inl (cJ1, 60, .inr (.inl o0_307))), (n2, .inl (cJ2, 60, .inr (.inl g2))), (n3, .inl (cJ3, 60, .inr (.inl g3)))]) [0, 1, 2, 3, 4, 5, 6, 7, 8, 9] (by decide) rfl
                    have hK9 := hK.sub (tys' := [(cS, .object RX3), (cJ0, .long), (cJ1, .long), (cJ2, .long), (cJ3, .long)]) [0, 1, 2, 3, 4] rfl
                    exact W.iret (v := 0) hx hb hr (fun t ht hW => ⟨⟨0, (), rfl, (rg_w (by decide : (0 : Int) ≤ (0 : Int32).toInt ∧ (0 : Int32).toInt ≤ 0) (by decide) (by decide)), g0, o0_307, g2, g3, by rw [ht]; exact hP9, va_K.moved hW.alike hK9, hD9⟩, hS.F ht⟩) hS.2.2 dX9_paste_109
                  ·
                    have n_c_303 : (r_302.toInt : Int) = 0 := c_eq rfl (by decide) c_303
                    have b_r_302 : (0 : Int) ≤ r_302.toInt ∧ r_302.toInt ≤ 0 := r_eq1 b_r_302 (by decide : (0 : Int) ≤ (0 : Int32).toInt ∧ (0 : Int32).toInt ≤ 0) n_c_303 (by decide)
                    refine lv_bipush (v := (-7)) hx hb dX9_paste_93 (by decide) ?_
                    have hP9 := hP.sub (ws' := [(h0, .inr (7, [.ref tp, .ref sc, .ref rd, .ref cu, .ref im, .ref ig, .ref sl, .ref se, .ref sm, .ref fc])), (sl, .inl (cS, 4, .inr (.inr (.inr (.inr (sf4 s0 s1 s2 s3)))))), (s0, .inr (2, [.int wd0, .int rz0, .ref n0])), (s1, .inr (2, [.int wd1, .int rz1, .ref n1])), (s2, .inr (2, [.int wd2, .int rz2, .ref n2])), (s3, .inr (2, [.int wd3, .int rz3, .ref n3])), (n0, .inl (cJ0, 60, .inr (.inl g0))), (n1, .inl (cJ1, 60, .inr (.inl g1))), (n2, .inl (cJ2, 60, .inr (.inl g2))), (n3, .inl (cJ3, 60, .inr (.inl g3)))]) [0, 1, 2, 3, 4, 5, 6, 7, 8, 9] rfl
                    have hD9 := hD.sub (ws' := [(h0, .inr (7, [.ref tp, .ref sc, .ref rd, .ref cu, .ref im, .ref ig, .ref sl, .ref se, .ref sm, .ref fc])), (sl, .inl (cS, 4, .inr (.inr (.inr (.inr (sf4 s0 s1 s2 s3)))))), (s0, .inr (2, [.int wd0, .int rz0, .ref n0])), (s1, .inr (2, [.int wd1, .int rz1, .ref n1])), (s2, .inr (2, [.int wd2, .int rz2, .ref n2])), (s3, .inr (2, [.int wd3, .int rz3, .ref n3])), (n0, .inl (cJ0, 60, .inr (.inl g0))), (n1, .inl (cJ1, 60, .inr (.inl g1))), (n2, .inl (cJ2, 60, .inr (.inl g2))), (n3, .inl (cJ3, 60, .inr (.inl g3)))]) [0, 1, 2, 3, 4, 5, 6, 7, 8, 9] (by decide) rfl
                    have hK9 := hK.sub (tys' := [(cS, .object RX3), (cJ0, .long), (cJ1, .long), (cJ2, .long), (cJ3, .long)]) [0, 1, 2, 3, 4] rfl
                    exact W.iret (v := (-7)) hx hb hr (fun t ht hW => ⟨⟨(-7), (), rfl, (rg_w (by decide : (-7 : Int) ≤ ((-7) : Int32).toInt ∧ ((-7) : Int32).toInt ≤ -7) (by decide) (by decide)), g0, g1, g2, g3, by rw [ht]; exact hP9, va_K.moved hW.alike hK9, hD9⟩, hS.F ht⟩) hS.2.2 dX9_paste_95
              ·
                have n_c_298 : (wd0.toInt : Int) ≠ wd1.toInt := c_ne rfl rfl c_298
                refine lv_bipush (v := (-8)) hx hb dX9_paste_67 (by decide) ?_
                have hP9 := hP.sub (ws' := [(h0, .inr (7, [.ref tp, .ref sc, .ref rd, .ref cu, .ref im, .ref ig, .ref sl, .ref se, .ref sm, .ref fc])), (sl, .inl (cS, 4, .inr (.inr (.inr (.inr (sf4 s0 s1 s2 s3)))))), (s0, .inr (2, [.int wd0, .int rz0, .ref n0])), (s1, .inr (2, [.int wd1, .int rz1, .ref n1])), (s2, .inr (2, [.int wd2, .int rz2, .ref n2])), (s3, .inr (2, [.int wd3, .int rz3, .ref n3])), (n0, .inl (cJ0, 60, .inr (.inl g0))), (n1, .inl (cJ1, 60, .inr (.inl g1))), (n2, .inl (cJ2, 60, .inr (.inl g2))), (n3, .inl (cJ3, 60, .inr (.inl g3)))]) [0, 1, 2, 3, 4, 5, 6, 7, 8, 9] rfl
                have hD9 := hD.sub (ws' := [(h0, .inr (7, [.ref tp, .ref sc, .ref rd, .ref cu, .ref im, .ref ig, .ref sl, .ref se, .ref sm, .ref fc])), (sl, .inl (cS, 4, .inr (.inr (.inr (.inr (sf4 s0 s1 s2 s3)))))), (s0, .inr (2, [.int wd0, .int rz0, .ref n0])), (s1, .inr (2, [.int wd1, .int rz1, .ref n1])), (s2, .inr (2, [.int wd2, .int rz2, .ref n2])), (s3, .inr (2, [.int wd3, .int rz3, .ref n3])), (n0, .inl (cJ0, 60, .inr (.inl g0))), (n1, .inl (cJ1, 60, .inr (.inl g1))), (n2, .inl (cJ2, 60, .inr (.inl g2))), (n3, .inl (cJ3, 60, .inr (.inl g3)))]) [0, 1, 2, 3, 4, 5, 6, 7, 8, 9] (by decide) rfl
                have hK9 := hK.sub (tys' := [(cS, .object RX3), (cJ0, .long), (cJ1, .long), (cJ2, .long), (cJ3, .long)]) [0, 1, 2, 3, 4] rfl
                exact W.iret (v := (-8)) hx hb hr (fun t ht hW => ⟨⟨(-8), (), rfl, (rg_w (by decide : (-8 : Int) ≤ ((-8) : Int32).toInt ∧ ((-8) : Int32).toInt ≤ -8) (by decide) (by decide)), g0, g1, g2, g3, by rw [ht]; exact hP9, va_K.moved hW.alike hK9, hD9⟩, hS.F ht⟩) hS.2.2 dX9_paste_69
            ·
              have n_c_296 : (r_295.toInt : Int) = 0 := c_eq rfl (by decide) c_296
              have b_r_295 : (0 : Int) ≤ r_295.toInt ∧ r_295.toInt ≤ 0 := r_eq1 b_r_295 (by decide : (0 : Int) ≤ (0 : Int32).toInt ∧ (0 : Int32).toInt ≤ 0) n_c_296 (by decide)
              refine lv_bipush (v := (-6)) hx hb dX9_paste_51 (by decide) ?_
              have hP9 := hP.sub (ws' := [(h0, .inr (7, [.ref tp, .ref sc, .ref rd, .ref cu, .ref im, .ref ig, .ref sl, .ref se, .ref sm, .ref fc])), (sl, .inl (cS, 4, .inr (.inr (.inr (.inr (sf4 s0 s1 s2 s3)))))), (s0, .inr (2, [.int wd0, .int rz0, .ref n0])), (s1, .inr (2, [.int wd1, .int rz1, .ref n1])), (s2, .inr (2, [.int wd2, .int rz2, .ref n2])), (s3, .inr (2, [.int wd3, .int rz3, .ref n3])), (n0, .inl (cJ0, 60, .inr (.inl g0))), (n1, .inl (cJ1, 60, .inr (.inl g1))), (n2, .inl (cJ2, 60, .inr (.inl g2))), (n3, .inl (cJ3, 60, .inr (.inl g3)))]) [0, 1, 2, 3, 4, 5, 6, 7, 8, 9] rfl
              have hD9 := hD.sub (ws' := [(h0, .inr (7, [.ref tp, .ref sc, .ref rd, .ref cu, .ref im, .ref ig, .ref sl, .ref se, .ref sm, .ref fc])), (sl, .inl (cS, 4, .inr (.inr (.inr (.inr (sf4 s0 s1 s2 s3)))))), (s0, .inr (2, [.int wd0, .int rz0, .ref n0])), (s1, .inr (2, [.int wd1, .int rz1, .ref n1])), (s2, .inr (2, [.int wd2, .int rz2, .ref n2])), (s3, .inr (2, [.int wd3, .int rz3, .ref n3])), (n0, .inl (cJ0, 60, .inr (.inl g0))), (n1, .inl (cJ1, 60, .inr (.inl g1))), (n2, .inl (cJ2, 60, .inr (.inl g2))), (n3, .inl (cJ3, 60, .inr (.inl g3)))]) [0, 1, 2, 3, 4, 5, 6, 7, 8, 9] (by decide) rfl
              have hK9 := hK.sub (tys' := [(cS, .object RX3), (cJ0, .long), (cJ1, .long), (cJ2, .long), (cJ3, .long)]) [0, 1, 2, 3, 4] rfl
              exact W.iret (v := (-6)) hx hb hr (fun t ht hW => ⟨⟨(-6), (), rfl, (rg_w (by decide : (-6 : Int) ≤ ((-6) : Int32).toInt ∧ ((-6) : Int32).toInt ≤ -6) (by decide) (by decide)), g0, g1, g2, g3, by rw [ht]; exact hP9, va_K.moved hW.alike hK9, hD9⟩, hS.F ht⟩) hS.2.2 dX9_paste_53
        ·
          obtain rfl : a3 = 2 := Int32.toInt_inj.mp (h_275.trans (by decide))
          refine va_aldq hx hb hK hP 1 0 rfl rfl (vp_in_b (by decide : (2 : Int) ≤ (2 : Int32).toInt ∧ (2 : Int32).toInt ≤ 2) (by decide) (by decide)) dX9_paste_32 ?_
          refine W.eq (g2 := F0 m 33 ls (.ref s2 :: [])) (congrArg (fun v => F0 m 33 ls (va_rf v :: [])) (sf4_2 s0 s1 s2 s3)) ?_
          refine lv_astore (lv' := [(7, .ref s2), (6, .ref s0), (0, .ref h0), (1, .int 0), (2, .int a2), (3, .int 2), (4, .int a4), (5, .int a5)]) hx hb dX9_paste_33 hl (by decide) rfl (fun ls hl => ?_)
          refine lv_aload hx hb dX9_paste_35 (lv_at hl 1 rfl) ?_
          refine vp_callSi (W.runV (As := []) (rest := []) ⟨hx, hb, hml, hown, hts⟩ (kX3_stands l dC dI s0 wd0 rz0 n0 b_wd0 b_rz0) (cwV 0 hts gX9_paste__X3_stands_V270 rfl rfl rfl hd_yX3_stands ⟨lel 1 2 rfl, lel 20 88 rfl⟩) ⟨pw_fb, rcv_X3 hK hP (q0 := 2) rfl, (pw_use hP hK hN [2] rfl [] rfl)⟩ rfl rfl hl.1 rfl (lv_room (Nat.le_of_ble_eq_true rfl)) dX9_paste_37 ⟨lel 0 0 rfl, lel 0 0 rfl⟩) (fun r_308 h_r_308 => ?_)
          obtain ⟨b_r_308, nz_r_308⟩ := h_r_308
          have b_r_308 : (0 : Int) ≤ r_308.toInt ∧ r_308.toInt ≤ 1 := b_r_308
          refine lv_if_eq (tgt := 51) hx hb dX9_paste_40 (by decide) (fun c_309 => ?_) (fun c_309 => ?_)
          ·
            have n_c_309 : (r_308.toInt : Int) = 0 := c_eq rfl (by decide) c_309
            have b_r_308 : (0 : Int) ≤ r_308.toInt ∧ r_308.toInt ≤ 0 := r_eq1 b_r_308 (by decide : (0 : Int) ≤ (0 : Int32).toInt ∧ (0 : Int32).toInt ≤ 0) n_c_309 (by decide)
            refine lv_bipush (v := (-6)) hx hb dX9_paste_51 (by decide) ?_
            have hP9 := hP.sub (ws' := [(h0, .inr (7, [.ref tp, .ref sc, .ref rd, .ref cu, .ref im, .ref ig, .ref sl, .ref se, .ref sm, .ref fc])), (sl, .inl (cS, 4, .inr (.inr (.inr (.inr (sf4 s0 s1 s2 s3)))))), (s0, .inr (2, [.int wd0, .int rz0, .ref n0])), (s1, .inr (2, [.int wd1, .int rz1, .ref n1])), (s2, .inr (2, [.int wd2, .int rz2, .ref n2])), (s3, .inr (2, [.int wd3, .int rz3, .ref n3])), (n0, .inl (cJ0, 60, .inr (.inl g0))), (n1, .inl (cJ1, 60, .inr (.inl g1))), (n2, .inl (cJ2, 60, .inr (.inl g2))), (n3, .inl (cJ3, 60, .inr (.inl g3)))]) [0, 1, 2, 3, 4, 5, 6, 7, 8, 9] rfl
            have hD9 := hD.sub (ws' := [(h0, .inr (7, [.ref tp, .ref sc, .ref rd, .ref cu, .ref im, .ref ig, .ref sl, .ref se, .ref sm, .ref fc])), (sl, .inl (cS, 4, .inr (.inr (.inr (.inr (sf4 s0 s1 s2 s3)))))), (s0, .inr (2, [.int wd0, .int rz0, .ref n0])), (s1, .inr (2, [.int wd1, .int rz1, .ref n1])), (s2, .inr (2, [.int wd2, .int rz2, .ref n2])), (s3, .inr (2, [.int wd3, .int rz3, .ref n3])), (n0, .inl (cJ0, 60, .inr (.inl g0))), (n1, .inl (cJ1, 60, .inr (.inl g1))), (n2, .inl (cJ2, 60, .inr (.inl g2))), (n3, .inl (cJ3, 60, .inr (.inl g3)))]) [0, 1, 2, 3, 4, 5, 6, 7, 8, 9] (by decide) rfl
            have hK9 := hK.sub (tys' := [(cS, .object RX3), (cJ0, .long), (cJ1, .long), (cJ2, .long), (cJ3, .long)]) [0, 1, 2, 3, 4] rfl
            exact W.iret (v := (-6)) hx hb hr (fun t ht hW => ⟨⟨(-6), (), rfl, (rg_w (by decide : (-6 : Int) ≤ ((-6) : Int32).toInt ∧ ((-6) : Int32).toInt ≤ -6) (by decide) (by decide)), g0, g1, g2, g3, by rw [ht]; exact hP9, va_K.moved hW.alike hK9, hD9⟩, hS.F ht⟩) hS.2.2 dX9_paste_53
          ·
            have n_c_309 : (r_308.toInt : Int) ≠ 0 := c_ne rfl (by decide) c_309
            have b_r_308 : (1 : Int) ≤ r_308.toInt ∧ r_308.toInt ≤ 1 := r_ne1 b_r_308 (by decide : (0 : Int) ≤ (0 : Int32).toInt ∧ (0 : Int32).toInt ≤ 0) n_c_309 (by decide)
            obtain ⟨b_wd0, g_310⟩ := nz_r_308 c_309
            refine lv_aload hx hb dX9_paste_43 (lv_at hl 0 rfl) ?_
            refine vp_callSi (W.runV (As := []) (rest := []) ⟨hx, hb, hml, hown, hts⟩ (kX3_stands l dC dI s2 wd2 rz2 n2 b_wd2 b_rz2) (cwV 0 hts gX9_paste__X3_stands_V270 rfl rfl rfl hd_yX3_stands ⟨lel 1 2 rfl, lel 20 88 rfl⟩) ⟨pw_fb, rcv_X3 hK hP (q0 := 4) rfl, (pw_use hP hK hN [4] rfl [] rfl)⟩ rfl rfl hl.1 rfl (lv_room (Nat.le_of_ble_eq_true rfl)) dX9_paste_45 ⟨lel 0 0 rfl, lel 0 0 rfl⟩) (fun r_311 h_r_311 => ?_)
            obtain ⟨b_r_311, nz_r_311⟩ := h_r_311
            have b_r_311 : (0 : Int) ≤ r_311.toInt ∧ r_311.toInt ≤ 1 := b_r_311
            refine lv_if_ne (tgt := 54) hx hb dX9_paste_48 (by decide) (fun c_312 => ?_) (fun c_312 => ?_)
            ·
              have n_c_312 : (r_311.toInt : Int) ≠ 0 := c_ne rfl (by decide) c_312
              have b_r_311 : (1 : Int) ≤ r_311.toInt ∧ r_311.toInt ≤ 1 := r_ne1 b_r_311 (by decide : (0 : Int) ≤ (0 : Int32).toInt ∧ (0 : Int32).toInt ≤ 0) n_c_312 (by decide)
              obtain ⟨b_wd2, g_313⟩ := nz_r_311 c_312
              refine lv_aload hx hb dX9_paste_54 (lv_at hl 1 rfl) ?_
              refine va_getN (own := RX9) (index := 350) (ref := RX3) (host := RX9) (D := (dC, dI)) (ci := 2) (v := .int wd0) (C := RX3) (T := TX3) (N := 3) hx hb hts iX9_paste_X3 hown hK hP 2 rfl rfl 0 (by decide) (va_Nw.use rfl (hN _ (List.mem_of_getElem? (i := 21) rfl))) (fun _ h9 => h9) rfl dX9_paste_56 ?_
              refine lv_aload hx hb dX9_paste_59 (lv_at hl 0 rfl) ?_
              refine va_getN (own := RX9) (index := 350) (ref := RX3) (host := RX9) (D := (dC, dI)) (ci := 2) (v := .int wd2) (C := RX3) (T := TX3) (N := 3) hx hb hts iX9_paste_X3 hown hK hP 4 rfl rfl 0 (by decide) (va_Nw.use rfl (hN _ (List.mem_of_getElem? (i := 21) rfl))) (fun _ h9 => h9) rfl dX9_paste_61 ?_
              refine lv_icmp_eq (tgt := 70) hx hb dX9_paste_64 (by decide) (fun c_314 => ?_) (fun c_314 => ?_)
              ·
                have n_c_314 : (wd0.toInt : Int) = wd2.toInt := c_eq rfl rfl c_314
                refine lv_aload hx hb dX9_paste_70 (lv_at hl 1 rfl) ?_
                refine lv_iload_n hx hb dX9_paste_72 rfl (lv_at hl 4 rfl) ?_
                refine lv_iload hx hb dX9_paste_73 (lv_at hl 7 rfl) ?_
                refine vp_callSi (W.runV (As := [.int a2, .int a5]) (rest := []) ⟨hx, hb, hml, hown, hts⟩ (kX3_hasStretch l dC dI s0 wd0 rz0 n0 a2 a5 (rg_w b_wd0 (by decide) (by decide)) b_rz0) (cwV 2 hts gX9_paste__X3_hasStretch_V343 rfl rfl rfl hd_yX3_hasStretch ⟨lel 1 2 rfl, lel 22 88 rfl⟩) ⟨pw_fb, rcv_X3 hK hP (q0 := 2) rfl, (pw_use hP hK hN [2] rfl [] rfl)⟩ rfl rfl hl.1 rfl (lv_room (Nat.le_of_ble_eq_true rfl)) dX9_paste_75 ⟨lel 0 0 rfl, lel 0 0 rfl⟩) (fun r_315 h_r_315 => ?_)
                obtain ⟨b_r_315, nz_r_315⟩ := h_r_315
                have b_r_315 : (0 : Int) ≤ r_315.toInt ∧ r_315.toInt ≤ 1 := b_r_315
                refine lv_if_eq (tgt := 93) hx hb dX9_paste_78 (by decide) (fun c_316 => ?_) (fun c_316 => ?_)
                ·
                  have n_c_316 : (r_315.toInt : Int) = 0 := c_eq rfl (by decide) c_316
                  have b_r_315 : (0 : Int) ≤ r_315.toInt ∧ r_315.toInt ≤ 0 := r_eq1 b_r_315 (by decide : (0 : Int) ≤ (0 : Int32).toInt ∧ (0 : Int32).toInt ≤ 0) n_c_316 (by decide)
                  refine lv_bipush (v := (-7)) hx hb dX9_paste_93 (by decide) ?_
                  have hP9 := hP.sub (ws' := [(h0, .inr (7, [.ref tp, .ref sc, .ref rd, .ref cu, .ref im, .ref ig, .ref sl, .ref se, .ref sm, .ref fc])), (sl, .inl (cS, 4, .inr (.inr (.inr (.inr (sf4 s0 s1 s2 s3)))))), (s0, .inr (2, [.int wd0, .int rz0, .ref n0])), (s1, .inr (2, [.int wd1, .int rz1, .ref n1])), (s2, .inr (2, [.int wd2, .int rz2, .ref n2])), (s3, .inr (2, [.int wd3, .int rz3, .ref n3])), (n0, .inl (cJ0, 60, .inr (.inl g0))), (n1, .inl (cJ1, 60, .inr (.inl g1))), (n2, .inl (cJ2, 60, .inr (.inl g2))), (n3, .inl (cJ3, 60, .inr (.inl g3)))]) [0, 1, 2, 3, 4, 5, 6, 7, 8, 9] rfl
                  have hD9 := hD.sub (ws' := [(h0, .inr (7, [.ref tp, .ref sc, .ref rd, .ref cu, .ref im, .ref ig, .ref sl, .ref se, .ref sm, .ref fc])), (sl, .inl (cS, 4, .inr (.inr (.inr (.inr (sf4 s0 s1 s2 s3)))))), (s0, .inr (2, [.int wd0, .int rz0, .ref n0])), (s1, .inr (2, [.int wd1, .int rz1, .ref n1])), (s2, .inr (2, [.int wd2, .int rz2, .ref n2])), (s3, .inr (2, [.int wd3, .int rz3, .ref n3])), (n0, .inl (cJ0, 60, .inr (.inl g0))), (n1, .inl (cJ1, 60, .inr (.inl g1))), (n2, .inl (cJ2, 60, .inr (.inl g2))), (n3, .inl (cJ3, 60, .inr (.inl g3)))]) [0, 1, 2, 3, 4, 5, 6, 7, 8, 9] (by decide) rfl
                  have hK9 := hK.sub (tys' := [(cS, .object RX3), (cJ0, .long), (cJ1, .long), (cJ2, .long), (cJ3, .long)]) [0, 1, 2, 3, 4] rfl
                  exact W.iret (v := (-7)) hx hb hr (fun t ht hW => ⟨⟨(-7), (), rfl, (rg_w (by decide : (-7 : Int) ≤ ((-7) : Int32).toInt ∧ ((-7) : Int32).toInt ≤ -7) (by decide) (by decide)), g0, g1, g2, g3, by rw [ht]; exact hP9, va_K.moved hW.alike hK9, hD9⟩, hS.F ht⟩) hS.2.2 dX9_paste_95
                ·
                  have n_c_316 : (r_315.toInt : Int) ≠ 0 := c_ne rfl (by decide) c_316
                  have b_r_315 : (1 : Int) ≤ r_315.toInt ∧ r_315.toInt ≤ 1 := r_ne1 b_r_315 (by decide : (0 : Int) ≤ (0 : Int32).toInt ∧ (0 : Int32).toInt ≤ 0) n_c_316 (by decide)
                  obtain ⟨b_a2, b_a5, g_317⟩ := nz_r_315 c_316
                  refine lv_aload hx hb dX9_paste_81 (lv_at hl 0 rfl) ?_
                  refine lv_iload hx hb dX9_paste_83 (lv_at hl 6 rfl) ?_
                  refine lv_iload hx hb dX9_paste_85 (lv_at hl 7 rfl) ?_
                  refine vp_callSi (W.runV (As := [.int a4, .int a5]) (rest := []) ⟨hx, hb, hml, hown, hts⟩ (kX3_hasStretch l dC dI s2 wd2 rz2 n2 a4 a5 (rg_w b_wd2 (by decide) (by decide)) b_rz2) (cwV 2 hts gX9_paste__X3_hasStretch_V343 rfl rfl rfl hd_yX3_hasStretch ⟨lel 1 2 rfl, lel 22 88 rfl⟩) ⟨pw_fb, rcv_X3 hK hP (q0 := 4) rfl, (pw_use hP hK hN [4] rfl [] rfl)⟩ rfl rfl hl.1 rfl (lv_room (Nat.le_of_ble_eq_true rfl)) dX9_paste_87 ⟨lel 0 0 rfl, lel 0 0 rfl⟩) (fun r_318 h_r_318 => ?_)
                  obtain ⟨b_r_318, nz_r_318⟩ := h_r_318
                  have b_r_318 : (0 : Int) ≤ r_318.toInt ∧ r_318.toInt ≤ 1 := b_r_318
                  refine lv_if_ne (tgt := 96) hx hb dX9_paste_90 (by decide) (fun c_319 => ?_) (fun c_319 => ?_)
                  ·
                    have n_c_319 : (r_318.toInt : Int) ≠ 0 := c_ne rfl (by decide) c_319
                    have b_r_318 : (1 : Int) ≤ r_318.toInt ∧ r_318.toInt ≤ 1 := r_ne1 b_r_318 (by decide : (0 : Int) ≤ (0 : Int32).toInt ∧ (0 : Int32).toInt ≤ 0) n_c_319 (by decide)
                    obtain ⟨b_a4, b_a5, g_320⟩ := nz_r_318 c_319
                    refine lv_aload hx hb dX9_paste_96 (lv_at hl 0 rfl) ?_
                    refine lv_iload hx hb dX9_paste_98 (lv_at hl 6 rfl) ?_
                    refine lv_aload hx hb dX9_paste_100 (lv_at hl 1 rfl) ?_
                    refine lv_iload_n hx hb dX9_paste_102 rfl (lv_at hl 4 rfl) ?_
                    refine lv_iload hx hb dX9_paste_103 (lv_at hl 7 rfl) ?_
                    have hFc := va_free (wc := [(s2, .inr (2, [.int wd2, .int rz2, .ref n2])), (n2, .inl (cJ2, 60, .inr (.inl g2))), (s0, .inr (2, [.int wd0, .int rz0, .ref n0])), (n0, .inl (cJ0, 60, .inr (.inl g0)))]) hD hS hA [4, 8, 2, 6] rfl
                    refine va_callv (va_runV (As := [.int a4, .ref s0, .int a2, .int a5]) (rest := []) ⟨hx, hb, hml, hown, hts⟩ (kX3_take l dC dI s2 wd2 rz2 n2 cJ2 g2 s0 wd0 rz0 n0 cJ0 g0 a4 a2 a5 (s.heap.size) (rg_w b_wd2 (by decide) (by decide)) b_rz2 (rg_w b_wd0 (by decide) (by decide)) b_rz0) (cwV 4 hts gX9_paste__X3_take_V353 rfl rfl rfl hd_yX3_take ⟨lel 2 2 rfl, lel 88 88 rfl⟩) ⟨hw_fb, rcv_X3 hK hP (q0 := 4) rfl, (hw_use hP hD hK hN [4, 8, 2, 6] rfl (by decide) rfl [3, 1] rfl)⟩ rfl rfl hl.1 rfl (lv_room (Nat.le_of_ble_eq_true rfl)) dX9_paste_105 ⟨lel 0 0 rfl, lel 0 0 rfl⟩) hS (fun q _ h => hFc q h) hFc (fun u_322 t H1 locs ht hvm hw_r_321 hB hz1 hk1 hS => ?_)
                    obtain ⟨o0_323, hP1, hK1, hD1⟩ := hB
                    rw [ht] at hP1
                    have hK1 := va_K.moved hvm.symm hK1
                    obtain ⟨hP, hD⟩ := va_join (wr := [(h0, .inr (7, [.ref tp, .ref sc, .ref rd, .ref cu, .ref im, .ref ig, .ref sl, .ref se, .ref sm, .ref fc])), (sl, .inl (cS, 4, .inr (.inr (.inr (.inr (sf4 s0 s1 s2 s3)))))), (s1, .inr (2, [.int wd1, .int rz1, .ref n1])), (s3, .inr (2, [.int wd3, .int rz3, .ref n3])), (n1, .inl (cJ1, 60, .inr (.inl g1))), (n3, .inl (cJ3, 60, .inr (.inl g3)))]) (w1 := [(s2, .inr (2, [.int wd2, .int rz2, .ref n2])), (n2, .inl (cJ2, 60, .inr (.inl o0_323))), (s0, .inr (2, [.int wd0, .int rz0, .ref n0])), (n0, .inl (cJ0, 60, .inr (.inl g0)))]) hP hD [4, 8, 2, 6] [0, 1, 3, 5, 7, 9] rfl rfl (by decide) (by decide) hk1 hFc hP1 hD1
                    have hK := (hK.sub (tys' := [(cS, .object RX3), (cJ1, .long), (cJ3, .long)]) [0, 2, 4] rfl).app hK1
                    generalize H1 = H at hP hS ⊢
                    have hP := hP.sub (ws' := [(h0, .inr (7, [.ref tp, .ref sc, .ref rd, .ref cu, .ref im, .ref ig, .ref sl, .ref se, .ref sm, .ref fc])), (sl, .inl (cS, 4, .inr (.inr (.inr (.inr (sf4 s0 s1 s2 s3)))))), (s0, .inr (2, [.int wd0, .int rz0, .ref n0])), (s1, .inr (2, [.int wd1, .int rz1, .ref n1])), (s2, .inr (2, [.int wd2, .int rz2, .ref n2])), (s3, .inr (2, [.int wd3, .int rz3, .ref n3])), (n0, .inl (cJ0, 60, .inr (.inl g0))), (n1, .inl (cJ1, 60, .inr (.inl g1))), (n2, .inl (cJ2, 60, .inr (.inl o0_323))), (n3, .inl (cJ3, 60, .inr (.inl g3)))]) [0, 1, 8, 2, 6, 3, 9, 4, 7, 5] rfl
                    have hD := hD.sub (ws' := [(h0, .inr (7, [.ref tp, .ref sc, .ref rd, .ref cu, .ref im, .ref ig, .ref sl, .ref se, .ref sm, .ref fc])), (sl, .inl (cS, 4, .inr (.inr (.inr (.inr (sf4 s0 s1 s2 s3)))))), (s0, .inr (2, [.int wd0, .int rz0, .ref n0])), (s1, .inr (2, [.int wd1, .int rz1, .ref n1])), (s2, .inr (2, [.int wd2, .int rz2, .ref n2])), (s3, .inr (2, [.int wd3, .int rz3, .ref n3])), (n0, .inl (cJ0, 60, .inr (.inl g0))), (n1, .inl (cJ1, 60, .inr (.inl g1))), (n2, .inl (cJ2, 60, .inr (.inl o0_323))), (n3, .inl (cJ3, 60, .inr (.inl g3)))]) [0, 1, 8, 2, 6, 3, 9, 4, 7, 5] (by decide) rfl
                    have hK := hK.sub (tys' := [(cS, .object RX3), (cJ0, .long), (cJ1, .long), (cJ2, .long), (cJ3, .long)]) [0, 4, 1, 3, 2] rfl
                    have hP : va_P (dC, dI) vwCl [(h0, .inr (7, [.ref tp, .ref sc, .ref rd, .ref cu, .ref im, .ref ig, .ref sl, .ref se, .ref sm, .ref fc])), (sl, .inl (cS, 4, .inr (.inr (.inr (.inr (sf4 s0 s1 s2 s3)))))), (s0, .inr (2, [.int wd0, .int rz0, .ref n0])), (s1, .inr (2, [.int wd1, .int rz1, .ref n1])), (s2, .inr (2, [.int wd2, .int rz2, .ref n2])), (s3, .inr (2, [.int wd3, .int rz3, .ref n3])), (n0, .inl (cJ0, 60, .inr (.inl g0))), (n1, .inl (cJ1, 60, .inr (.inl g1))), (n2, .inl (cJ2, 60, .inr (.inl o0_323))), (n3, .inl (cJ3, 60, .inr (.inl g3)))] H := hP
                    have hD : va_D A [(h0, .inr (7, [.ref tp, .ref sc, .ref rd, .ref cu, .ref im, .ref ig, .ref sl, .ref se, .ref sm, .ref fc])), (sl, .inl (cS, 4, .inr (.inr (.inr (.inr (sf4 s0 s1 s2 s3)))))), (s0, .inr (2, [.int wd0, .int rz0, .ref n0])), (s1, .inr (2, [.int wd1, .int rz1, .ref n1])), (s2, .inr (2, [.int wd2, .int rz2, .ref n2])), (s3, .inr (2, [.int wd3, .int rz3, .ref n3])), (n0, .inl (cJ0, 60, .inr (.inl g0))), (n1, .inl (cJ1, 60, .inr (.inl g1))), (n2, .inl (cJ2, 60, .inr (.inl o0_323))), (n3, .inl (cJ3, 60, .inr (.inl g3)))] := hD
                    have hK : va_K (dC, dI) vwCl [(cS, .object RX3), (cJ0, .long), (cJ1, .long), (cJ2, .long), (cJ3, .long)] s := hK
                    refine lv_iconst (v := 0) hx hb dX9_paste_108 (by decide) ?_
                    have hP9 := hP.sub (ws' := [(h0, .inr (7, [.ref tp, .ref sc, .ref rd, .ref cu, .ref im, .ref ig, .ref sl, .ref se, .ref sm, .ref fc])), (sl, .inl (cS, 4, .inr (.inr (.inr (.inr (sf4 s0 s1 s2 s3)))))), (s0, .inr (2, [.int wd0, .int rz0, .ref n0])), (s1, .inr (2, [.int wd1, .int rz1, .ref n1])), (s2, .inr (2, [.int wd2, .int rz2, .ref n2])), (s3, .inr (2, [.int wd3, .int rz3, .ref n3])), (n0, .inl (cJ0, 60, .inr (.inl g0))), (n1, .inl (cJ1, 60, .inr (.inl g1))), (n2, .inl (cJ2, 60, .inr (.inl o0_323))), (n3, .inl (cJ3, 60, .inr (.inl g3)))]) [0, 1, 2, 3, 4, 5, 6, 7, 8, 9] rfl
                    have hD9 := hD.sub (ws' := [(h0, .inr (7, [.ref tp, .ref sc, .ref rd, .ref cu, .ref im, .ref ig, .ref sl, .ref se, .ref sm, .ref fc])), (sl, .inl (cS, 4, .inr (.inr (.inr (.inr (sf4 s0 s1 s2 s3)))))), (s0, .inr (2, [.int wd0, .int rz0, .ref n0])), (s1, .inr (2, [.int wd1, .int rz1, .ref n1])), (s2, .inr (2, [.int wd2, .int rz2, .ref n2])), (s3, .inr (2, [.int wd3, .int rz3, .ref n3])), (n0, .inl (cJ0, 60, .inr (.inl g0))), (n1, .inl (cJ1, 60, .inr (.inl g1))), (n2, .inl (cJ2, 60, .inr (.inl o0_323))), (n3, .inl (cJ3, 60, .inr (.inl g3)))]) [0, 1, 2, 3, 4, 5, 6, 7, 8, 9] (by decide) rfl
                    have hK9 := hK.sub (tys' := [(cS, .object RX3), (cJ0, .long), (cJ1, .long), (cJ2, .long), (cJ3, .long)]) [0, 1, 2, 3, 4] rfl
                    exact W.iret (v := 0) hx hb hr (fun t ht hW => ⟨⟨0, (), rfl, (rg_w (by decide : (0 : Int) ≤ (0 : Int32).toInt ∧ (0 : Int32).toInt ≤ 0) (by decide) (by decide)), g0, g1, o0_323, g3, by rw [ht]; exact hP9, va_K.moved hW.alike hK9, hD9⟩, hS.F ht⟩) hS.2.2 dX9_paste_109
                  ·
                    have n_c_319 : (r_318.toInt : Int) = 0 := c_eq rfl (by decide) c_319
                    have b_r_318 : (0 : Int) ≤ r_318.toInt ∧ r_318.toInt ≤ 0 := r_eq1 b_r_318 (by decide : (0 : Int) ≤ (0 : Int32).toInt ∧ (0 : Int32).toInt ≤ 0) n_c_319 (by decide)
                    refine lv_bipush (v := (-7)) hx hb dX9_paste_93 (by decide) ?_
                    have hP9 := hP.sub (ws' := [(h0, .inr (7, [.ref tp, .ref sc, .ref rd, .ref cu, .ref im, .ref ig, .ref sl, .ref se, .ref sm, .ref fc])), (sl, .inl (cS, 4, .inr (.inr (.inr (.inr (sf4 s0 s1 s2 s3)))))), (s0, .inr (2, [.int wd0, .int rz0, .ref n0])), (s1, .inr (2, [.int wd1, .int rz1, .ref n1])), (s2, .inr (2, [.int wd2, .int rz2, .ref n2])), (s3, .inr (2, [.int wd3, .int rz3, .ref n3])), (n0, .inl (cJ0, 60, .inr (.inl g0))), (n1, .inl (cJ1, 60, .inr (.inl g1))), (n2, .inl (cJ2, 60, .inr (.inl g2))), (n3, .inl (cJ3, 60, .inr (.inl g3)))]) [0, 1, 2, 3, 4, 5, 6, 7, 8, 9] rfl
                    have hD9 := hD.sub (ws' := [(h0, .inr (7, [.ref tp, .ref sc, .ref rd, .ref cu, .ref im, .ref ig, .ref sl, .ref se, .ref sm, .ref fc])), (sl, .inl (cS, 4, .inr (.inr (.inr (.inr (sf4 s0 s1 s2 s3)))))), (s0, .inr (2, [.int wd0, .int rz0, .ref n0])), (s1, .inr (2, [.int wd1, .int rz1, .ref n1])), (s2, .inr (2, [.int wd2, .int rz2, .ref n2])), (s3, .inr (2, [.int wd3, .int rz3, .ref n3])), (n0, .inl (cJ0, 60, .inr (.inl g0))), (n1, .inl (cJ1, 60, .inr (.inl g1))), (n2, .inl (cJ2, 60, .inr (.inl g2))), (n3, .inl (cJ3, 60, .inr (.inl g3)))]) [0, 1, 2, 3, 4, 5, 6, 7, 8, 9] (by decide) rfl
                    have hK9 := hK.sub (tys' := [(cS, .object RX3), (cJ0, .long), (cJ1, .long), (cJ2, .long), (cJ3, .long)]) [0, 1, 2, 3, 4] rfl
                    exact W.iret (v := (-7)) hx hb hr (fun t ht hW => ⟨⟨(-7), (), rfl, (rg_w (by decide : (-7 : Int) ≤ ((-7) : Int32).toInt ∧ ((-7) : Int32).toInt ≤ -7) (by decide) (by decide)), g0, g1, g2, g3, by rw [ht]; exact hP9, va_K.moved hW.alike hK9, hD9⟩, hS.F ht⟩) hS.2.2 dX9_paste_95
              ·
                have n_c_314 : (wd0.toInt : Int) ≠ wd2.toInt := c_ne rfl rfl c_314
                refine lv_bipush (v := (-8)) hx hb dX9_paste_67 (by decide) ?_
                have hP9 := hP.sub (ws' := [(h0, .inr (7, [.ref tp, .ref sc, .ref rd, .ref cu, .ref im, .ref ig, .ref sl, .ref se, .ref sm, .ref fc])), (sl, .inl (cS, 4, .inr (.inr (.inr (.inr (sf4 s0 s1 s2 s3)))))), (s0, .inr (2, [.int wd0, .int rz0, .ref n0])), (s1, .inr (2, [.int wd1, .int rz1, .ref n1])), (s2, .inr (2, [.int wd2, .int rz2, .ref n2])), (s3, .inr (2, [.int wd3, .int rz3, .ref n3])), (n0, .inl (cJ0, 60, .inr (.inl g0))), (n1, .inl (cJ1, 60, .inr (.inl g1))), (n2, .inl (cJ2, 60, .inr (.inl g2))), (n3, .inl (cJ3, 60, .inr (.inl g3)))]) [0, 1, 2, 3, 4, 5, 6, 7, 8, 9] rfl
                have hD9 := hD.sub (ws' := [(h0, .inr (7, [.ref tp, .ref sc, .ref rd, .ref cu, .ref im, .ref ig, .ref sl, .ref se, .ref sm, .ref fc])), (sl, .inl (cS, 4, .inr (.inr (.inr (.inr (sf4 s0 s1 s2 s3)))))), (s0, .inr (2, [.int wd0, .int rz0, .ref n0])), (s1, .inr (2, [.int wd1, .int rz1, .ref n1])), (s2, .inr (2, [.int wd2, .int rz2, .ref n2])), (s3, .inr (2, [.int wd3, .int rz3, .ref n3])), (n0, .inl (cJ0, 60, .inr (.inl g0))), (n1, .inl (cJ1, 60, .inr (.inl g1))), (n2, .inl (cJ2, 60, .inr (.inl g2))), (n3, .inl (cJ3, 60, .inr (.inl g3)))]) [0, 1, 2, 3, 4, 5, 6, 7, 8, 9] (by decide) rfl
                have hK9 := hK.sub (tys' := [(cS, .object RX3), (cJ0, .long), (cJ1, .long), (cJ2, .long), (cJ3, .long)]) [0, 1, 2, 3, 4] rfl
                exact W.iret (v := (-8)) hx hb hr (fun t ht hW => ⟨⟨(-8), (), rfl, (rg_w (by decide : (-8 : Int) ≤ ((-8) : Int32).toInt ∧ ((-8) : Int32).toInt ≤ -8) (by decide) (by decide)), g0, g1, g2, g3, by rw [ht]; exact hP9, va_K.moved hW.alike hK9, hD9⟩, hS.F ht⟩) hS.2.2 dX9_paste_69
            ·
              have n_c_312 : (r_311.toInt : Int) = 0 := c_eq rfl (by decide) c_312
              have b_r_311 : (0 : Int) ≤ r_311.toInt ∧ r_311.toInt ≤ 0 := r_eq1 b_r_311 (by decide : (0 : Int) ≤ (0 : Int32).toInt ∧ (0 : Int32).toInt ≤ 0) n_c_312 (by decide)
              refine lv_bipush (v := (-6)) hx hb dX9_paste_51 (by decide) ?_
              have hP9 := hP.sub (ws' := [(h0, .inr (7, [.ref tp, .ref sc, .ref rd, .ref cu, .ref im, .ref ig, .ref sl, .ref se, .ref sm, .ref fc])), (sl, .inl (cS, 4, .inr (.inr (.inr (.inr (sf4 s0 s1 s2 s3)))))), (s0, .inr (2, [.int wd0, .int rz0, .ref n0])), (s1, .inr (2, [.int wd1, .int rz1, .ref n1])), (s2, .inr (2, [.int wd2, .int rz2, .ref n2])), (s3, .inr (2, [.int wd3, .int rz3, .ref n3])), (n0, .inl (cJ0, 60, .inr (.inl g0))), (n1, .inl (cJ1, 60, .inr (.inl g1))), (n2, .inl (cJ2, 60, .inr (.inl g2))), (n3, .inl (cJ3, 60, .inr (.inl g3)))]) [0, 1, 2, 3, 4, 5, 6, 7, 8, 9] rfl
              have hD9 := hD.sub (ws' := [(h0, .inr (7, [.ref tp, .ref sc, .ref rd, .ref cu, .ref im, .ref ig, .ref sl, .ref se, .ref sm, .ref fc])), (sl, .inl (cS, 4, .inr (.inr (.inr (.inr (sf4 s0 s1 s2 s3)))))), (s0, .inr (2, [.int wd0, .int rz0, .ref n0])), (s1, .inr (2, [.int wd1, .int rz1, .ref n1])), (s2, .inr (2, [.int wd2, .int rz2, .ref n2])), (s3, .inr (2, [.int wd3, .int rz3, .ref n3])), (n0, .inl (cJ0, 60, .inr (.inl g0))), (n1, .inl (cJ1, 60, .inr (.inl g1))), (n2, .inl (cJ2, 60, .inr (.inl g2))), (n3, .inl (cJ3, 60, .inr (.inl g3)))]) [0, 1, 2, 3, 4, 5, 6, 7, 8, 9] (by decide) rfl
              have hK9 := hK.sub (tys' := [(cS, .object RX3), (cJ0, .long), (cJ1, .long), (cJ2, .long), (cJ3, .long)]) [0, 1, 2, 3, 4] rfl
              exact W.iret (v := (-6)) hx hb hr (fun t ht hW => ⟨⟨(-6), (), rfl, (rg_w (by decide : (-6 : Int) ≤ ((-6) : Int32).toInt ∧ ((-6) : Int32).toInt ≤ -6) (by decide) (by decide)), g0, g1, g2, g3, by rw [ht]; exact hP9, va_K.moved hW.alike hK9, hD9⟩, hS.F ht⟩) hS.2.2 dX9_paste_53
        ·
          obtain rfl : a3 = 3 := Int32.toInt_inj.mp (h_275.trans (by decide))
          refine va_aldq hx hb hK hP 1 0 rfl rfl (vp_in_b (by decide : (3 : Int) ≤ (3 : Int32).toInt ∧ (3 : Int32).toInt ≤ 3) (by decide) (by decide)) dX9_paste_32 ?_
          refine W.eq (g2 := F0 m 33 ls (.ref s3 :: [])) (congrArg (fun v => F0 m 33 ls (va_rf v :: [])) (sf4_3 s0 s1 s2 s3)) ?_
          refine lv_astore (lv' := [(7, .ref s3), (6, .ref s0), (0, .ref h0), (1, .int 0), (2, .int a2), (3, .int 3), (4, .int a4), (5, .int a5)]) hx hb dX9_paste_33 hl (by decide) rfl (fun ls hl => ?_)
          refine lv_aload hx hb dX9_paste_35 (lv_at hl 1 rfl) ?_
          refine vp_callSi (W.runV (As := []) (rest := []) ⟨hx, hb, hml, hown, hts⟩ (kX3_stands l dC dI s0 wd0 rz0 n0 b_wd0 b_rz0) (cwV 0 hts gX9_paste__X3_stands_V270 rfl rfl rfl hd_yX3_stands ⟨lel 1 2 rfl, lel 20 88 rfl⟩) ⟨pw_fb, rcv_X3 hK hP (q0 := 2) rfl, (pw_use hP hK hN [2] rfl [] rfl)⟩ rfl rfl hl.1 rfl (lv_room (Nat.le_of_ble_eq_true rfl)) dX9_paste_37 ⟨lel 0 0 rfl, lel 0 0 rfl⟩) (fun r_324 h_r_324 => ?_)
          obtain ⟨b_r_324, nz_r_324⟩ := h_r_324
          have b_r_324 : (0 : Int) ≤ r_324.toInt ∧ r_324.toInt ≤ 1 := b_r_324
          refine lv_if_eq (tgt := 51) hx hb dX9_paste_40 (by decide) (fun c_325 => ?_) (fun c_325 => ?_)
          ·
            have n_c_325 : (r_324.toInt : Int) = 0 := c_eq rfl (by decide) c_325
            have b_r_324 : (0 : Int) ≤ r_324.toInt ∧ r_324.toInt ≤ 0 := r_eq1 b_r_324 (by decide : (0 : Int) ≤ (0 : Int32).toInt ∧ (0 : Int32).toInt ≤ 0) n_c_325 (by decide)
            refine lv_bipush (v := (-6)) hx hb dX9_paste_51 (by decide) ?_
            have hP9 := hP.sub (ws' := [(h0, .inr (7, [.ref tp, .ref sc, .ref rd, .ref cu, .ref im, .ref ig, .ref sl, .ref se, .ref sm, .ref fc])), (sl, .inl (cS, 4, .inr (.inr (.inr (.inr (sf4 s0 s1 s2 s3)))))), (s0, .inr (2, [.int wd0, .int rz0, .ref n0])), (s1, .inr (2, [.int wd1, .int rz1, .ref n1])), (s2, .inr (2, [.int wd2, .int rz2, .ref n2])), (s3, .inr (2, [.int wd3, .int rz3, .ref n3])), (n0, .inl (cJ0, 60, .inr (.inl g0))), (n1, .inl (cJ1, 60, .inr (.inl g1))), (n2, .inl (cJ2, 60, .inr (.inl g2))), (n3, .inl (cJ3, 60, .inr (.inl g3)))]) [0, 1, 2, 3, 4, 5, 6, 7, 8, 9] rfl
            have hD9 := hD.sub (ws' := [(h0, .inr (7, [.ref tp, .ref sc, .ref rd, .ref cu, .ref im, .ref ig, .ref sl, .ref se, .ref sm, .ref fc])), (sl, .inl (cS, 4, .inr (.inr (.inr (.inr (sf4 s0 s1 s2 s3)))))), (s0, .inr (2, [.int wd0, .int rz0, .ref n0])), (s1, .inr (2, [.int wd1, .int rz1, .ref n1])), (s2, .inr (2, [.int wd2, .int rz2, .ref n2])), (s3, .inr (2, [.int wd3, .int rz3, .ref n3])), (n0, .inl (cJ0, 60, .inr (.inl g0))), (n1, .inl (cJ1, 60, .inr (.inl g1))), (n2, .inl (cJ2, 60, .inr (.inl g2))), (n3, .inl (cJ3, 60, .inr (.inl g3)))]) [0, 1, 2, 3, 4, 5, 6, 7, 8, 9] (by decide) rfl
            have hK9 := hK.sub (tys' := [(cS, .object RX3), (cJ0, .long), (cJ1, .long), (cJ2, .long), (cJ3, .long)]) [0, 1, 2, 3, 4] rfl
            exact W.iret (v := (-6)) hx hb hr (fun t ht hW => ⟨⟨(-6), (), rfl, (rg_w (by decide : (-6 : Int) ≤ ((-6) : Int32).toInt ∧ ((-6) : Int32).toInt ≤ -6) (by decide) (by decide)), g0, g1, g2, g3, by rw [ht]; exact hP9, va_K.moved hW.alike hK9, hD9⟩, hS.F ht⟩) hS.2.2 dX9_paste_53
          ·
            have n_c_325 : (r_324.toInt : Int) ≠ 0 := c_ne rfl (by decide) c_325
            have b_r_324 : (1 : Int) ≤ r_324.toInt ∧ r_324.toInt ≤ 1 := r_ne1 b_r_324 (by decide : (0 : Int) ≤ (0 : Int32).toInt ∧ (0 : Int32).toInt ≤ 0) n_c_325 (by decide)
            obtain ⟨b_wd0, g_326⟩ := nz_r_324 c_325
            refine lv_aload hx hb dX9_paste_43 (lv_at hl 0 rfl) ?_
            refine vp_callSi (W.runV (As := []) (rest := []) ⟨hx, hb, hml, hown, hts⟩ (kX3_stands l dC dI s3 wd3 rz3 n3 b_wd3 b_rz3) (cwV 0 hts gX9_paste__X3_stands_V270 rfl rfl rfl hd_yX3_stands ⟨lel 1 2 rfl, lel 20 88 rfl⟩) ⟨pw_fb, rcv_X3 hK hP (q0 := 5) rfl, (pw_use hP hK hN [5] rfl [] rfl)⟩ rfl rfl hl.1 rfl (lv_room (Nat.le_of_ble_eq_true rfl)) dX9_paste_45 ⟨lel 0 0 rfl, lel 0 0 rfl⟩) (fun r_327 h_r_327 => ?_)
            obtain ⟨b_r_327, nz_r_327⟩ := h_r_327
            have b_r_327 : (0 : Int) ≤ r_327.toInt ∧ r_327.toInt ≤ 1 := b_r_327
            refine lv_if_ne (tgt := 54) hx hb dX9_paste_48 (by decide) (fun c_328 => ?_) (fun c_328 => ?_)
            ·
              have n_c_328 : (r_327.toInt : Int) ≠ 0 := c_ne rfl (by decide) c_328
              have b_r_327 : (1 : Int) ≤ r_327.toInt ∧ r_327.toInt ≤ 1 := r_ne1 b_r_327 (by decide : (0 : Int) ≤ (0 : Int32).toInt ∧ (0 : Int32).toInt ≤ 0) n_c_328 (by decide)
              obtain ⟨b_wd3, g_329⟩ := nz_r_327 c_328
              refine lv_aload hx hb dX9_paste_54 (lv_at hl 1 rfl) ?_
              refine va_getN (own := RX9) (index := 350) (ref := RX3) (host := RX9) (D := (dC, dI)) (ci := 2) (v := .int wd0) (C := RX3) (T := TX3) (N := 3) hx hb hts iX9_paste_X3 hown hK hP 2 rfl rfl 0 (by decide) (va_Nw.use rfl (hN _ (List.mem_of_getElem? (i := 21) rfl))) (fun _ h9 => h9) rfl dX9_paste_56 ?_
              refine lv_aload hx hb dX9_paste_59 (lv_at hl 0 rfl) ?_
              refine va_getN (own := RX9) (index := 350) (ref := RX3) (host := RX9) (D := (dC, dI)) (ci := 2) (v := .int wd3) (C := RX3) (T := TX3) (N := 3) hx hb hts iX9_paste_X3 hown hK hP 5 rfl rfl 0 (by decide) (va_Nw.use rfl (hN _ (List.mem_of_getElem? (i := 21) rfl))) (fun _ h9 => h9) rfl dX9_paste_61 ?_
              refine lv_icmp_eq (tgt := 70) hx hb dX9_paste_64 (by decide) (fun c_330 => ?_) (fun c_330 => ?_)
              ·
                have n_c_330 : (wd0.toInt : Int) = wd3.toInt := c_eq rfl rfl c_330
                refine lv_aload hx hb dX9_paste_70 (lv_at hl 1 rfl) ?_
                refine lv_iload_n hx hb dX9_paste_72 rfl (lv_at hl 4 rfl) ?_
                refine lv_iload hx hb dX9_paste_73 (lv_at hl 7 rfl) ?_
                refine vp_callSi (W.runV (As := [.int a2, .int a5]) (rest := []) ⟨hx, hb, hml, hown, hts⟩ (kX3_hasStretch l dC dI s0 wd0 rz0 n0 a2 a5 (rg_w b_wd0 (by decide) (by decide)) b_rz0) (cwV 2 hts gX9_paste__X3_hasStretch_V343 rfl rfl rfl hd_yX3_hasStretch ⟨lel 1 2 rfl, lel 22 88 rfl⟩) ⟨pw_fb, rcv_X3 hK hP (q0 := 2) rfl, (pw_use hP hK hN [2] rfl [] rfl)⟩ rfl rfl hl.1 rfl (lv_room (Nat.le_of_ble_eq_true rfl)) dX9_paste_75 ⟨lel 0 0 rfl, lel 0 0 rfl⟩) (fun r_331 h_r_331 => ?_)
                obtain ⟨b_r_331, nz_r_331⟩ := h_r_331
                have b_r_331 : (0 : Int) ≤ r_331.toInt ∧ r_331.toInt ≤ 1 := b_r_331
                refine lv_if_eq (tgt := 93) hx hb dX9_paste_78 (by decide) (fun c_332 => ?_) (fun c_332 => ?_)
                ·
                  have n_c_332 : (r_331.toInt : Int) = 0 := c_eq rfl (by decide) c_332
                  have b_r_331 : (0 : Int) ≤ r_331.toInt ∧ r_331.toInt ≤ 0 := r_eq1 b_r_331 (by decide : (0 : Int) ≤ (0 : Int32).toInt ∧ (0 : Int32).toInt ≤ 0) n_c_332 (by decide)
                  refine lv_bipush (v := (-7)) hx hb dX9_paste_93 (by decide) ?_
                  have hP9 := hP.sub (ws' := [(h0, .inr (7, [.ref tp, .ref sc, .ref rd, .ref cu, .ref im, .ref ig, .ref sl, .ref se, .ref sm, .ref fc])), (sl, .inl (cS, 4, .inr (.inr (.inr (.inr (sf4 s0 s1 s2 s3)))))), (s0, .inr (2, [.int wd0, .int rz0, .ref n0])), (s1, .inr (2, [.int wd1, .int rz1, .ref n1])), (s2, .inr (2, [.int wd2, .int rz2, .ref n2])), (s3, .inr (2, [.int wd3, .int rz3, .ref n3])), (n0, .inl (cJ0, 60, .inr (.inl g0))), (n1, .inl (cJ1, 60, .inr (.inl g1))), (n2, .inl (cJ2, 60, .inr (.inl g2))), (n3, .inl (cJ3, 60, .inr (.inl g3)))]) [0, 1, 2, 3, 4, 5, 6, 7, 8, 9] rfl
                  have hD9 := hD.sub (ws' := [(h0, .inr (7, [.ref tp, .ref sc, .ref rd, .ref cu, .ref im, .ref ig, .ref sl, .ref se, .ref sm, .ref fc])), (sl, .inl (cS, 4, .inr (.inr (.inr (.inr (sf4 s0 s1 s2 s3)))))), (s0, .inr (2, [.int wd0, .int rz0, .ref n0])), (s1, .inr (2, [.int wd1, .int rz1, .ref n1])), (s2, .inr (2, [.int wd2, .int rz2, .ref n2])), (s3, .inr (2, [.int wd3, .int rz3, .ref n3])), (n0, .inl (cJ0, 60, .inr (.inl g0))), (n1, .inl (cJ1, 60, .inr (.inl g1))), (n2, .inl (cJ2, 60, .inr (.inl g2))), (n3, .inl (cJ3, 60, .inr (.inl g3)))]) [0, 1, 2, 3, 4, 5, 6, 7, 8, 9] (by decide) rfl
                  have hK9 := hK.sub (tys' := [(cS, .object RX3), (cJ0, .long), (cJ1, .long), (cJ2, .long), (cJ3, .long)]) [0, 1, 2, 3, 4] rfl
                  exact W.iret (v := (-7)) hx hb hr (fun t ht hW => ⟨⟨(-7), (), rfl, (rg_w (by decide : (-7 : Int) ≤ ((-7) : Int32).toInt ∧ ((-7) : Int32).toInt ≤ -7) (by decide) (by decide)), g0, g1, g2, g3, by rw [ht]; exact hP9, va_K.moved hW.alike hK9, hD9⟩, hS.F ht⟩) hS.2.2 dX9_paste_95
                ·
                  have n_c_332 : (r_331.toInt : Int) ≠ 0 := c_ne rfl (by decide) c_332
                  have b_r_331 : (1 : Int) ≤ r_331.toInt ∧ r_331.toInt ≤ 1 := r_ne1 b_r_331 (by decide : (0 : Int) ≤ (0 : Int32).toInt ∧ (0 : Int32).toInt ≤ 0) n_c_332 (by decide)
                  obtain ⟨b_a2, b_a5, g_333⟩ := nz_r_331 c_332
                  refine lv_aload hx hb dX9_paste_81 (lv_at hl 0 rfl) ?_
                  refine lv_iload hx hb dX9_paste_83 (lv_at hl 6 rfl) ?_
                  refine lv_iload hx hb dX9_paste_85 (lv_at hl 7 rfl) ?_
                  refine vp_callSi (W.runV (As := [.int a4, .int a5]) (rest := []) ⟨hx, hb, hml, hown, hts⟩ (kX3_hasStretch l dC dI s3 wd3 rz3 n3 a4 a5 (rg_w b_wd3 (by decide) (by decide)) b_rz3) (cwV 2 hts gX9_paste__X3_hasStretch_V343 rfl rfl rfl hd_yX3_hasStretch ⟨lel 1 2 rfl, lel 22 88 rfl⟩) ⟨pw_fb, rcv_X3 hK hP (q0 := 5) rfl, (pw_use hP hK hN [5] rfl [] rfl)⟩ rfl rfl hl.1 rfl (lv_room (Nat.le_of_ble_eq_true rfl)) dX9_paste_87 ⟨lel 0 0 rfl, lel 0 0 rfl⟩) (fun r_334 h_r_334 => ?_)
                  obtain ⟨b_r_334, nz_r_334⟩ := h_r_334
                  have b_r_334 : (0 : Int) ≤ r_334.toInt ∧ r_334.toInt ≤ 1 := b_r_334
                  refine lv_if_ne (tgt := 96) hx hb dX9_paste_90 (by decide) (fun c_335 => ?_) (fun c_335 => ?_)
                  ·
                    have n_c_335 : (r_334.toInt : Int) ≠ 0 := c_ne rfl (by decide) c_335
                    have b_r_334 : (1 : Int) ≤ r_334.toInt ∧ r_334.toInt ≤ 1 := r_ne1 b_r_334 (by decide : (0 : Int) ≤ (0 : Int32).toInt ∧ (0 : Int32).toInt ≤ 0) n_c_335 (by decide)
                    obtain ⟨b_a4, b_a5, g_336⟩ := nz_r_334 c_335
                    refine lv_aload hx hb dX9_paste_96 (lv_at hl 0 rfl) ?_
                    refine lv_iload hx hb dX9_paste_98 (lv_at hl 6 rfl) ?_
                    refine lv_aload hx hb dX9_paste_100 (lv_at hl 1 rfl) ?_
                    refine lv_iload_n hx hb dX9_paste_102 rfl (lv_at hl 4 rfl) ?_
                    refine lv_iload hx hb dX9_paste_103 (lv_at hl 7 rfl) ?_
                    have hFc := va_free (wc := [(s3, .inr (2, [.int wd3, .int rz3, .ref n3])), (n3, .inl (cJ3, 60, .inr (.inl g3))), (s0, .inr (2, [.int wd0, .int rz0, .ref n0])), (n0, .inl (cJ0, 60, .inr (.inl g0)))]) hD hS hA [5, 9, 2, 6] rfl
                    refine va_callv (va_runV (As := [.int a4, .ref s0, .int a2, .int a5]) (rest := []) ⟨hx, hb, hml, hown, hts⟩ (kX3_take l dC dI s3 wd3 rz3 n3 cJ3 g3 s0 wd0 rz0 n0 cJ0 g0 a4 a2 a5 (s.heap.size) (rg_w b_wd3 (by decide) (by decide)) b_rz3 (rg_w b_wd0 (by decide) (by decide)) b_rz0) (cwV 4 hts gX9_paste__X3_take_V353 rfl rfl rfl hd_yX3_take ⟨lel 2 2 rfl, lel 88 88 rfl⟩) ⟨hw_fb, rcv_X3 hK hP (q0 := 5) rfl, (hw_use hP hD hK hN [5, 9, 2, 6] rfl (by decide) rfl [4, 1] rfl)⟩ rfl rfl hl.1 rfl (lv_room (Nat.le_of_ble_eq_true rfl)) dX9_paste_105 ⟨lel 0 0 rfl, lel 0 0 rfl⟩) hS (fun q _ h => hFc q h) hFc (fun u_338 t H1 locs ht hvm hw_r_337 hB hz1 hk1 hS => ?_)
                    obtain ⟨o0_339, hP1, hK1, hD1⟩ := hB
                    rw [ht] at hP1
                    have hK1 := va_K.moved hvm.symm hK1
                    obtain ⟨hP, hD⟩ := va_join (wr := [(h0, .inr (7, [.ref tp, .ref sc, .ref rd, .ref cu, .ref im, .ref ig, .ref sl, .ref se, .ref sm, .ref fc])), (sl, .inl (cS, 4, .inr (.inr (.inr (.inr (sf4 s0 s1 s2 s3)))))), (s1, .inr (2, [.int wd1, .int rz1, .ref n1])), (s2, .inr (2, [.int wd2, .int rz2, .ref n2])), (n1, .inl (cJ1, 60, .inr (.inl g1))), (n2, .inl (cJ2, 60, .inr (.inl g2)))]) (w1 := [(s3, .inr (2, [.int wd3, .int rz3, .ref n3])), (n3, .inl (cJ3, 60, .inr (.inl o0_339))), (s0, .inr (2, [.int wd0, .int rz0, .ref n0])), (n0, .inl (cJ0, 60, .inr (.inl g0)))]) hP hD [5, 9, 2, 6] [0, 1, 3, 4, 7, 8] rfl rfl (by decide) (by decide) hk1 hFc hP1 hD1
                    have hK := (hK.sub (tys' := [(cS, .object RX3), (cJ1, .long), (cJ2, .long)]) [0, 2, 3] rfl).app hK1
                    generalize H1 = H at hP hS ⊢
                    have hP := hP.sub (ws' := [(h0, .inr (7, [.ref tp, .ref sc, .ref rd, .ref cu, .ref im, .ref ig, .ref sl, .ref se, .ref sm, .ref fc])), (sl, .inl (cS, 4, .inr (.inr (.inr (.inr (sf4 s0 s1 s2 s3)))))), (s0, .inr (2, [.int wd0, .int rz0, .ref n0])), (s1, .inr (2, [.int wd1, .int rz1, .ref n1])), (s2, .inr (2, [.int wd2, .int rz2, .ref n2])), (s3, .inr (2, [.int wd3, .int rz3, .ref n3])), (n0, .inl (cJ0, 60, .inr (.inl g0))), (n1, .inl (cJ1, 60, .inr (.inl g1))), (n2, .inl (cJ2, 60, .inr (.inl g2))), (n3, .inl (cJ3, 60, .inr (.inl o0_339)))]) [0, 1, 8, 2, 3, 6, 9, 4, 5, 7] rfl
                    have hD := hD.sub (ws' := [(h0, .inr (7, [.ref tp, .ref sc, .ref rd, .ref cu, .ref im, .ref ig, .ref sl, .ref se, .ref sm, .ref fc])), (sl, .inl (cS, 4, .inr (.inr (.inr (.inr (sf4 s0 s1 s2 s3)))))), (s0, .inr (2, [.int wd0, .int rz0, .ref n0])), (s1, .inr (2, [.int wd1, .int rz1, .ref n1])), (s2, .inr (2, [.int wd2, .int rz2, .ref n2])), (s3, .inr (2, [.int wd3, .int rz3, .ref n3])), (n0, .inl (cJ0, 60, .inr (.inl g0))), (n1, .inl (cJ1, 60, .inr (.inl g1))), (n2, .inl (cJ2, 60, .inr (.inl g2))), (n3, .inl (cJ3, 60, .inr (.inl o0_339)))]) [0, 1, 8, 2, 3, 6, 9, 4, 5, 7] (by decide) rfl
                    have hK := hK.sub (tys' := [(cS, .object RX3), (cJ0, .long), (cJ1, .long), (cJ2, .long), (cJ3, .long)]) [0, 4, 1, 2, 3] rfl
                    have hP : va_P (dC, dI) vwCl [(h0, .inr (7, [.ref tp, .ref sc, .ref rd, .ref cu, .ref im, .ref ig, .ref sl, .ref se, .ref sm, .ref fc])), (sl, .inl (cS, 4, .inr (.inr (.inr (.inr (sf4 s0 s1 s2 s3)))))), (s0, .inr (2, [.int wd0, .int rz0, .ref n0])), (s1, .inr (2, [.int wd1, .int rz1, .ref n1])), (s2, .inr (2, [.int wd2, .int rz2, .ref n2])), (s3, .inr (2, [.int wd3, .int rz3, .ref n3])), (n0, .inl (cJ0, 60, .inr (.inl g0))), (n1, .inl (cJ1, 60, .inr (.inl g1))), (n2, .inl (cJ2, 60, .inr (.inl g2))), (n3, .inl (cJ3, 60, .inr (.inl o0_339)))] H := hP
                    have hD : va_D A [(h0, .inr (7, [.ref tp, .ref sc, .ref rd, .ref cu, .ref im, .ref ig, .ref sl, .ref se, .ref sm, .ref fc])), (sl, .inl (cS, 4, .inr (.inr (.inr (.inr (sf4 s0 s1 s2 s3)))))), (s0, .inr (2, [.int wd0, .int rz0, .ref n0])), (s1, .inr (2, [.int wd1, .int rz1, .ref n1])), (s2, .inr (2, [.int wd2, .int rz2, .ref n2])), (s3, .inr (2, [.int wd3, .int rz3, .ref n3])), (n0, .inl (cJ0, 60, .inr (.inl g0))), (n1, .inl (cJ1, 60, .inr (.inl g1))), (n2, .inl (cJ2, 60, .inr (.inl g2))), (n3, .inl (cJ3, 60, .inr (.inl o0_339)))] := hD
                    have hK : va_K (dC, dI) vwCl [(cS, .object RX3), (cJ0, .long), (cJ1, .long), (cJ2, .long), (cJ3, .long)] s := hK
                    refine lv_iconst (v := 0) hx hb dX9_paste_108 (by decide) ?_
                    have hP9 := hP.sub (ws' := [(h0, .inr (7, [.ref tp, .ref sc, .ref rd, .ref cu, .ref im, .ref ig, .ref sl, .ref se, .ref sm, .ref fc])), (sl, .inl (cS, 4, .inr (.inr (.inr (.inr (sf4 s0 s1 s2 s3)))))), (s0, .inr (2, [.int wd0, .int rz0, .ref n0])), (s1, .inr (2, [.int wd1, .int rz1, .ref n1])), (s2, .inr (2, [.int wd2, .int rz2, .ref n2])), (s3, .inr (2, [.int wd3, .int rz3, .ref n3])), (n0, .inl (cJ0, 60, .inr (.inl g0))), (n1, .inl (cJ1, 60, .inr (.inl g1))), (n2, .inl (cJ2, 60, .inr (.inl g2))), (n3, .inl (cJ3, 60, .inr (.inl o0_339)))]) [0, 1, 2, 3, 4, 5, 6, 7, 8, 9] rfl
                    have hD9 := hD.sub (ws' := [(h0, .inr (7, [.ref tp, .ref sc, .ref rd, .ref cu, .ref im, .ref ig, .ref sl, .ref se, .ref sm, .ref fc])), (sl, .inl (cS, 4, .inr (.inr (.inr (.inr (sf4 s0 s1 s2 s3)))))), (s0, .inr (2, [.int wd0, .int rz0, .ref n0])), (s1, .inr (2, [.int wd1, .int rz1, .ref n1])), (s2, .inr (2, [.int wd2, .int rz2, .ref n2])), (s3, .inr (2, [.int wd3, .int rz3, .ref n3])), (n0, .inl (cJ0, 60, .inr (.inl g0))), (n1, .inl (cJ1, 60, .inr (.inl g1))), (n2, .inl (cJ2, 60, .inr (.inl g2))), (n3, .inl (cJ3, 60, .inr (.inl o0_339)))]) [0, 1, 2, 3, 4, 5, 6, 7, 8, 9] (by decide) rfl
                    have hK9 := hK.sub (tys' := [(cS, .object RX3), (cJ0, .long), (cJ1, .long), (cJ2, .long), (cJ3, .long)]) [0, 1, 2, 3, 4] rfl
                    exact W.iret (v := 0) hx hb hr (fun t ht hW => ⟨⟨0, (), rfl, (rg_w (by decide : (0 : Int) ≤ (0 : Int32).toInt ∧ (0 : Int32).toInt ≤ 0) (by decide) (by decide)), g0, g1, g2, o0_339, by rw [ht]; exact hP9, va_K.moved hW.alike hK9, hD9⟩, hS.F ht⟩) hS.2.2 dX9_paste_109
                  ·
                    have n_c_335 : (r_334.toInt : Int) = 0 := c_eq rfl (by decide) c_335
                    have b_r_334 : (0 : Int) ≤ r_334.toInt ∧ r_334.toInt ≤ 0 := r_eq1 b_r_334 (by decide : (0 : Int) ≤ (0 : Int32).toInt ∧ (0 : Int32).toInt ≤ 0) n_c_335 (by decide)
                    refine lv_bipush (v := (-7)) hx hb dX9_paste_93 (by decide) ?_
                    have hP9 := hP.sub (ws' := [(h0, .inr (7, [.ref tp, .ref sc, .ref rd, .ref cu, .ref im, .ref ig, .ref sl, .ref se, .ref sm, .ref fc])), (sl, .inl (cS, 4, .inr (.inr (.inr (.inr (sf4 s0 s1 s2 s3)))))), (s0, .inr (2, [.int wd0, .int rz0, .ref n0])), (s1, .inr (2, [.int wd1, .int rz1, .ref n1])), (s2, .inr (2, [.int wd2, .int rz2, .ref n2])), (s3, .inr (2, [.int wd3, .int rz3, .ref n3])), (n0, .inl (cJ0, 60, .inr (.inl g0))), (n1, .inl (cJ1, 60, .inr (.inl g1))), (n2, .inl (cJ2, 60, .inr (.inl g2))), (n3, .inl (cJ3, 60, .inr (.inl g3)))]) [0, 1, 2, 3, 4, 5, 6, 7, 8, 9] rfl
                    have hD9 := hD.sub (ws' := [(h0, .inr (7, [.ref tp, .ref sc, .ref rd, .ref cu, .ref im, .ref ig, .ref sl, .ref se, .ref sm, .ref fc])), (sl, .inl (cS, 4, .inr (.inr (.inr (.inr (sf4 s0 s1 s2 s3)))))), (s0, .inr (2, [.int wd0, .int rz0, .ref n0])), (s1, .inr (2, [.int wd1, .int rz1, .ref n1])), (s2, .inr (2, [.int wd2, .int rz2, .ref n2])), (s3, .inr (2, [.int wd3, .int rz3, .ref n3])), (n0, .inl (cJ0, 60, .inr (.inl g0))), (n1, .inl (cJ1, 60, .inr (.inl g1))), (n2, .inl (cJ2, 60, .inr (.inl g2))), (n3, .inl (cJ3, 60, .inr (.inl g3)))]) [0, 1, 2, 3, 4, 5, 6, 7, 8, 9] (by decide) rfl
                    have hK9 := hK.sub (tys' := [(cS, .object RX3), (cJ0, .long), (cJ1, .long), (cJ2, .long), (cJ3, .long)]) [0, 1, 2, 3, 4] rfl
                    exact W.iret (v := (-7)) hx hb hr (fun t ht hW => ⟨⟨(-7), (), rfl, (rg_w (by decide : (-7 : Int) ≤ ((-7) : Int32).toInt ∧ ((-7) : Int32).toInt ≤ -7) (by decide) (by decide)), g0, g1, g2, g3, by rw [ht]; exact hP9, va_K.moved hW.alike hK9, hD9⟩, hS.F ht⟩) hS.2.2 dX9_paste_95
              ·
                have n_c_330 : (wd0.toInt : Int) ≠ wd3.toInt := c_ne rfl rfl c_330
                refine lv_bipush (v := (-8)) hx hb dX9_paste_67 (by decide) ?_
                have hP9 := hP.sub (ws' := [(h0, .inr (7, [.ref tp, .ref sc, .ref rd, .ref cu, .ref im, .ref ig, .ref sl, .ref se, .ref sm, .ref fc])), (sl, .inl (cS, 4, .inr (.inr (.inr (.inr (sf4 s0 s1 s2 s3)))))), (s0, .inr (2, [.int wd0, .int rz0, .ref n0])), (s1, .inr (2, [.int wd1, .int rz1, .ref n1])), (s2, .inr (2, [.int wd2, .int rz2, .ref n2])), (s3, .inr (2, [.int wd3, .int rz3, .ref n3])), (n0, .inl (cJ0, 60, .inr (.inl g0))), (n1, .inl (cJ1, 60, .inr (.inl g1))), (n2, .inl (cJ2, 60, .inr (.inl g2))), (n3, .inl (cJ3, 60, .inr (.inl g3)))]) [0, 1, 2, 3, 4, 5, 6, 7, 8, 9] rfl
                have hD9 := hD.sub (ws' := [(h0, .inr (7, [.ref tp, .ref sc, .ref rd, .ref cu, .ref im, .ref ig, .ref sl, .ref se, .ref sm, .ref fc])), (sl, .inl (cS, 4, .inr (.inr (.inr (.inr (sf4 s0 s1 s2 s3)))))), (s0, .inr (2, [.int wd0, .int rz0, .ref n0])), (s1, .inr (2, [.int wd1, .int rz1, .ref n1])), (s2, .inr (2, [.int wd2, .int rz2, .ref n2])), (s3, .inr (2, [.int wd3, .int rz3, .ref n3])), (n0, .inl (cJ0, 60, .inr (.inl g0))), (n1, .inl (cJ1, 60, .inr (.inl g1))), (n2, .inl (cJ2, 60, .inr (.inl g2))), (n3, .inl (cJ3, 60, .inr (.inl g3)))]) [0, 1, 2, 3, 4, 5, 6, 7, 8, 9] (by decide) rfl
                have hK9 := hK.sub (tys' := [(cS, .object RX3), (cJ0, .long), (cJ1, .long), (cJ2, .long), (cJ3, .long)]) [0, 1, 2, 3, 4] rfl
                exact W.iret (v := (-8)) hx hb hr (fun t ht hW => ⟨⟨(-8), (), rfl, (rg_w (by decide : (-8 : Int) ≤ ((-8) : Int32).toInt ∧ ((-8) : Int32).toInt ≤ -8) (by decide) (by decide)), g0, g1, g2, g3, by rw [ht]; exact hP9, va_K.moved hW.alike hK9, hD9⟩, hS.F ht⟩) hS.2.2 dX9_paste_69
            ·
              have n_c_328 : (r_327.toInt : Int) = 0 := c_eq rfl (by decide) c_328
              have b_r_327 : (0 : Int) ≤ r_327.toInt ∧ r_327.toInt ≤ 0 := r_eq1 b_r_327 (by decide : (0 : Int) ≤ (0 : Int32).toInt ∧ (0 : Int32).toInt ≤ 0) n_c_328 (by decide)
              refine lv_bipush (v := (-6)) hx hb dX9_paste_51 (by decide) ?_
              have hP9 := hP.sub (ws' := [(h0, .inr (7, [.ref tp, .ref sc, .ref rd, .ref cu, .ref im, .ref ig, .ref sl, .ref se, .ref sm, .ref fc])), (sl, .inl (cS, 4, .inr (.inr (.inr (.inr (sf4 s0 s1 s2 s3)))))), (s0, .inr (2, [.int wd0, .int rz0, .ref n0])), (s1, .inr (2, [.int wd1, .int rz1, .ref n1])), (s2, .inr (2, [.int wd2, .int rz2, .ref n2])), (s3, .inr (2, [.int wd3, .int rz3, .ref n3])), (n0, .inl (cJ0, 60, .inr (.inl g0))), (n1, .inl (cJ1, 60, .inr (.inl g1))), (n2, .inl (cJ2, 60, .inr (.inl g2))), (n3, .inl (cJ3, 60, .inr (.inl g3)))]) [0, 1, 2, 3, 4, 5, 6, 7, 8, 9] rfl
              have hD9 := hD.sub (ws' := [(h0, .inr (7, [.ref tp, .ref sc, .ref rd, .ref cu, .ref im, .ref ig, .ref sl, .ref se, .ref sm, .ref fc])), (sl, .inl (cS, 4, .inr (.inr (.inr (.inr (sf4 s0 s1 s2 s3)))))), (s0, .inr (2, [.int wd0, .int rz0, .ref n0])), (s1, .inr (2, [.int wd1, .int rz1, .ref n1])), (s2, .inr (2, [.int wd2, .int rz2, .ref n2])), (s3, .inr (2, [.int wd3, .int rz3, .ref n3])), (n0, .inl (cJ0, 60, .inr (.inl g0))), (n1, .inl (cJ1, 60, .inr (.inl g1))), (n2, .inl (cJ2, 60, .inr (.inl g2))), (n3, .inl (cJ3, 60, .inr (.inl g3)))]) [0, 1, 2, 3, 4, 5, 6, 7, 8, 9] (by decide) rfl
              have hK9 := hK.sub (tys' := [(cS, .object RX3), (cJ0, .long), (cJ1, .long), (cJ2, .long), (cJ3, .long)]) [0, 1, 2, 3, 4] rfl
              exact W.iret (v := (-6)) hx hb hr (fun t ht hW => ⟨⟨(-6), (), rfl, (rg_w (by decide : (-6 : Int) ≤ ((-6) : Int32).toInt ∧ ((-6) : Int32).toInt ≤ -6) (by decide) (by decide)), g0, g1, g2, g3, by rw [ht]; exact hP9, va_K.moved hW.alike hK9, hD9⟩, hS.F ht⟩) hS.2.2 dX9_paste_53
      ·
        obtain rfl : a1 = 1 := Int32.toInt_inj.mp (h_274.trans (by decide))
        refine va_aldq hx hb hK hP 1 0 rfl rfl (vp_in_b (by decide : (1 : Int) ≤ (1 : Int32).toInt ∧ (1 : Int32).toInt ≤ 1) (by decide) (by decide)) dX9_paste_24 ?_
        refine W.eq (g2 := F0 m 25 ls (.ref s1 :: [])) (congrArg (fun v => F0 m 25 ls (va_rf v :: [])) (sf4_1 s0 s1 s2 s3)) ?_
        refine lv_astore (lv' := [(6, .ref s1), (0, .ref h0), (1, .int 1), (2, .int a2), (3, .int a3), (4, .int a4), (5, .int a5)]) hx hb dX9_paste_25 hl (by decide) rfl (fun ls hl => ?_)
        refine lv_aload_n hx hb dX9_paste_27 rfl (lv_at hl 1 rfl) ?_
        refine va_get (D := (dC, dI)) (ci := 7) (v := .ref sl) (C := RX9) (T := TX9) (N := 10) hx hb hts iX9_paste_X9 hown hK hP 0 rfl rfl 6 (by decide) (hts (.fieldLink RX9 50 "LuckyTicket" "slots" "[LLuckyTicket$Row;") (List.mem_of_getElem? (i := 5) rfl)) (fun _ h9 => h9) rfl dX9_paste_28 ?_
        refine lv_iload_n hx hb dX9_paste_31 rfl (lv_at hl 4 rfl) ?_
        rcases (show a3.toInt = 0 ∨ a3.toInt = 1 ∨ a3.toInt = 2 ∨ a3.toInt = 3 by omega) with h_340 | h_340 | h_340 | h_340
        ·
          obtain rfl : a3 = 0 := Int32.toInt_inj.mp (h_340.trans (by decide))
          refine va_aldq hx hb hK hP 1 0 rfl rfl (vp_in_b (by decide : (0 : Int) ≤ (0 : Int32).toInt ∧ (0 : Int32).toInt ≤ 0) (by decide) (by decide)) dX9_paste_32 ?_
          refine W.eq (g2 := F0 m 33 ls (.ref s0 :: [])) (congrArg (fun v => F0 m 33 ls (va_rf v :: [])) (sf4_0 s0 s1 s2 s3)) ?_
          refine lv_astore (lv' := [(7, .ref s0), (6, .ref s1), (0, .ref h0), (1, .int 1), (2, .int a2), (3, .int 0), (4, .int a4), (5, .int a5)]) hx hb dX9_paste_33 hl (by decide) rfl (fun ls hl => ?_)
          refine lv_aload hx hb dX9_paste_35 (lv_at hl 1 rfl) ?_
          refine vp_callSi (W.runV (As := []) (rest := []) ⟨hx, hb, hml, hown, hts⟩ (kX3_stands l dC dI s1 wd1 rz1 n1 b_wd1 b_rz1) (cwV 0 hts gX9_paste__X3_stands_V270 rfl rfl rfl hd_yX3_stands ⟨lel 1 2 rfl, lel 20 88 rfl⟩) ⟨pw_fb, rcv_X3 hK hP (q0 := 3) rfl, (pw_use hP hK hN [3] rfl [] rfl)⟩ rfl rfl hl.1 rfl (lv_room (Nat.le_of_ble_eq_true rfl)) dX9_paste_37 ⟨lel 0 0 rfl, lel 0 0 rfl⟩) (fun r_341 h_r_341 => ?_)
          obtain ⟨b_r_341, nz_r_341⟩ := h_r_341
          have b_r_341 : (0 : Int) ≤ r_341.toInt ∧ r_341.toInt ≤ 1 := b_r_341
          refine lv_if_eq (tgt := 51) hx hb dX9_paste_40 (by decide) (fun c_342 => ?_) (fun c_342 => ?_)
          ·
            have n_c_342 : (r_341.toInt : Int) = 0 := c_eq rfl (by decide) c_342
            have b_r_341 : (0 : Int) ≤ r_341.toInt ∧ r_341.toInt ≤ 0 := r_eq1 b_r_341 (by decide : (0 : Int) ≤ (0 : Int32).toInt ∧ (0 : Int32).toInt ≤ 0) n_c_342 (by decide)
            refine lv_bipush (v := (-6)) hx hb dX9_paste_51 (by decide) ?_
            have hP9 := hP.sub (ws' := [(h0, .inr (7, [.ref tp, .ref sc, .ref rd, .ref cu, .ref im, .ref ig, .ref sl, .ref se, .ref sm, .ref fc])), (sl, .inl (cS, 4, .inr (.inr (.inr (.inr (sf4 s0 s1 s2 s3)))))), (s0, .inr (2, [.int wd0, .int rz0, .ref n0])), (s1, .inr (2, [.int wd1, .int rz1, .ref n1])), (s2, .inr (2, [.int wd2, .int rz2, .ref n2])), (s3, .inr (2, [.int wd3, .int rz3, .ref n3])), (n0, .inl (cJ0, 60, .inr (.inl g0))), (n1, .inl (cJ1, 60, .inr (.inl g1))), (n2, .inl (cJ2, 60, .inr (.inl g2))), (n3, .inl (cJ3, 60, .inr (.inl g3)))]) [0, 1, 2, 3, 4, 5, 6, 7, 8, 9] rfl
            have hD9 := hD.sub (ws' := [(h0, .inr (7, [.ref tp, .ref sc, .ref rd, .ref cu, .ref im, .ref ig, .ref sl, .ref se, .ref sm, .ref fc])), (sl, .inl (cS, 4, .inr (.inr (.inr (.inr (sf4 s0 s1 s2 s3)))))), (s0, .inr (2, [.int wd0, .int rz0, .ref n0])), (s1, .inr (2, [.int wd1, .int rz1, .ref n1])), (s2, .inr (2, [.int wd2, .int rz2, .ref n2])), (s3, .inr (2, [.int wd3, .int rz3, .ref n3])), (n0, .inl (cJ0, 60, .inr (.inl g0))), (n1, .inl (cJ1, 60, .inr (.inl g1))), (n2, .inl (cJ2, 60, .inr (.inl g2))), (n3, .inl (cJ3, 60, .inr (.inl g3)))]) [0, 1, 2, 3, 4, 5, 6, 7, 8, 9] (by decide) rfl
            have hK9 := hK.sub (tys' := [(cS, .object RX3), (cJ0, .long), (cJ1, .long), (cJ2, .long), (cJ3, .long)]) [0, 1, 2, 3, 4] rfl
            exact W.iret (v := (-6)) hx hb hr (fun t ht hW => ⟨⟨(-6), (), rfl, (rg_w (by decide : (-6 : Int) ≤ ((-6) : Int32).toInt ∧ ((-6) : Int32).toInt ≤ -6) (by decide) (by decide)), g0, g1, g2, g3, by rw [ht]; exact hP9, va_K.moved hW.alike hK9, hD9⟩, hS.F ht⟩) hS.2.2 dX9_paste_53
          ·
            have n_c_342 : (r_341.toInt : Int) ≠ 0 := c_ne rfl (by decide) c_342
            have b_r_341 : (1 : Int) ≤ r_341.toInt ∧ r_341.toInt ≤ 1 := r_ne1 b_r_341 (by decide : (0 : Int) ≤ (0 : Int32).toInt ∧ (0 : Int32).toInt ≤ 0) n_c_342 (by decide)
            obtain ⟨b_wd1, g_343⟩ := nz_r_341 c_342
            refine lv_aload hx hb dX9_paste_43 (lv_at hl 0 rfl) ?_
            refine vp_callSi (W.runV (As := []) (rest := []) ⟨hx, hb, hml, hown, hts⟩ (kX3_stands l dC dI s0 wd0 rz0 n0 b_wd0 b_rz0) (cwV 0 hts gX9_paste__X3_stands_V270 rfl rfl rfl hd_yX3_stands ⟨lel 1 2 rfl, lel 20 88 rfl⟩) ⟨pw_fb, rcv_X3 hK hP (q0 := 2) rfl, (pw_use hP hK hN [2] rfl [] rfl)⟩ rfl rfl hl.1 rfl (lv_room (Nat.le_of_ble_eq_true rfl)) dX9_paste_45 ⟨lel 0 0 rfl, lel 0 0 rfl⟩) (fun r_344 h_r_344 => ?_)
            obtain ⟨b_r_344, nz_r_344⟩ := h_r_344
            have b_r_344 : (0 : Int) ≤ r_344.toInt ∧ r_344.toInt ≤ 1 := b_r_344
            refine lv_if_ne (tgt := 54) hx hb dX9_paste_48 (by decide) (fun c_345 => ?_) (fun c_345 => ?_)
            ·
              have n_c_345 : (r_344.toInt : Int) ≠ 0 := c_ne rfl (by decide) c_345
              have b_r_344 : (1 : Int) ≤ r_344.toInt ∧ r_344.toInt ≤ 1 := r_ne1 b_r_344 (by decide : (0 : Int) ≤ (0 : Int32).toInt ∧ (0 : Int32).toInt ≤ 0) n_c_345 (by decide)
              obtain ⟨b_wd0, g_346⟩ := nz_r_344 c_345
              refine lv_aload hx hb dX9_paste_54 (lv_at hl 1 rfl) ?_
              refine va_getN (own := RX9) (index := 350) (ref := RX3) (host := RX9) (D := (dC, dI)) (ci := 2) (v := .int wd1) (C := RX3) (T := TX3) (N := 3) hx hb hts iX9_paste_X3 hown hK hP 3 rfl rfl 0 (by decide) (va_Nw.use rfl (hN _ (List.mem_of_getElem? (i := 21) rfl))) (fun _ h9 => h9) rfl dX9_paste_56 ?_
              refine lv_aload hx hb dX9_paste_59 (lv_at hl 0 rfl) ?_
              refine va_getN (own := RX9) (index := 350) (ref := RX3) (host := RX9) (D := (dC, dI)) (ci := 2) (v := .int wd0) (C := RX3) (T := TX3) (N := 3) hx hb hts iX9_paste_X3 hown hK hP 2 rfl rfl 0 (by decide) (va_Nw.use rfl (hN _ (List.mem_of_getElem? (i := 21) rfl))) (fun _ h9 => h9) rfl dX9_paste_61 ?_
              refine lv_icmp_eq (tgt := 70) hx hb dX9_paste_64 (by decide) (fun c_347 => ?_) (fun c_347 => ?_)
              ·
                have n_c_347 : (wd1.toInt : Int) = wd0.toInt := c_eq rfl rfl c_347
                refine lv_aload hx hb dX9_paste_70 (lv_at hl 1 rfl) ?_
                refine lv_iload_n hx hb dX9_paste_72 rfl (lv_at hl 4 rfl) ?_
                refine lv_iload hx hb dX9_paste_73 (lv_at hl 7 rfl) ?_
                refine vp_callSi (W.runV (As := [.int a2, .int a5]) (rest := []) ⟨hx, hb, hml, hown, hts⟩ (kX3_hasStretch l dC dI s1 wd1 rz1 n1 a2 a5 (rg_w b_wd1 (by decide) (by decide)) b_rz1) (cwV 2 hts gX9_paste__X3_hasStretch_V343 rfl rfl rfl hd_yX3_hasStretch ⟨lel 1 2 rfl, lel 22 88 rfl⟩) ⟨pw_fb, rcv_X3 hK hP (q0 := 3) rfl, (pw_use hP hK hN [3] rfl [] rfl)⟩ rfl rfl hl.1 rfl (lv_room (Nat.le_of_ble_eq_true rfl)) dX9_paste_75 ⟨lel 0 0 rfl, lel 0 0 rfl⟩) (fun r_348 h_r_348 => ?_)
                obtain ⟨b_r_348, nz_r_348⟩ := h_r_348
                have b_r_348 : (0 : Int) ≤ r_348.toInt ∧ r_348.toInt ≤ 1 := b_r_348
                refine lv_if_eq (tgt := 93) hx hb dX9_paste_78 (by decide) (fun c_349 => ?_) (fun c_349 => ?_)
                ·
                  have n_c_349 : (r_348.toInt : Int) = 0 := c_eq rfl (by decide) c_349
                  have b_r_348 : (0 : Int) ≤ r_348.toInt ∧ r_348.toInt ≤ 0 := r_eq1 b_r_348 (by decide : (0 : Int) ≤ (0 : Int32).toInt ∧ (0 : Int32).toInt ≤ 0) n_c_349 (by decide)
                  refine lv_bipush (v := (-7)) hx hb dX9_paste_93 (by decide) ?_
                  have hP9 := hP.sub (ws' := [(h0, .inr (7, [.ref tp, .ref sc, .ref rd, .ref cu, .ref im, .ref ig, .ref sl, .ref se, .ref sm, .ref fc])), (sl, .inl (cS, 4, .inr (.inr (.inr (.inr (sf4 s0 s1 s2 s3)))))), (s0, .inr (2, [.int wd0, .int rz0, .ref n0])), (s1, .inr (2, [.int wd1, .int rz1, .ref n1])), (s2, .inr (2, [.int wd2, .int rz2, .ref n2])), (s3, .inr (2, [.int wd3, .int rz3, .ref n3])), (n0, .inl (cJ0, 60, .inr (.inl g0))), (n1, .inl (cJ1, 60, .inr (.inl g1))), (n2, .inl (cJ2, 60, .inr (.inl g2))), (n3, .inl (cJ3, 60, .inr (.inl g3)))]) [0, 1, 2, 3, 4, 5, 6, 7, 8, 9] rfl
                  have hD9 := hD.sub (ws' := [(h0, .inr (7, [.ref tp, .ref sc, .ref rd, .ref cu, .ref im, .ref ig, .ref sl, .ref se, .ref sm, .ref fc])), (sl, .inl (cS, 4, .inr (.inr (.inr (.inr (sf4 s0 s1 s2 s3)))))), (s0, .inr (2, [.int wd0, .int rz0, .ref n0])), (s1, .inr (2, [.int wd1, .int rz1, .ref n1])), (s2, .inr (2, [.int wd2, .int rz2, .ref n2])), (s3, .inr (2, [.int wd3, .int rz3, .ref n3])), (n0, .inl (cJ0, 60, .inr (.inl g0))), (n1, .inl (cJ1, 60, .inr (.inl g1))), (n2, .inl (cJ2, 60, .inr (.inl g2))), (n3, .inl (cJ3, 60, .inr (.inl g3)))]) [0, 1, 2, 3, 4, 5, 6, 7, 8, 9] (by decide) rfl
                  have hK9 := hK.sub (tys' := [(cS, .object RX3), (cJ0, .long), (cJ1, .long), (cJ2, .long), (cJ3, .long)]) [0, 1, 2, 3, 4] rfl
                  exact W.iret (v := (-7)) hx hb hr (fun t ht hW => ⟨⟨(-7), (), rfl, (rg_w (by decide : (-7 : Int) ≤ ((-7) : Int32).toInt ∧ ((-7) : Int32).toInt ≤ -7) (by decide) (by decide)), g0, g1, g2, g3, by rw [ht]; exact hP9, va_K.moved hW.alike hK9, hD9⟩, hS.F ht⟩) hS.2.2 dX9_paste_95
                ·
                  have n_c_349 : (r_348.toInt : Int) ≠ 0 := c_ne rfl (by decide) c_349
                  have b_r_348 : (1 : Int) ≤ r_348.toInt ∧ r_348.toInt ≤ 1 := r_ne1 b_r_348 (by decide : (0 : Int) ≤ (0 : Int32).toInt ∧ (0 : Int32).toInt ≤ 0) n_c_349 (by decide)
                  obtain ⟨b_a2, b_a5, g_350⟩ := nz_r_348 c_349
                  refine lv_aload hx hb dX9_paste_81 (lv_at hl 0 rfl) ?_
                  refine lv_iload hx hb dX9_paste_83 (lv_at hl 6 rfl) ?_
                  refine lv_iload hx hb dX9_paste_85 (lv_at hl 7 rfl) ?_
                  refine vp_callSi (W.runV (As := [.int a4, .int a5]) (rest := []) ⟨hx, hb, hml, hown, hts⟩ (kX3_hasStretch l dC dI s0 wd0 rz0 n0 a4 a5 (rg_w b_wd0 (by decide) (by decide)) b_rz0) (cwV 2 hts gX9_paste__X3_hasStretch_V343 rfl rfl rfl hd_yX3_hasStretch ⟨lel 1 2 rfl, lel 22 88 rfl⟩) ⟨pw_fb, rcv_X3 hK hP (q0 := 2) rfl, (pw_use hP hK hN [2] rfl [] rfl)⟩ rfl rfl hl.1 rfl (lv_room (Nat.le_of_ble_eq_true rfl)) dX9_paste_87 ⟨lel 0 0 rfl, lel 0 0 rfl⟩) (fun r_351 h_r_351 => ?_)
                  obtain ⟨b_r_351, nz_r_351⟩ := h_r_351
                  have b_r_351 : (0 : Int) ≤ r_351.toInt ∧ r_351.toInt ≤ 1 := b_r_351
                  refine lv_if_ne (tgt := 96) hx hb dX9_paste_90 (by decide) (fun c_352 => ?_) (fun c_352 => ?_)
                  ·
                    have n_c_352 : (r_351.toInt : Int) ≠ 0 := c_ne rfl (by decide) c_352
                    have b_r_351 : (1 : Int) ≤ r_351.toInt ∧ r_351.toInt ≤ 1 := r_ne1 b_r_351 (by decide : (0 : Int) ≤ (0 : Int32).toInt ∧ (0 : Int32).toInt ≤ 0) n_c_352 (by decide)
                    obtain ⟨b_a4, b_a5, g_353⟩ := nz_r_351 c_352
                    refine lv_aload hx hb dX9_paste_96 (lv_at hl 0 rfl) ?_
                    refine lv_iload hx hb dX9_paste_98 (lv_at hl 6 rfl) ?_
                    refine lv_aload hx hb dX9_paste_100 (lv_at hl 1 rfl) ?_
                    refine lv_iload_n hx hb dX9_paste_102 rfl (lv_at hl 4 rfl) ?_
                    refine lv_iload hx hb dX9_paste_103 (lv_at hl 7 rfl) ?_
                    have hFc := va_free (wc := [(s0, .inr (2, [.int wd0, .int rz0, .ref n0])), (n0, .inl (cJ0, 60, .inr (.inl g0))), (s1, .inr (2, [.int wd1, .int rz1, .ref n1])), (n1, .inl (cJ1, 60, .inr (.inl g1)))]) hD hS hA [2, 6, 3, 7] rfl
                    refine va_callv (va_runV (As := [.int a4, .ref s1, .int a2, .int a5]) (rest := []) ⟨hx, hb, hml, hown, hts⟩ (kX3_take l dC dI s0 wd0 rz0 n0 cJ0 g0 s1 wd1 rz1 n1 cJ1 g1 a4 a2 a5 (s.heap.size) (rg_w b_wd0 (by decide) (by decide)) b_rz0 (rg_w b_wd1 (by decide) (by decide)) b_rz1) (cwV 4 hts gX9_paste__X3_take_V353 rfl rfl rfl hd_yX3_take ⟨lel 2 2 rfl, lel 88 88 rfl⟩) ⟨hw_fb, rcv_X3 hK hP (q0 := 2) rfl, (hw_use hP hD hK hN [2, 6, 3, 7] rfl (by decide) rfl [1, 2] rfl)⟩ rfl rfl hl.1 rfl (lv_room (Nat.le_of_ble_eq_true rfl)) dX9_paste_105 ⟨lel 0 0 rfl, lel 0 0 rfl⟩) hS (fun q _ h => hFc q h) hFc (fun u_355 t H1 locs ht hvm hw_r_354 hB hz1 hk1 hS => ?_)
                    obtain ⟨o0_356, hP1, hK1, hD1⟩ := hB
                    rw [ht] at hP1
                    have hK1 := va_K.moved hvm.symm hK1
                    obtain ⟨hP, hD⟩ := va_join (wr := [(h0, .inr (7, [.ref tp, .ref sc, .ref rd, .ref cu, .ref im, .ref ig, .ref sl, .ref se, .ref sm, .ref fc])), (sl, .inl (cS, 4, .inr (.inr (.inr (.inr (sf4 s0 s1 s2 s3)))))), (s2, .inr (2, [.int wd2, .int rz2, .ref n2])), (s3, .inr (2, [.int wd3, .int rz3, .ref n3])), (n2, .inl (cJ2, 60, .inr (.inl g2))), (n3, .inl (cJ3, 60, .inr (.inl g3)))]) (w1 := [(s0, .inr (2, [.int wd0, .int rz0, .ref n0])), (n0, .inl (cJ0, 60, .inr (.inl o0_356))), (s1, .inr (2, [.int wd1, .int rz1, .ref n1])), (n1, .inl (cJ1, 60, .inr (.inl g1)))]) hP hD [2, 6, 3, 7] [0, 1, 4, 5, 8, 9] rfl rfl (by decide) (by decide) hk1 hFc hP1 hD1
                    have hK := (hK.sub (tys' := [(cS, .object RX3), (cJ2, .long), (cJ3, .long)]) [0, 3, 4] rfl).app hK1
                    generalize H1 = H at hP hS ⊢
                    have hP := hP.sub (ws' := [(h0, .inr (7, [.ref tp, .ref sc, .ref rd, .ref cu, .ref im, .ref ig, .ref sl, .ref se, .ref sm, .ref fc])), (sl, .inl (cS, 4, .inr (.inr (.inr (.inr (sf4 s0 s1 s2 s3)))))), (s0, .inr (2, [.int wd0, .int rz0, .ref n0])), (s1, .inr (2, [.int wd1, .int rz1, .ref n1])), (s2, .inr (2, [.int wd2, .int rz2, .ref n2])), (s3, .inr (2, [.int wd3, .int rz3, .ref n3])), (n0, .inl (cJ0, 60, .inr (.inl o0_356))), (n1, .inl (cJ1, 60, .inr (.inl g1))), (n2, .inl (cJ2, 60, .inr (.inl g2))), (n3, .inl (cJ3, 60, .inr (.inl g3)))]) [0, 1, 6, 8, 2, 3, 7, 9, 4, 5] rfl
                    have hD := hD.sub (ws' := [(h0, .inr (7, [.ref tp, .ref sc, .ref rd, .ref cu, .ref im, .ref ig, .ref sl, .ref se, .ref sm, .ref fc])), (sl, .inl (cS, 4, .inr (.inr (.inr (.inr (sf4 s0 s1 s2 s3)))))), (s0, .inr (2, [.int wd0, .int rz0, .ref n0])), (s1, .inr (2, [.int wd1, .int rz1, .ref n1])), (s2, .inr (2, [.int wd2, .int rz2, .ref n2])), (s3, .inr (2, [.int wd3, .int rz3, .ref n3])), (n0, .inl (cJ0, 60, .inr (.inl o0_356))), (n1, .inl (cJ1, 60, .inr (.inl g1))), (n2, .inl (cJ2, 60, .inr (.inl g2))), (n3, .inl (cJ3, 60, .inr (.inl g3)))]) [0, 1, 6, 8, 2, 3, 7, 9, 4, 5] (by decide) rfl
                    have hK := hK.sub (tys' := [(cS, .object RX3), (cJ0, .long), (cJ1, .long), (cJ2, .long), (cJ3, .long)]) [0, 3, 4, 1, 2] rfl
                    have hP : va_P (dC, dI) vwCl [(h0, .inr (7, [.ref tp, .ref sc, .ref rd, .ref cu, .ref im, .ref ig, .ref sl, .ref se, .ref sm, .ref fc])), (sl, .inl (cS, 4, .inr (.inr (.inr (.inr (sf4 s0 s1 s2 s3)))))), (s0, .inr (2, [.int wd0, .int rz0, .ref n0])), (s1, .inr (2, [.int wd1, .int rz1, .ref n1])), (s2, .inr (2, [.int wd2, .int rz2, .ref n2])), (s3, .inr (2, [.int wd3, .int rz3, .ref n3])), (n0, .inl (cJ0, 60, .inr (.inl o0_356))), (n1, .inl (cJ1, 60, .inr (.inl g1))), (n2, .inl (cJ2, 60, .inr (.inl g2))), (n3, .inl (cJ3, 60, .inr (.inl g3)))] H := hP
                    have hD : va_D A [(h0, .inr (7, [.ref tp, .ref sc, .ref rd, .ref cu, .ref im, .ref ig, .ref sl, .ref se, .ref sm, .ref fc])), (sl, .inl (cS, 4, .inr (.inr (.inr (.inr (sf4 s0 s1 s2 s3)))))), (s0, .inr (2, [.int wd0, .int rz0, .ref n0])), (s1, .inr (2, [.int wd1, .int rz1, .ref n1])), (s2, .inr (2, [.int wd2, .int rz2, .ref n2])), (s3, .inr (2, [.int wd3, .int rz3, .ref n3])), (n0, .inl (cJ0, 60, .inr (.inl o0_356))), (n1, .inl (cJ1, 60, .inr (.inl g1))), (n2, .inl (cJ2, 60, .inr (.inl g2))), (n3, .inl (cJ3, 60, .inr (.inl g3)))] := hD
                    have hK : va_K (dC, dI) vwCl [(cS, .object RX3), (cJ0, .long), (cJ1, .long), (cJ2, .long), (cJ3, .long)] s := hK
                    refine lv_iconst (v := 0) hx hb dX9_paste_108 (by decide) ?_
                    have hP9 := hP.sub (ws' := [(h0, .inr (7, [.ref tp, .ref sc, .ref rd, .ref cu, .ref im, .ref ig, .ref sl, .ref se, .ref sm, .ref fc])), (sl, .inl (cS, 4, .inr (.inr (.inr (.inr (sf4 s0 s1 s2 s3)))))), (s0, .inr (2, [.int wd0, .int rz0, .ref n0])), (s1, .inr (2, [.int wd1, .int rz1, .ref n1])), (s2, .inr (2, [.int wd2, .int rz2, .ref n2])), (s3, .inr (2, [.int wd3, .int rz3, .ref n3])), (n0, .inl (cJ0, 60, .inr (.inl o0_356))), (n1, .inl (cJ1, 60, .inr (.inl g1))), (n2, .inl (cJ2, 60, .inr (.inl g2))), (n3, .inl (cJ3, 60, .inr (.inl g3)))]) [0, 1, 2, 3, 4, 5, 6, 7, 8, 9] rfl
                    have hD9 := hD.sub (ws' := [(h0, .inr (7, [.ref tp, .ref sc, .ref rd, .ref cu, .ref im, .ref ig, .ref sl, .ref se, .ref sm, .ref fc])), (sl, .inl (cS, 4, .inr (.inr (.inr (.inr (sf4 s0 s1 s2 s3)))))), (s0, .inr (2, [.int wd0, .int rz0, .ref n0])), (s1, .inr (2, [.int wd1, .int rz1, .ref n1])), (s2, .inr (2, [.int wd2, .int rz2, .ref n2])), (s3, .inr (2, [.int wd3, .int rz3, .ref n3])), (n0, .inl (cJ0, 60, .inr (.inl o0_356))), (n1, .inl (cJ1, 60, .inr (.inl g1))), (n2, .inl (cJ2, 60, .inr (.inl g2))), (n3, .inl (cJ3, 60, .inr (.inl g3)))]) [0, 1, 2, 3, 4, 5, 6, 7, 8, 9] (by decide) rfl
                    have hK9 := hK.sub (tys' := [(cS, .object RX3), (cJ0, .long), (cJ1, .long), (cJ2, .long), (cJ3, .long)]) [0, 1, 2, 3, 4] rfl
                    exact W.iret (v := 0) hx hb hr (fun t ht hW => ⟨⟨0, (), rfl, (rg_w (by decide : (0 : Int) ≤ (0 : Int32).toInt ∧ (0 : Int32).toInt ≤ 0) (by decide) (by decide)), o0_356, g1, g2, g3, by rw [ht]; exact hP9, va_K.moved hW.alike hK9, hD9⟩, hS.F ht⟩) hS.2.2 dX9_paste_109
                  ·
                    have n_c_352 : (r_351.toInt : Int) = 0 := c_eq rfl (by decide) c_352
                    have b_r_351 : (0 : Int) ≤ r_351.toInt ∧ r_351.toInt ≤ 0 := r_eq1 b_r_351 (by decide : (0 : Int) ≤ (0 : Int32).toInt ∧ (0 : Int32).toInt ≤ 0) n_c_352 (by decide)
                    refine lv_bipush (v := (-7)) hx hb dX9_paste_93 (by decide) ?_
                    have hP9 := hP.sub (ws' := [(h0, .inr (7, [.ref tp, .ref sc, .ref rd, .ref cu, .ref im, .ref ig, .ref sl, .ref se, .ref sm, .ref fc])), (sl, .inl (cS, 4, .inr (.inr (.inr (.inr (sf4 s0 s1 s2 s3)))))), (s0, .inr (2, [.int wd0, .int rz0, .ref n0])), (s1, .inr (2, [.int wd1, .int rz1, .ref n1])), (s2, .inr (2, [.int wd2, .int rz2, .ref n2])), (s3, .inr (2, [.int wd3, .int rz3, .ref n3])), (n0, .inl (cJ0, 60, .inr (.inl g0))), (n1, .inl (cJ1, 60, .inr (.inl g1))), (n2, .inl (cJ2, 60, .inr (.inl g2))), (n3, .inl (cJ3, 60, .inr (.inl g3)))]) [0, 1, 2, 3, 4, 5, 6, 7, 8, 9] rfl
                    have hD9 := hD.sub (ws' := [(h0, .inr (7, [.ref tp, .ref sc, .ref rd, .ref cu, .ref im, .ref ig, .ref sl, .ref se, .ref sm, .ref fc])), (sl, .inl (cS, 4, .inr (.inr (.inr (.inr (sf4 s0 s1 s2 s3)))))), (s0, .inr (2, [.int wd0, .int rz0, .ref n0])), (s1, .inr (2, [.int wd1, .int rz1, .ref n1])), (s2, .inr (2, [.int wd2, .int rz2, .ref n2])), (s3, .inr (2, [.int wd3, .int rz3, .ref n3])), (n0, .inl (cJ0, 60, .inr (.inl g0))), (n1, .inl (cJ1, 60, .inr (.inl g1))), (n2, .inl (cJ2, 60, .inr (.inl g2))), (n3, .inl (cJ3, 60, .inr (.inl g3)))]) [0, 1, 2, 3, 4, 5, 6, 7, 8, 9] (by decide) rfl
                    have hK9 := hK.sub (tys' := [(cS, .object RX3), (cJ0, .long), (cJ1, .long), (cJ2, .long), (cJ3, .long)]) [0, 1, 2, 3, 4] rfl
                    exact W.iret (v := (-7)) hx hb hr (fun t ht hW => ⟨⟨(-7), (), rfl, (rg_w (by decide : (-7 : Int) ≤ ((-7) : Int32).toInt ∧ ((-7) : Int32).toInt ≤ -7) (by decide) (by decide)), g0, g1, g2, g3, by rw [ht]; exact hP9, va_K.moved hW.alike hK9, hD9⟩, hS.F ht⟩) hS.2.2 dX9_paste_95
              ·
                have n_c_347 : (wd1.toInt : Int) ≠ wd0.toInt := c_ne rfl rfl c_347
                refine lv_bipush (v := (-8)) hx hb dX9_paste_67 (by decide) ?_
                have hP9 := hP.sub (ws' := [(h0, .inr (7, [.ref tp, .ref sc, .ref rd, .ref cu, .ref im, .ref ig, .ref sl, .ref se, .ref sm, .ref fc])), (sl, .inl (cS, 4, .inr (.inr (.inr (.inr (sf4 s0 s1 s2 s3)))))), (s0, .inr (2, [.int wd0, .int rz0, .ref n0])), (s1, .inr (2, [.int wd1, .int rz1, .ref n1])), (s2, .inr (2, [.int wd2, .int rz2, .ref n2])), (s3, .inr (2, [.int wd3, .int rz3, .ref n3])), (n0, .inl (cJ0, 60, .inr (.inl g0))), (n1, .inl (cJ1, 60, .inr (.inl g1))), (n2, .inl (cJ2, 60, .inr (.inl g2))), (n3, .inl (cJ3, 60, .inr (.inl g3)))]) [0, 1, 2, 3, 4, 5, 6, 7, 8, 9] rfl
                have hD9 := hD.sub (ws' := [(h0, .inr (7, [.ref tp, .ref sc, .ref rd, .ref cu, .ref im, .ref ig, .ref sl, .ref se, .ref sm, .ref fc])), (sl, .inl (cS, 4, .inr (.inr (.inr (.inr (sf4 s0 s1 s2 s3)))))), (s0, .inr (2, [.int wd0, .int rz0, .ref n0])), (s1, .inr (2, [.int wd1, .int rz1, .ref n1])), (s2, .inr (2, [.int wd2, .int rz2, .ref n2])), (s3, .inr (2, [.int wd3, .int rz3, .ref n3])), (n0, .inl (cJ0, 60, .inr (.inl g0))), (n1, .inl (cJ1, 60, .inr (.inl g1))), (n2, .inl (cJ2, 60, .inr (.inl g2))), (n3, .inl (cJ3, 60, .inr (.inl g3)))]) [0, 1, 2, 3, 4, 5, 6, 7, 8, 9] (by decide) rfl
                have hK9 := hK.sub (tys' := [(cS, .object RX3), (cJ0, .long), (cJ1, .long), (cJ2, .long), (cJ3, .long)]) [0, 1, 2, 3, 4] rfl
                exact W.iret (v := (-8)) hx hb hr (fun t ht hW => ⟨⟨(-8), (), rfl, (rg_w (by decide : (-8 : Int) ≤ ((-8) : Int32).toInt ∧ ((-8) : Int32).toInt ≤ -8) (by decide) (by decide)), g0, g1, g2, g3, by rw [ht]; exact hP9, va_K.moved hW.alike hK9, hD9⟩, hS.F ht⟩) hS.2.2 dX9_paste_69
            ·
              have n_c_345 : (r_344.toInt : Int) = 0 := c_eq rfl (by decide) c_345
              have b_r_344 : (0 : Int) ≤ r_344.toInt ∧ r_344.toInt ≤ 0 := r_eq1 b_r_344 (by decide : (0 : Int) ≤ (0 : Int32).toInt ∧ (0 : Int32).toInt ≤ 0) n_c_345 (by decide)
              refine lv_bipush (v := (-6)) hx hb dX9_paste_51 (by decide) ?_
              have hP9 := hP.sub (ws' := [(h0, .inr (7, [.ref tp, .ref sc, .ref rd, .ref cu, .ref im, .ref ig, .ref sl, .ref se, .ref sm, .ref fc])), (sl, .inl (cS, 4, .inr (.inr (.inr (.inr (sf4 s0 s1 s2 s3)))))), (s0, .inr (2, [.int wd0, .int rz0, .ref n0])), (s1, .inr (2, [.int wd1, .int rz1, .ref n1])), (s2, .inr (2, [.int wd2, .int rz2, .ref n2])), (s3, .inr (2, [.int wd3, .int rz3, .ref n3])), (n0, .inl (cJ0, 60, .inr (.inl g0))), (n1, .inl (cJ1, 60, .inr (.inl g1))), (n2, .inl (cJ2, 60, .inr (.inl g2))), (n3, .inl (cJ3, 60, .inr (.inl g3)))]) [0, 1, 2, 3, 4, 5, 6, 7, 8, 9] rfl
              have hD9 := hD.sub (ws' := [(h0, .inr (7, [.ref tp, .ref sc, .ref rd, .ref cu, .ref im, .ref ig, .ref sl, .ref se, .ref sm, .ref fc])), (sl, .inl (cS, 4, .inr (.inr (.inr (.inr (sf4 s0 s1 s2 s3)))))), (s0, .inr (2, [.int wd0, .int rz0, .ref n0])), (s1, .inr (2, [.int wd1, .int rz1, .ref n1])), (s2, .inr (2, [.int wd2, .int rz2, .ref n2])), (s3, .inr (2, [.int wd3, .int rz3, .ref n3])), (n0, .inl (cJ0, 60, .inr (.inl g0))), (n1, .inl (cJ1, 60, .inr (.inl g1))), (n2, .inl (cJ2, 60, .inr (.inl g2))), (n3, .inl (cJ3, 60, .inr (.inl g3)))]) [0, 1, 2, 3, 4, 5, 6, 7, 8, 9] (by decide) rfl
              have hK9 := hK.sub (tys' := [(cS, .object RX3), (cJ0, .long), (cJ1, .long), (cJ2, .long), (cJ3, .long)]) [0, 1, 2, 3, 4] rfl
              exact W.iret (v := (-6)) hx hb hr (fun t ht hW => ⟨⟨(-6), (), rfl, (rg_w (by decide : (-6 : Int) ≤ ((-6) : Int32).toInt ∧ ((-6) : Int32).toInt ≤ -6) (by decide) (by decide)), g0, g1, g2, g3, by rw [ht]; exact hP9, va_K.moved hW.alike hK9, hD9⟩, hS.F ht⟩) hS.2.2 dX9_paste_53
        ·
          obtain rfl : a3 = 1 := Int32.toInt_inj.mp (h_340.trans (by decide))
          refine va_aldq hx hb hK hP 1 0 rfl rfl (vp_in_b (by decide : (1 : Int) ≤ (1 : Int32).toInt ∧ (1 : Int32).toInt ≤ 1) (by decide) (by decide)) dX9_paste_32 ?_
          refine W.eq (g2 := F0 m 33 ls (.ref s1 :: [])) (congrArg (fun v => F0 m 33 ls (va_rf v :: [])) (sf4_1 s0 s1 s2 s3)) ?_
          refine lv_astore (lv' := [(7, .ref s1), (6, .ref s1), (0, .ref h0), (1, .int 1), (2, .int a2), (3, .int 1), (4, .int a4), (5, .int a5)]) hx hb dX9_paste_33 hl (by decide) rfl (fun ls hl => ?_)
          refine lv_aload hx hb dX9_paste_35 (lv_at hl 1 rfl) ?_
          refine vp_callSi (W.runV (As := []) (rest := []) ⟨hx, hb, hml, hown, hts⟩ (kX3_stands l dC dI s1 wd1 rz1 n1 b_wd1 b_rz1) (cwV 0 hts gX9_paste__X3_stands_V270 rfl rfl rfl hd_yX3_stands ⟨lel 1 2 rfl, lel 20 88 rfl⟩) ⟨pw_fb, rcv_X3 hK hP (q0 := 3) rfl, (pw_use hP hK hN [3] rfl [] rfl)⟩ rfl rfl hl.1 rfl (lv_room (Nat.le_of_ble_eq_true rfl)) dX9_paste_37 ⟨lel 0 0 rfl, lel 0 0 rfl⟩) (fun r_357 h_r_357 => ?_)
          obtain ⟨b_r_357, nz_r_357⟩ := h_r_357
          have b_r_357 : (0 : Int) ≤ r_357.toInt ∧ r_357.toInt ≤ 1 := b_r_357
          refine lv_if_eq (tgt := 51) hx hb dX9_paste_40 (by decide) (fun c_358 => ?_) (fun c_358 => ?_)
          ·
            have n_c_358 : (r_357.toInt : Int) = 0 := c_eq rfl (by decide) c_358
            have b_r_357 : (0 : Int) ≤ r_357.toInt ∧ r_357.toInt ≤ 0 := r_eq1 b_r_357 (by decide : (0 : Int) ≤ (0 : Int32).toInt ∧ (0 : Int32).toInt ≤ 0) n_c_358 (by decide)
            refine lv_bipush (v := (-6)) hx hb dX9_paste_51 (by decide) ?_
            have hP9 := hP.sub (ws' := [(h0, .inr (7, [.ref tp, .ref sc, .ref rd, .ref cu, .ref im, .ref ig, .ref sl, .ref se, .ref sm, .ref fc])), (sl, .inl (cS, 4, .inr (.inr (.inr (.inr (sf4 s0 s1 s2 s3)))))), (s0, .inr (2, [.int wd0, .int rz0, .ref n0])), (s1, .inr (2, [.int wd1, .int rz1, .ref n1])), (s2, .inr (2, [.int wd2, .int rz2, .ref n2])), (s3, .inr (2, [.int wd3, .int rz3, .ref n3])), (n0, .inl (cJ0, 60, .inr (.inl g0))), (n1, .inl (cJ1, 60, .inr (.inl g1))), (n2, .inl (cJ2, 60, .inr (.inl g2))), (n3, .inl (cJ3, 60, .inr (.inl g3)))]) [0, 1, 2, 3, 4, 5, 6, 7, 8, 9] rfl
            have hD9 := hD.sub (ws' := [(h0, .inr (7, [.ref tp, .ref sc, .ref rd, .ref cu, .ref im, .ref ig, .ref sl, .ref se, .ref sm, .ref fc])), (sl, .inl (cS, 4, .inr (.inr (.inr (.inr (sf4 s0 s1 s2 s3)))))), (s0, .inr (2, [.int wd0, .int rz0, .ref n0])), (s1, .inr (2, [.int wd1, .int rz1, .ref n1])), (s2, .inr (2, [.int wd2, .int rz2, .ref n2])), (s3, .inr (2, [.int wd3, .int rz3, .ref n3])), (n0, .inl (cJ0, 60, .inr (.inl g0))), (n1, .inl (cJ1, 60, .inr (.inl g1))), (n2, .inl (cJ2, 60, .inr (.inl g2))), (n3, .inl (cJ3, 60, .inr (.inl g3)))]) [0, 1, 2, 3, 4, 5, 6, 7, 8, 9] (by decide) rfl
            have hK9 := hK.sub (tys' := [(cS, .object RX3), (cJ0, .long), (cJ1, .long), (cJ2, .long), (cJ3, .long)]) [0, 1, 2, 3, 4] rfl
            exact W.iret (v := (-6)) hx hb hr (fun t ht hW => ⟨⟨(-6), (), rfl, (rg_w (by decide : (-6 : Int) ≤ ((-6) : Int32).toInt ∧ ((-6) : Int32).toInt ≤ -6) (by decide) (by decide)), g0, g1, g2, g3, by rw [ht]; exact hP9, va_K.moved hW.alike hK9, hD9⟩, hS.F ht⟩) hS.2.2 dX9_paste_53
          ·
            have n_c_358 : (r_357.toInt : Int) ≠ 0 := c_ne rfl (by decide) c_358
            have b_r_357 : (1 : Int) ≤ r_357.toInt ∧ r_357.toInt ≤ 1 := r_ne1 b_r_357 (by decide : (0 : Int) ≤ (0 : Int32).toInt ∧ (0 : Int32).toInt ≤ 0) n_c_358 (by decide)
            obtain ⟨b_wd1, g_359⟩ := nz_r_357 c_358
            refine lv_aload hx hb dX9_paste_43 (lv_at hl 0 rfl) ?_
            refine vp_callSi (W.runV (As := []) (rest := []) ⟨hx, hb, hml, hown, hts⟩ (kX3_stands l dC dI s1 wd1 rz1 n1 (rg_w b_wd1 (by decide) (by decide)) b_rz1) (cwV 0 hts gX9_paste__X3_stands_V270 rfl rfl rfl hd_yX3_stands ⟨lel 1 2 rfl, lel 20 88 rfl⟩) ⟨pw_fb, rcv_X3 hK hP (q0 := 3) rfl, (pw_use hP hK hN [3] rfl [] rfl)⟩ rfl rfl hl.1 rfl (lv_room (Nat.le_of_ble_eq_true rfl)) dX9_paste_45 ⟨lel 0 0 rfl, lel 0 0 rfl⟩) (fun r_360 h_r_360 => ?_)
            obtain ⟨b_r_360, nz_r_360⟩ := h_r_360
            have b_r_360 : (0 : Int) ≤ r_360.toInt ∧ r_360.toInt ≤ 1 := b_r_360
            refine lv_if_ne (tgt := 54) hx hb dX9_paste_48 (by decide) (fun c_361 => ?_) (fun c_361 => ?_)
            ·
              have n_c_361 : (r_360.toInt : Int) ≠ 0 := c_ne rfl (by decide) c_361
              have b_r_360 : (1 : Int) ≤ r_360.toInt ∧ r_360.toInt ≤ 1 := r_ne1 b_r_360 (by decide : (0 : Int) ≤ (0 : Int32).toInt ∧ (0 : Int32).toInt ≤ 0) n_c_361 (by decide)
              obtain ⟨b_wd1, g_362⟩ := nz_r_360 c_361
              refine lv_aload hx hb dX9_paste_54 (lv_at hl 1 rfl) ?_
              refine va_getN (own := RX9) (index := 350) (ref := RX3) (host := RX9) (D := (dC, dI)) (ci := 2) (v := .int wd1) (C := RX3) (T := TX3) (N := 3) hx hb hts iX9_paste_X3 hown hK hP 3 rfl rfl 0 (by decide) (va_Nw.use rfl (hN _ (List.mem_of_getElem? (i := 21) rfl))) (fun _ h9 => h9) rfl dX9_paste_56 ?_
              refine lv_aload hx hb dX9_paste_59 (lv_at hl 0 rfl) ?_
              refine va_getN (own := RX9) (index := 350) (ref := RX3) (host := RX9) (D := (dC, dI)) (ci := 2) (v := .int wd1) (C := RX3) (T := TX3) (N := 3) hx hb hts iX9_paste_X3 hown hK hP 3 rfl rfl 0 (by decide) (va_Nw.use rfl (hN _ (List.mem_of_getElem? (i := 21) rfl))) (fun _ h9 => h9) rfl dX9_paste_61 ?_
              refine lv_icmp_eq (tgt := 70) hx hb dX9_paste_64 (by decide) (fun c_363 => ?_) (fun c_363 => ?_)
              ·
                have n_c_363 : (wd1.toInt : Int) = wd1.toInt := c_eq rfl rfl c_363
                refine lv_aload hx hb dX9_paste_70 (lv_at hl 1 rfl) ?_
                refine lv_iload_n hx hb dX9_paste_72 rfl (lv_at hl 4 rfl) ?_
                refine lv_iload hx hb dX9_paste_73 (lv_at hl 7 rfl) ?_
                refine vp_callSi (W.runV (As := [.int a2, .int a5]) (rest := []) ⟨hx, hb, hml, hown, hts⟩ (kX3_hasStretch l dC dI s1 wd1 rz1 n1 a2 a5 (rg_w b_wd1 (by decide) (by decide)) b_rz1) (cwV 2 hts gX9_paste__X3_hasStretch_V343 rfl rfl rfl hd_yX3_hasStretch ⟨lel 1 2 rfl, lel 22 88 rfl⟩) ⟨pw_fb, rcv_X3 hK hP (q0 := 3) rfl, (pw_use hP hK hN [3] rfl [] rfl)⟩ rfl rfl hl.1 rfl (lv_room (Nat.le_of_ble_eq_true rfl)) dX9_paste_75 ⟨lel 0 0 rfl, lel 0 0 rfl⟩) (fun r_364 h_r_364 => ?_)
                obtain ⟨b_r_364, nz_r_364⟩ := h_r_364
                have b_r_364 : (0 : Int) ≤ r_364.toInt ∧ r_364.toInt ≤ 1 := b_r_364
                refine lv_if_eq (tgt := 93) hx hb dX9_paste_78 (by decide) (fun c_365 => ?_) (fun c_365 => ?_)
                ·
                  have n_c_365 : (r_364.toInt : Int) = 0 := c_eq rfl (by decide) c_365
                  have b_r_364 : (0 : Int) ≤ r_364.toInt ∧ r_364.toInt ≤ 0 := r_eq1 b_r_364 (by decide : (0 : Int) ≤ (0 : Int32).toInt ∧ (0 : Int32).toInt ≤ 0) n_c_365 (by decide)
                  refine lv_bipush (v := (-7)) hx hb dX9_paste_93 (by decide) ?_
                  have hP9 := hP.sub (ws' := [(h0, .inr (7, [.ref tp, .ref sc, .ref rd, .ref cu, .ref im, .ref ig, .ref sl, .ref se, .ref sm, .ref fc])), (sl, .inl (cS, 4, .inr (.inr (.inr (.inr (sf4 s0 s1 s2 s3)))))), (s0, .inr (2, [.int wd0, .int rz0, .ref n0])), (s1, .inr (2, [.int wd1, .int rz1, .ref n1])), (s2, .inr (2, [.int wd2, .int rz2, .ref n2])), (s3, .inr (2, [.int wd3, .int rz3, .ref n3])), (n0, .inl (cJ0, 60, .inr (.inl g0))), (n1, .inl (cJ1, 60, .inr (.inl g1))), (n2, .inl (cJ2, 60, .inr (.inl g2))), (n3, .inl (cJ3, 60, .inr (.inl g3)))]) [0, 1, 2, 3, 4, 5, 6, 7, 8, 9] rfl
                  have hD9 := hD.sub (ws' := [(h0, .inr (7, [.ref tp, .ref sc, .ref rd, .ref cu, .ref im, .ref ig, .ref sl, .ref se, .ref sm, .ref fc])), (sl, .inl (cS, 4, .inr (.inr (.inr (.inr (sf4 s0 s1 s2 s3)))))), (s0, .inr (2, [.int wd0, .int rz0, .ref n0])), (s1, .inr (2, [.int wd1, .int rz1, .ref n1])), (s2, .inr (2, [.int wd2, .int rz2, .ref n2])), (s3, .inr (2, [.int wd3, .int rz3, .ref n3])), (n0, .inl (cJ0, 60, .inr (.inl g0))), (n1, .inl (cJ1, 60, .inr (.inl g1))), (n2, .inl (cJ2, 60, .inr (.inl g2))), (n3, .inl (cJ3, 60, .inr (.inl g3)))]) [0, 1, 2, 3, 4, 5, 6, 7, 8, 9] (by decide) rfl
                  have hK9 := hK.sub (tys' := [(cS, .object RX3), (cJ0, .long), (cJ1, .long), (cJ2, .long), (cJ3, .long)]) [0, 1, 2, 3, 4] rfl
                  exact W.iret (v := (-7)) hx hb hr (fun t ht hW => ⟨⟨(-7), (), rfl, (rg_w (by decide : (-7 : Int) ≤ ((-7) : Int32).toInt ∧ ((-7) : Int32).toInt ≤ -7) (by decide) (by decide)), g0, g1, g2, g3, by rw [ht]; exact hP9, va_K.moved hW.alike hK9, hD9⟩, hS.F ht⟩) hS.2.2 dX9_paste_95
                ·
                  have n_c_365 : (r_364.toInt : Int) ≠ 0 := c_ne rfl (by decide) c_365
                  have b_r_364 : (1 : Int) ≤ r_364.toInt ∧ r_364.toInt ≤ 1 := r_ne1 b_r_364 (by decide : (0 : Int) ≤ (0 : Int32).toInt ∧ (0 : Int32).toInt ≤ 0) n_c_365 (by decide)
                  obtain ⟨b_a2, b_a5, g_366⟩ := nz_r_364 c_365
                  refine lv_aload hx hb dX9_paste_81 (lv_at hl 0 rfl) ?_
                  refine lv_iload hx hb dX9_paste_83 (lv_at hl 6 rfl) ?_
                  refine lv_iload hx hb dX9_paste_85 (lv_at hl 7 rfl) ?_
                  refine vp_callSi (W.runV (As := [.int a4, .int a5]) (rest := []) ⟨hx, hb, hml, hown, hts⟩ (kX3_hasStretch l dC dI s1 wd1 rz1 n1 a4 a5 (rg_w b_wd1 (by decide) (by decide)) b_rz1) (cwV 2 hts gX9_paste__X3_hasStretch_V343 rfl rfl rfl hd_yX3_hasStretch ⟨lel 1 2 rfl, lel 22 88 rfl⟩) ⟨pw_fb, rcv_X3 hK hP (q0 := 3) rfl, (pw_use hP hK hN [3] rfl [] rfl)⟩ rfl rfl hl.1 rfl (lv_room (Nat.le_of_ble_eq_true rfl)) dX9_paste_87 ⟨lel 0 0 rfl, lel 0 0 rfl⟩) (fun r_367 h_r_367 => ?_)
                  obtain ⟨b_r_367, nz_r_367⟩ := h_r_367
                  have b_r_367 : (0 : Int) ≤ r_367.toInt ∧ r_367.toInt ≤ 1 := b_r_367
                  refine lv_if_ne (tgt := 96) hx hb dX9_paste_90 (by decide) (fun c_368 => ?_) (fun c_368 => ?_)
                  ·
                    have n_c_368 : (r_367.toInt : Int) ≠ 0 := c_ne rfl (by decide) c_368
                    have b_r_367 : (1 : Int) ≤ r_367.toInt ∧ r_367.toInt ≤ 1 := r_ne1 b_r_367 (by decide : (0 : Int) ≤ (0 : Int32).toInt ∧ (0 : Int32).toInt ≤ 0) n_c_368 (by decide)
                    obtain ⟨b_a4, b_a5, g_369⟩ := nz_r_367 c_368
                    refine lv_aload hx hb dX9_paste_96 (lv_at hl 0 rfl) ?_
                    refine lv_iload hx hb dX9_paste_98 (lv_at hl 6 rfl) ?_
                    refine lv_aload hx hb dX9_paste_100 (lv_at hl 1 rfl) ?_
                    refine lv_iload_n hx hb dX9_paste_102 rfl (lv_at hl 4 rfl) ?_
                    refine lv_iload hx hb dX9_paste_103 (lv_at hl 7 rfl) ?_
                    have hFc := va_free (wc := [(s1, .inr (2, [.int wd1, .int rz1, .ref n1])), (n1, .inl (cJ1, 60, .inr (.inl g1)))]) hD hS hA [3, 7] rfl
                    refine va_callv (va_runV (As := [.int a4, .ref s1, .int a2, .int a5]) (rest := []) ⟨hx, hb, hml, hown, hts⟩ (kX3_takeS l dC dI s1 wd1 rz1 n1 cJ1 g1 a4 a2 a5 (s.heap.size) (rg_w b_wd1 (by decide) (by decide)) b_rz1) (cwV 4 hts gX9_paste__X3_takeS_V353 rfl rfl rfl hd_yX3_take ⟨lel 2 2 rfl, lel 88 88 rfl⟩) ⟨hw_fb, rcv_X3 hK hP (q0 := 3) rfl, (hw_use hP hD hK hN [3, 7] rfl (by decide) rfl [2] rfl)⟩ rfl rfl hl.1 rfl (lv_room (Nat.le_of_ble_eq_true rfl)) dX9_paste_105 ⟨lel 0 0 rfl, lel 0 0 rfl⟩) hS (fun q _ h => hFc q h) hFc (fun u_371 t H1 locs ht hvm hw_r_370 hB hz1 hk1 hS => ?_)
                    obtain ⟨o0_372, hP1, hK1, hD1⟩ := hB
                    rw [ht] at hP1
                    have hK1 := va_K.moved hvm.symm hK1
                    obtain ⟨hP, hD⟩ := va_join (wr := [(h0, .inr (7, [.ref tp, .ref sc, .ref rd, .ref cu, .ref im, .ref ig, .ref sl, .ref se, .ref sm, .ref fc])), (sl, .inl (cS, 4, .inr (.inr (.inr (.inr (sf4 s0 s1 s2 s3)))))), (s0, .inr (2, [.int wd0, .int rz0, .ref n0])), (s2, .inr (2, [.int wd2, .int rz2, .ref n2])), (s3, .inr (2, [.int wd3, .int rz3, .ref n3])), (n0, .inl (cJ0, 60, .inr (.inl g0))), (n2, .inl (cJ2, 60, .inr (.inl g2))), (n3, .inl (cJ3, 60, .inr (.inl g3)))]) (w1 := [(s1, .inr (2, [.int wd1, .int rz1, .ref n1])), (n1, .inl (cJ1, 60, .inr (.inl o0_372)))]) hP hD [3, 7] [0, 1, 2, 4, 5, 6, 8, 9] rfl rfl (by decide) (by decide) hk1 hFc hP1 hD1
                    have hK := (hK.sub (tys' := [(cS, .object RX3), (cJ0, .long), (cJ2, .long), (cJ3, .long)]) [0, 1, 3, 4] rfl).app hK1
                    generalize H1 = H at hP hS ⊢
                    have hP := hP.sub (ws' := [(h0, .inr (7, [.ref tp, .ref sc, .ref rd, .ref cu, .ref im, .ref ig, .ref sl, .ref se, .ref sm, .ref fc])), (sl, .inl (cS, 4, .inr (.inr (.inr (.inr (sf4 s0 s1 s2 s3)))))), (s0, .inr (2, [.int wd0, .int rz0, .ref n0])), (s1, .inr (2, [.int wd1, .int rz1, .ref n1])), (s2, .inr (2, [.int wd2, .int rz2, .ref n2])), (s3, .inr (2, [.int wd3, .int rz3, .ref n3])), (n0, .inl (cJ0, 60, .inr (.inl g0))), (n1, .inl (cJ1, 60, .inr (.inl o0_372))), (n2, .inl (cJ2, 60, .inr (.inl g2))), (n3, .inl (cJ3, 60, .inr (.inl g3)))]) [0, 1, 2, 8, 3, 4, 5, 9, 6, 7] rfl
                    have hD := hD.sub (ws' := [(h0, .inr (7, [.ref tp, .ref sc, .ref rd, .ref cu, .ref im, .ref ig, .ref sl, .ref se, .ref sm, .ref fc])), (sl, .inl (cS, 4, .inr (.inr (.inr (.inr (sf4 s0 s1 s2 s3)))))), (s0, .inr (2, [.int wd0, .int rz0, .ref n0])), (s1, .inr (2, [.int wd1, .int rz1, .ref n1])), (s2, .inr (2, [.int wd2, .int rz2, .ref n2])), (s3, .inr (2, [.int wd3, .int rz3, .ref n3])), (n0, .inl (cJ0, 60, .inr (.inl g0))), (n1, .inl (cJ1, 60, .inr (.inl o0_372))), (n2, .inl (cJ2, 60, .inr (.inl g2))), (n3, .inl (cJ3, 60, .inr (.inl g3)))]) [0, 1, 2, 8, 3, 4, 5, 9, 6, 7] (by decide) rfl
                    have hK := hK.sub (tys' := [(cS, .object RX3), (cJ0, .long), (cJ1, .long), (cJ2, .long), (cJ3, .long)]) [0, 1, 4, 2, 3] rfl
                    have hP : va_P (dC, dI) vwCl [(h0, .inr (7, [.ref tp, .ref sc, .ref rd, .ref cu, .ref im, .ref ig, .ref sl, .ref se, .ref sm, .ref fc])), (sl, .inl (cS, 4, .inr (.inr (.inr (.inr (sf4 s0 s1 s2 s3)))))), (s0, .inr (2, [.int wd0, .int rz0, .ref n0])), (s1, .inr (2, [.int wd1, .int rz1, .ref n1])), (s2, .inr (2, [.int wd2, .int rz2, .ref n2])), (s3, .inr (2, [.int wd3, .int rz3, .ref n3])), (n0, .inl (cJ0, 60, .inr (.inl g0))), (n1, .inl (cJ1, 60, .inr (.inl o0_372))), (n2, .inl (cJ2, 60, .inr (.inl g2))), (n3, .inl (cJ3, 60, .inr (.inl g3)))] H := hP
                    have hD : va_D A [(h0, .inr (7, [.ref tp, .ref sc, .ref rd, .ref cu, .ref im, .ref ig, .ref sl, .ref se, .ref sm, .ref fc])), (sl, .inl (cS, 4, .inr (.inr (.inr (.inr (sf4 s0 s1 s2 s3)))))), (s0, .inr (2, [.int wd0, .int rz0, .ref n0])), (s1, .inr (2, [.int wd1, .int rz1, .ref n1])), (s2, .inr (2, [.int wd2, .int rz2, .ref n2])), (s3, .inr (2, [.int wd3, .int rz3, .ref n3])), (n0, .inl (cJ0, 60, .inr (.inl g0))), (n1, .inl (cJ1, 60, .inr (.inl o0_372))), (n2, .inl (cJ2, 60, .inr (.inl g2))), (n3, .inl (cJ3, 60, .inr (.inl g3)))] := hD
                    have hK : va_K (dC, dI) vwCl [(cS, .object RX3), (cJ0, .long), (cJ1, .long), (cJ2, .long), (cJ3, .long)] s := hK
                    refine lv_iconst (v := 0) hx hb dX9_paste_108 (by decide) ?_
                    have hP9 := hP.sub (ws' := [(h0, .inr (7, [.ref tp, .ref sc, .ref rd, .ref cu, .ref im, .ref ig, .ref sl, .ref se, .ref sm, .ref fc])), (sl, .inl (cS, 4, .inr (.inr (.inr (.inr (sf4 s0 s1 s2 s3)))))), (s0, .inr (2, [.int wd0, .int rz0, .ref n0])), (s1, .inr (2, [.int wd1, .int rz1, .ref n1])), (s2, .inr (2, [.int wd2, .int rz2, .ref n2])), (s3, .inr (2, [.int wd3, .int rz3, .ref n3])), (n0, .inl (cJ0, 60, .inr (.inl g0))), (n1, .inl (cJ1, 60, .inr (.inl o0_372))), (n2, .inl (cJ2, 60, .inr (.inl g2))), (n3, .inl (cJ3, 60, .inr (.inl g3)))]) [0, 1, 2, 3, 4, 5, 6, 7, 8, 9] rfl
                    have hD9 := hD.sub (ws' := [(h0, .inr (7, [.ref tp, .ref sc, .ref rd, .ref cu, .ref im, .ref ig, .ref sl, .ref se, .ref sm, .ref fc])), (sl, .inl (cS, 4, .inr (.inr (.inr (.inr (sf4 s0 s1 s2 s3)))))), (s0, .inr (2, [.int wd0, .int rz0, .ref n0])), (s1, .inr (2, [.int wd1, .int rz1, .ref n1])), (s2, .inr (2, [.int wd2, .int rz2, .ref n2])), (s3, .inr (2, [.int wd3, .int rz3, .ref n3])), (n0, .inl (cJ0, 60, .inr (.inl g0))), (n1, .inl (cJ1, 60, .inr (.inl o0_372))), (n2, .inl (cJ2, 60, .inr (.inl g2))), (n3, .inl (cJ3, 60, .inr (.inl g3)))]) [0, 1, 2, 3, 4, 5, 6, 7, 8, 9] (by decide) rfl
                    have hK9 := hK.sub (tys' := [(cS, .object RX3), (cJ0, .long), (cJ1, .long), (cJ2, .long), (cJ3, .long)]) [0, 1, 2, 3, 4] rfl
                    exact W.iret (v := 0) hx hb hr (fun t ht hW => ⟨⟨0, (), rfl, (rg_w (by decide : (0 : Int) ≤ (0 : Int32).toInt ∧ (0 : Int32).toInt ≤ 0) (by decide) (by decide)), g0, o0_372, g2, g3, by rw [ht]; exact hP9, va_K.moved hW.alike hK9, hD9⟩, hS.F ht⟩) hS.2.2 dX9_paste_109
                  ·
                    have n_c_368 : (r_367.toInt : Int) = 0 := c_eq rfl (by decide) c_368
                    have b_r_367 : (0 : Int) ≤ r_367.toInt ∧ r_367.toInt ≤ 0 := r_eq1 b_r_367 (by decide : (0 : Int) ≤ (0 : Int32).toInt ∧ (0 : Int32).toInt ≤ 0) n_c_368 (by decide)
                    refine lv_bipush (v := (-7)) hx hb dX9_paste_93 (by decide) ?_
                    have hP9 := hP.sub (ws' := [(h0, .inr (7, [.ref tp, .ref sc, .ref rd, .ref cu, .ref im, .ref ig, .ref sl, .ref se, .ref sm, .ref fc])), (sl, .inl (cS, 4, .inr (.inr (.inr (.inr (sf4 s0 s1 s2 s3)))))), (s0, .inr (2, [.int wd0, .int rz0, .ref n0])), (s1, .inr (2, [.int wd1, .int rz1, .ref n1])), (s2, .inr (2, [.int wd2, .int rz2, .ref n2])), (s3, .inr (2, [.int wd3, .int rz3, .ref n3])), (n0, .inl (cJ0, 60, .inr (.inl g0))), (n1, .inl (cJ1, 60, .inr (.inl g1))), (n2, .inl (cJ2, 60, .inr (.inl g2))), (n3, .inl (cJ3, 60, .inr (.inl g3)))]) [0, 1, 2, 3, 4, 5, 6, 7, 8, 9] rfl
                    have hD9 := hD.sub (ws' := [(h0, .inr (7, [.ref tp, .ref sc, .ref rd, .ref cu, .ref im, .ref ig, .ref sl, .ref se, .ref sm, .ref fc])), (sl, .inl (cS, 4, .inr (.inr (.inr (.inr (sf4 s0 s1 s2 s3)))))), (s0, .inr (2, [.int wd0, .int rz0, .ref n0])), (s1, .inr (2, [.int wd1, .int rz1, .ref n1])), (s2, .inr (2, [.int wd2, .int rz2, .ref n2])), (s3, .inr (2, [.int wd3, .int rz3, .ref n3])), (n0, .inl (cJ0, 60, .inr (.inl g0))), (n1, .inl (cJ1, 60, .inr (.inl g1))), (n2, .inl (cJ2, 60, .inr (.inl g2))), (n3, .inl (cJ3, 60, .inr (.inl g3)))]) [0, 1, 2, 3, 4, 5, 6, 7, 8, 9] (by decide) rfl
                    have hK9 := hK.sub (tys' := [(cS, .object RX3), (cJ0, .long), (cJ1, .long), (cJ2, .long), (cJ3, .long)]) [0, 1, 2, 3, 4] rfl
                    exact W.iret (v := (-7)) hx hb hr (fun t ht hW => ⟨⟨(-7), (), rfl, (rg_w (by decide : (-7 : Int) ≤ ((-7) : Int32).toInt ∧ ((-7) : Int32).toInt ≤ -7) (by decide) (by decide)), g0, g1, g2, g3, by rw [ht]; exact hP9, va_K.moved hW.alike hK9, hD9⟩, hS.F ht⟩) hS.2.2 dX9_paste_95
              ·
                have n_c_363 : (wd1.toInt : Int) ≠ wd1.toInt := c_ne rfl rfl c_363
                refine lv_bipush (v := (-8)) hx hb dX9_paste_67 (by decide) ?_
                have hP9 := hP.sub (ws' := [(h0, .inr (7, [.ref tp, .ref sc, .ref rd, .ref cu, .ref im, .ref ig, .ref sl, .ref se, .ref sm, .ref fc])), (sl, .inl (cS, 4, .inr (.inr (.inr (.inr (sf4 s0 s1 s2 s3)))))), (s0, .inr (2, [.int wd0, .int rz0, .ref n0])), (s1, .inr (2, [.int wd1, .int rz1, .ref n1])), (s2, .inr (2, [.int wd2, .int rz2, .ref n2])), (s3, .inr (2, [.int wd3, .int rz3, .ref n3])), (n0, .inl (cJ0, 60, .inr (.inl g0))), (n1, .inl (cJ1, 60, .inr (.inl g1))), (n2, .inl (cJ2, 60, .inr (.inl g2))), (n3, .inl (cJ3, 60, .inr (.inl g3)))]) [0, 1, 2, 3, 4, 5, 6, 7, 8, 9] rfl
                have hD9 := hD.sub (ws' := [(h0, .inr (7, [.ref tp, .ref sc, .ref rd, .ref cu, .ref im, .ref ig, .ref sl, .ref se, .ref sm, .ref fc])), (sl, .inl (cS, 4, .inr (.inr (.inr (.inr (sf4 s0 s1 s2 s3)))))), (s0, .inr (2, [.int wd0, .int rz0, .ref n0])), (s1, .inr (2, [.int wd1, .int rz1, .ref n1])), (s2, .inr (2, [.int wd2, .int rz2, .ref n2])), (s3, .inr (2, [.int wd3, .int rz3, .ref n3])), (n0, .inl (cJ0, 60, .inr (.inl g0))), (n1, .inl (cJ1, 60, .inr (.inl g1))), (n2, .inl (cJ2, 60, .inr (.inl g2))), (n3, .inl (cJ3, 60, .inr (.inl g3)))]) [0, 1, 2, 3, 4, 5, 6, 7, 8, 9] (by decide) rfl
                have hK9 := hK.sub (tys' := [(cS, .object RX3), (cJ0, .long), (cJ1, .long), (cJ2, .long), (cJ3, .long)]) [0, 1, 2, 3, 4] rfl
                exact W.iret (v := (-8)) hx hb hr (fun t ht hW => ⟨⟨(-8), (), rfl, (rg_w (by decide : (-8 : Int) ≤ ((-8) : Int32).toInt ∧ ((-8) : Int32).toInt ≤ -8) (by decide) (by decide)), g0, g1, g2, g3, by rw [ht]; exact hP9, va_K.moved hW.alike hK9, hD9⟩, hS.F ht⟩) hS.2.2 dX9_paste_69
            ·
              have n_c_361 : (r_360.toInt : Int) = 0 := c_eq rfl (by decide) c_361
              have b_r_360 : (0 : Int) ≤ r_360.toInt ∧ r_360.toInt ≤ 0 := r_eq1 b_r_360 (by decide : (0 : Int) ≤ (0 : Int32).toInt ∧ (0 : Int32).toInt ≤ 0) n_c_361 (by decide)
              refine lv_bipush (v := (-6)) hx hb dX9_paste_51 (by decide) ?_
              have hP9 := hP.sub (ws' := [(h0, .inr (7, [.ref tp, .ref sc, .ref rd, .ref cu, .ref im, .ref ig, .ref sl, .ref se, .ref sm, .ref fc])), (sl, .inl (cS, 4, .inr (.inr (.inr (.inr (sf4 s0 s1 s2 s3)))))), (s0, .inr (2, [.int wd0, .int rz0, .ref n0])), (s1, .inr (2, [.int wd1, .int rz1, .ref n1])), (s2, .inr (2, [.int wd2, .int rz2, .ref n2])), (s3, .inr (2, [.int wd3, .int rz3, .ref n3])), (n0, .inl (cJ0, 60, .inr (.inl g0))), (n1, .inl (cJ1, 60, .inr (.inl g1))), (n2, .inl (cJ2, 60, .inr (.inl g2))), (n3, .inl (cJ3, 60, .inr (.inl g3)))]) [0, 1, 2, 3, 4, 5, 6, 7, 8, 9] rfl
              have hD9 := hD.sub (ws' := [(h0, .inr (7, [.ref tp, .ref sc, .ref rd, .ref cu, .ref im, .ref ig, .ref sl, .ref se, .ref sm, .ref fc])), (sl, .inl (cS, 4, .inr (.inr (.inr (.inr (sf4 s0 s1 s2 s3)))))), (s0, .inr (2, [.int wd0, .int rz0, .ref n0])), (s1, .inr (2, [.int wd1, .int rz1, .ref n1])), (s2, .inr (2, [.int wd2, .int rz2, .ref n2])), (s3, .inr (2, [.int wd3, .int rz3, .ref n3])), (n0, .inl (cJ0, 60, .inr (.inl g0))), (n1, .inl (cJ1, 60, .inr (.inl g1))), (n2, .inl (cJ2, 60, .inr (.inl g2))), (n3, .inl (cJ3, 60, .inr (.inl g3)))]) [0, 1, 2, 3, 4, 5, 6, 7, 8, 9] (by decide) rfl
              have hK9 := hK.sub (tys' := [(cS, .object RX3), (cJ0, .long), (cJ1, .long), (cJ2, .long), (cJ3, .long)]) [0, 1, 2, 3, 4] rfl
              exact W.iret (v := (-6)) hx hb hr (fun t ht hW => ⟨⟨(-6), (), rfl, (rg_w (by decide : (-6 : Int) ≤ ((-6) : Int32).toInt ∧ ((-6) : Int32).toInt ≤ -6) (by decide) (by decide)), g0, g1, g2, g3, by rw [ht]; exact hP9, va_K.moved hW.alike hK9, hD9⟩, hS.F ht⟩) hS.2.2 dX9_paste_53
        ·
          obtain rfl : a3 = 2 := Int32.toInt_inj.mp (h_340.trans (by decide))
          refine va_aldq hx hb hK hP 1 0 rfl rfl (vp_in_b (by decide : (2 : Int) ≤ (2 : Int32).toInt ∧ (2 : Int32).toInt ≤ 2) (by decide) (by decide)) dX9_paste_32 ?_
          refine W.eq (g2 := F0 m 33 ls (.ref s2 :: [])) (congrArg (fun v => F0 m 33 ls (va_rf v :: [])) (sf4_2 s0 s1 s2 s3)) ?_
          refine lv_astore (lv' := [(7, .ref s2), (6, .ref s1), (0, .ref h0), (1, .int 1), (2, .int a2), (3, .int 2), (4, .int a4), (5, .int a5)]) hx hb dX9_paste_33 hl (by decide) rfl (fun ls hl => ?_)
          refine lv_aload hx hb dX9_paste_35 (lv_at hl 1 rfl) ?_
          refine vp_callSi (W.runV (As := []) (rest := []) ⟨hx, hb, hml, hown, hts⟩ (kX3_stands l dC dI s1 wd1 rz1 n1 b_wd1 b_rz1) (cwV 0 hts gX9_paste__X3_stands_V270 rfl rfl rfl hd_yX3_stands ⟨lel 1 2 rfl, lel 20 88 rfl⟩) ⟨pw_fb, rcv_X3 hK hP (q0 := 3) rfl, (pw_use hP hK hN [3] rfl [] rfl)⟩ rfl rfl hl.1 rfl (lv_room (Nat.le_of_ble_eq_true rfl)) dX9_paste_37 ⟨lel 0 0 rfl, lel 0 0 rfl⟩) (fun r_373 h_r_373 => ?_)
          obtain ⟨b_r_373, nz_r_373⟩ := h_r_373
          have b_r_373 : (0 : Int) ≤ r_373.toInt ∧ r_373.toInt ≤ 1 := b_r_373
          refine lv_if_eq (tgt := 51) hx hb dX9_paste_40 (by decide) (fun c_374 => ?_) (fun c_374 => ?_)
          ·
            have n_c_374 : (r_373.toInt : Int) = 0 := c_eq rfl (by decide) c_374
            have b_r_373 : (0 : Int) ≤ r_373.toInt ∧ r_373.toInt ≤ 0 := r_eq1 b_r_373 (by decide : (0 : Int) ≤ (0 : Int32).toInt ∧ (0 : Int32).toInt ≤ 0) n_c_374 (by decide)
            refine lv_bipush (v := (-6)) hx hb dX9_paste_51 (by decide) ?_
            have hP9 := hP.sub (ws' := [(h0, .inr (7, [.ref tp, .ref sc, .ref rd, .ref cu, .ref im, .ref ig, .ref sl, .ref se, .ref sm, .ref fc])), (sl, .inl (cS, 4, .inr (.inr (.inr (.inr (sf4 s0 s1 s2 s3)))))), (s0, .inr (2, [.int wd0, .int rz0, .ref n0])), (s1, .inr (2, [.int wd1, .int rz1, .ref n1])), (s2, .inr (2, [.int wd2, .int rz2, .ref n2])), (s3, .inr (2, [.int wd3, .int rz3, .ref n3])), (n0, .inl (cJ0, 60, .inr (.inl g0))), (n1, .inl (cJ1, 60, .inr (.inl g1))), (n2, .inl (cJ2, 60, .inr (.inl g2))), (n3, .inl (cJ3, 60, .inr (.inl g3)))]) [0, 1, 2, 3, 4, 5, 6, 7, 8, 9] rfl
            have hD9 := hD.sub (ws' := [(h0, .inr (7, [.ref tp, .ref sc, .ref rd, .ref cu, .ref im, .ref ig, .ref sl, .ref se, .ref sm, .ref fc])), (sl, .inl (cS, 4, .inr (.inr (.inr (.inr (sf4 s0 s1 s2 s3)))))), (s0, .inr (2, [.int wd0, .int rz0, .ref n0])), (s1, .inr (2, [.int wd1, .int rz1, .ref n1])), (s2, .inr (2, [.int wd2, .int rz2, .ref n2])), (s3, .inr (2, [.int wd3, .int rz3, .ref n3])), (n0, .inl (cJ0, 60, .inr (.inl g0))), (n1, .inl (cJ1, 60, .inr (.inl g1))), (n2, .inl (cJ2, 60, .inr (.inl g2))), (n3, .inl (cJ3, 60, .inr (.inl g3)))]) [0, 1, 2, 3, 4, 5, 6, 7, 8, 9] (by decide) rfl
            have hK9 := hK.sub (tys' := [(cS, .object RX3), (cJ0, .long), (cJ1, .long), (cJ2, .long), (cJ3, .long)]) [0, 1, 2, 3, 4] rfl
            exact W.iret (v := (-6)) hx hb hr (fun t ht hW => ⟨⟨(-6), (), rfl, (rg_w (by decide : (-6 : Int) ≤ ((-6) : Int32).toInt ∧ ((-6) : Int32).toInt ≤ -6) (by decide) (by decide)), g0, g1, g2, g3, by rw [ht]; exact hP9, va_K.moved hW.alike hK9, hD9⟩, hS.F ht⟩) hS.2.2 dX9_paste_53
          ·
            have n_c_374 : (r_373.toInt : Int) ≠ 0 := c_ne rfl (by decide) c_374
            have b_r_373 : (1 : Int) ≤ r_373.toInt ∧ r_373.toInt ≤ 1 := r_ne1 b_r_373 (by decide : (0 : Int) ≤ (0 : Int32).toInt ∧ (0 : Int32).toInt ≤ 0) n_c_374 (by decide)
            obtain ⟨b_wd1, g_375⟩ := nz_r_373 c_374
            refine lv_aload hx hb dX9_paste_43 (lv_at hl 0 rfl) ?_
            refine vp_callSi (W.runV (As := []) (rest := []) ⟨hx, hb, hml, hown, hts⟩ (kX3_stands l dC dI s2 wd2 rz2 n2 b_wd2 b_rz2) (cwV 0 hts gX9_paste__X3_stands_V270 rfl rfl rfl hd_yX3_stands ⟨lel 1 2 rfl, lel 20 88 rfl⟩) ⟨pw_fb, rcv_X3 hK hP (q0 := 4) rfl, (pw_use hP hK hN [4] rfl [] rfl)⟩ rfl rfl hl.1 rfl (lv_room (Nat.le_of_ble_eq_true rfl)) dX9_paste_45 ⟨lel 0 0 rfl, lel 0 0 rfl⟩) (fun r_376 h_r_376 => ?_)
            obtain ⟨b_r_376, nz_r_376⟩ := h_r_376
            have b_r_376 : (0 : Int) ≤ r_376.toInt ∧ r_376.toInt ≤ 1 := b_r_376
            refine lv_if_ne (tgt := 54) hx hb dX9_paste_48 (by decide) (fun c_377 => ?_) (fun c_377 => ?_)
            ·
              have n_c_377 : (r_376.toInt : Int) ≠ 0 := c_ne rfl (by decide) c_377
              have b_r_376 : (1 : Int) ≤ r_376.toInt ∧ r_376.toInt ≤ 1 := r_ne1 b_r_376 (by decide : (0 : Int) ≤ (0 : Int32).toInt ∧ (0 : Int32).toInt ≤ 0) n_c_377 (by decide)
              obtain ⟨b_wd2, g_378⟩ := nz_r_376 c_377
              refine lv_aload hx hb dX9_paste_54 (lv_at hl 1 rfl) ?_
              refine va_getN (own := RX9) (index := 350) (ref := RX3) (host := RX9) (D := (dC, dI)) (ci := 2) (v := .int wd1) (C := RX3) (T := TX3) (N := 3) hx hb hts iX9_paste_X3 hown hK hP 3 rfl rfl 0 (by decide) (va_Nw.use rfl (hN _ (List.mem_of_getElem? (i := 21) rfl))) (fun _ h9 => h9) rfl dX9_paste_56 ?_
              refine lv_aload hx hb dX9_paste_59 (lv_at hl 0 rfl) ?_
              refine va_getN (own := RX9) (index := 350) (ref := RX3) (host := RX9) (D := (dC, dI)) (ci := 2) (v := .int wd2) (C := RX3) (T := TX3) (N := 3) hx hb hts iX9_paste_X3 hown hK hP 4 rfl rfl 0 (by decide) (va_Nw.use rfl (hN _ (List.mem_of_getElem? (i := 21) rfl))) (fun _ h9 => h9) rfl dX9_paste_61 ?_
              refine lv_icmp_eq (tgt := 70) hx hb dX9_paste_64 (by decide) (fun c_379 => ?_) (fun c_379 => ?_)
              ·
                have n_c_379 : (wd1.toInt : Int) = wd2.toInt := c_eq rfl rfl c_379
                refine lv_aload hx hb dX9_paste_70 (lv_at hl 1 rfl) ?_
                refine lv_iload_n hx hb dX9_paste_72 rfl (lv_at hl 4 rfl) ?_
                refine lv_iload hx hb dX9_paste_73 (lv_at hl 7 rfl) ?_
                refine vp_callSi (W.runV (As := [.int a2, .int a5]) (rest := []) ⟨hx, hb, hml, hown, hts⟩ (kX3_hasStretch l dC dI s1 wd1 rz1 n1 a2 a5 (rg_w b_wd1 (by decide) (by decide)) b_rz1) (cwV 2 hts gX9_paste__X3_hasStretch_V343 rfl rfl rfl hd_yX3_hasStretch ⟨lel 1 2 rfl, lel 22 88 rfl⟩) ⟨pw_fb, rcv_X3 hK hP (q0 := 3) rfl, (pw_use hP hK hN [3] rfl [] rfl)⟩ rfl rfl hl.1 rfl (lv_room (Nat.le_of_ble_eq_true rfl)) dX9_paste_75 ⟨lel 0 0 rfl, lel 0 0 rfl⟩) (fun r_380 h_r_380 => ?_)
                obtain ⟨b_r_380, nz_r_380⟩ := h_r_380
                have b_r_380 : (0 : Int) ≤ r_380.toInt ∧ r_380.toInt ≤ 1 := b_r_380
                refine lv_if_eq (tgt := 93) hx hb dX9_paste_78 (by decide) (fun c_381 => ?_) (fun c_381 => ?_)
                ·
                  have n_c_381 : (r_380.toInt : Int) = 0 := c_eq rfl (by decide) c_381
                  have b_r_380 : (0 : Int) ≤ r_380.toInt ∧ r_380.toInt ≤ 0 := r_eq1 b_r_380 (by decide : (0 : Int) ≤ (0 : Int32).toInt ∧ (0 : Int32).toInt ≤ 0) n_c_381 (by decide)
                  refine lv_bipush (v := (-7)) hx hb dX9_paste_93 (by decide) ?_
                  have hP9 := hP.sub (ws' := [(h0, .inr (7, [.ref tp, .ref sc, .ref rd, .ref cu, .ref im, .ref ig, .ref sl, .ref se, .ref sm, .ref fc])), (sl, .inl (cS, 4, .inr (.inr (.inr (.inr (sf4 s0 s1 s2 s3)))))), (s0, .inr (2, [.int wd0, .int rz0, .ref n0])), (s1, .inr (2, [.int wd1, .int rz1, .ref n1])), (s2, .inr (2, [.int wd2, .int rz2, .ref n2])), (s3, .inr (2, [.int wd3, .int rz3, .ref n3])), (n0, .inl (cJ0, 60, .inr (.inl g0))), (n1, .inl (cJ1, 60, .inr (.inl g1))), (n2, .inl (cJ2, 60, .inr (.inl g2))), (n3, .inl (cJ3, 60, .inr (.inl g3)))]) [0, 1, 2, 3, 4, 5, 6, 7, 8, 9] rfl
                  have hD9 := hD.sub (ws' := [(h0, .inr (7, [.ref tp, .ref sc, .ref rd, .ref cu, .ref im, .ref ig, .ref sl, .ref se, .ref sm, .ref fc])), (sl, .inl (cS, 4, .inr (.inr (.inr (.inr (sf4 s0 s1 s2 s3)))))), (s0, .inr (2, [.int wd0, .int rz0, .ref n0])), (s1, .inr (2, [.int wd1, .int rz1, .ref n1])), (s2, .inr (2, [.int wd2, .int rz2, .ref n2])), (s3, .inr (2, [.int wd3, .int rz3, .ref n3])), (n0, .inl (cJ0, 60, .inr (.inl g0))), (n1, .inl (cJ1, 60, .inr (.inl g1))), (n2, .inl (cJ2, 60, .inr (.inl g2))), (n3, .inl (cJ3, 60, .inr (.inl g3)))]) [0, 1, 2, 3, 4, 5, 6, 7, 8, 9] (by decide) rfl
                  have hK9 := hK.sub (tys' := [(cS, .object RX3), (cJ0, .long), (cJ1, .long), (cJ2, .long), (cJ3, .long)]) [0, 1, 2, 3, 4] rfl
                  exact W.iret (v := (-7)) hx hb hr (fun t ht hW => ⟨⟨(-7), (), rfl, (rg_w (by decide : (-7 : Int) ≤ ((-7) : Int32).toInt ∧ ((-7) : Int32).toInt ≤ -7) (by decide) (by decide)), g0, g1, g2, g3, by rw [ht]; exact hP9, va_K.moved hW.alike hK9, hD9⟩, hS.F ht⟩) hS.2.2 dX9_paste_95
                ·
                  have n_c_381 : (r_380.toInt : Int) ≠ 0 := c_ne rfl (by decide) c_381
                  have b_r_380 : (1 : Int) ≤ r_380.toInt ∧ r_380.toInt ≤ 1 := r_ne1 b_r_380 (by decide : (0 : Int) ≤ (0 : Int32).toInt ∧ (0 : Int32).toInt ≤ 0) n_c_381 (by decide)
                  obtain ⟨b_a2, b_a5, g_382⟩ := nz_r_380 c_381
                  refine lv_aload hx hb dX9_paste_81 (lv_at hl 0 rfl) ?_
                  refine lv_iload hx hb dX9_paste_83 (lv_at hl 6 rfl) ?_
                  refine lv_iload hx hb dX9_paste_85 (lv_at hl 7 rfl) ?_
                  refine vp_callSi (W.runV (As := [.int a4, .int a5]) (rest := []) ⟨hx, hb, hml, hown, hts⟩ (kX3_hasStretch l dC dI s2 wd2 rz2 n2 a4 a5 (rg_w b_wd2 (by decide) (by decide)) b_rz2) (cwV 2 hts gX9_paste__X3_hasStretch_V343 rfl rfl rfl hd_yX3_hasStretch ⟨lel 1 2 rfl, lel 22 88 rfl⟩) ⟨pw_fb, rcv_X3 hK hP (q0 := 4) rfl, (pw_use hP hK hN [4] rfl [] rfl)⟩ rfl rfl hl.1 rfl (lv_room (Nat.le_of_ble_eq_true rfl)) dX9_paste_87 ⟨lel 0 0 rfl, lel 0 0 rfl⟩) (fun r_383 h_r_383 => ?_)
                  obtain ⟨b_r_383, nz_r_383⟩ := h_r_383
                  have b_r_383 : (0 : Int) ≤ r_383.toInt ∧ r_383.toInt ≤ 1 := b_r_383
                  refine lv_if_ne (tgt := 96) hx hb dX9_paste_90 (by decide) (fun c_384 => ?_) (fun c_384 => ?_)
                  ·
                    have n_c_384 : (r_383.toInt : Int) ≠ 0 := c_ne rfl (by decide) c_384
                    have b_r_383 : (1 : Int) ≤ r_383.toInt ∧ r_383.toInt ≤ 1 := r_ne1 b_r_383 (by decide : (0 : Int) ≤ (0 : Int32).toInt ∧ (0 : Int32).toInt ≤ 0) n_c_384 (by decide)
                    obtain ⟨b_a4, b_a5, g_385⟩ := nz_r_383 c_384
                    refine lv_aload hx hb dX9_paste_96 (lv_at hl 0 rfl) ?_
                    refine lv_iload hx hb dX9_paste_98 (lv_at hl 6 rfl) ?_
                    refine lv_aload hx hb dX9_paste_100 (lv_at hl 1 rfl) ?_
                    refine lv_iload_n hx hb dX9_paste_102 rfl (lv_at hl 4 rfl) ?_
                    refine lv_iload hx hb dX9_paste_103 (lv_at hl 7 rfl) ?_
                    have hFc := va_free (wc := [(s2, .inr (2, [.int wd2, .int rz2, .ref n2])), (n2, .inl (cJ2, 60, .inr (.inl g2))), (s1, .inr (2, [.int wd1, .int rz1, .ref n1])), (n1, .inl (cJ1, 60, .inr (.inl g1)))]) hD hS hA [4, 8, 3, 7] rfl
                    refine va_callv (va_runV (As := [.int a4, .ref s1, .int a2, .int a5]) (rest := []) ⟨hx, hb, hml, hown, hts⟩ (kX3_take l dC dI s2 wd2 rz2 n2 cJ2 g2 s1 wd1 rz1 n1 cJ1 g1 a4 a2 a5 (s.heap.size) (rg_w b_wd2 (by decide) (by decide)) b_rz2 (rg_w b_wd1 (by decide) (by decide)) b_rz1) (cwV 4 hts gX9_paste__X3_take_V353 rfl rfl rfl hd_yX3_take ⟨lel 2 2 rfl, lel 88 88 rfl⟩) ⟨hw_fb, rcv_X3 hK hP (q0 := 4) rfl, (hw_use hP hD hK hN [4, 8, 3, 7] rfl (by decide) rfl [3, 2] rfl)⟩ rfl rfl hl.1 rfl (lv_room (Nat.le_of_ble_eq_true rfl)) dX9_paste_105 ⟨lel 0 0 rfl, lel 0 0 rfl⟩) hS (fun q _ h => hFc q h) hFc (fun u_387 t H1 locs ht hvm hw_r_386 hB hz1 hk1 hS => ?_)
                    obtain ⟨o0_388, hP1, hK1, hD1⟩ := hB
                    rw [ht] at hP1
                    have hK1 := va_K.moved hvm.symm hK1
                    obtain ⟨hP, hD⟩ := va_join (wr := [(h0, .inr (7, [.ref tp, .ref sc, .ref rd, .ref cu, .ref im, .ref ig, .ref sl, .ref se, .ref sm, .ref fc])), (sl, .inl (cS, 4, .inr (.inr (.inr (.inr (sf4 s0 s1 s2 s3)))))), (s0, .inr (2, [.int wd0, .int rz0, .ref n0])), (s3, .inr (2, [.int wd3, .int rz3, .ref n3])), (n0, .inl (cJ0, 60, .inr (.inl g0))), (n3, .inl (cJ3, 60, .inr (.inl g3)))]) (w1 := [(s2, .inr (2, [.int wd2, .int rz2, .ref n2])), (n2, .inl (cJ2, 60, .inr (.inl o0_388))), (s1, .inr (2, [.int wd1, .int rz1, .ref n1])), (n1, .inl (cJ1, 60, .inr (.inl g1)))]) hP hD [4, 8, 3, 7] [0, 1, 2, 5, 6, 9] rfl rfl (by decide) (by decide) hk1 hFc hP1 hD1
                    have hK := (hK.sub (tys' := [(cS, .object RX3), (cJ0, .long), (cJ3, .long)]) [0, 1, 4] rfl).app hK1
                    generalize H1 = H at hP hS ⊢
                    have hP := hP.sub (ws' := [(h0, .inr (7, [.ref tp, .ref sc, .ref rd, .ref cu, .ref im, .ref ig, .ref sl, .ref se, .ref sm, .ref fc])), (sl, .inl (cS, 4, .inr (.inr (.inr (.inr (sf4 s0 s1 s2 s3)))))), (s0, .inr (2, [.int wd0, .int rz0, .ref n0])), (s1, .inr (2, [.int wd1, .int rz1, .ref n1])), (s2, .inr (2, [.int wd2, .int rz2, .ref n2])), (s3, .inr (2, [.int wd3, .int rz3, .ref n3])), (n0, .inl (cJ0, 60, .inr (.inl g0))), (n1, .inl (cJ1, 60, .inr (.inl g1))), (n2, .inl (cJ2, 60, .inr (.inl o0_388))), (n3, .inl (cJ3, 60, .inr (.inl g3)))]) [0, 1, 2, 8, 6, 3, 4, 9, 7, 5] rfl
                    have hD := hD.sub (ws' := [(h0, .inr (7, [.ref tp, .ref sc, .ref rd, .ref cu, .ref im, .ref ig, .ref sl, .ref se, .ref sm, .ref fc])), (sl, .inl (cS, 4, .inr (.inr (.inr (.inr (sf4 s0 s1 s2 s3)))))), (s0, .inr (2, [.int wd0, .int rz0, .ref n0])), (s1, .inr (2, [.int wd1, .int rz1, .ref n1])), (s2, .inr (2, [.int wd2, .int rz2, .ref n2])), (s3, .inr (2, [.int wd3, .int rz3, .ref n3])), (n0, .inl (cJ0, 60, .inr (.inl g0))), (n1, .inl (cJ1, 60, .inr (.inl g1))), (n2, .inl (cJ2, 60, .inr (.inl o0_388))), (n3, .inl (cJ3, 60, .inr (.inl g3)))]) [0, 1, 2, 8, 6, 3, 4, 9, 7, 5] (by decide) rfl
                    have hK := hK.sub (tys' := [(cS, .object RX3), (cJ0, .long), (cJ1, .long), (cJ2, .long), (cJ3, .long)]) [0, 1, 4, 3, 2] rfl
                    have hP : va_P (dC, dI) vwCl [(h0, .inr (7, [.ref tp, .ref sc, .ref rd, .ref cu, .ref im, .ref ig, .ref sl, .ref se, .ref sm, .ref fc])), (sl, .inl (cS, 4, .inr (.inr (.inr (.inr (sf4 s0 s1 s2 s3)))))), (s0, .inr (2, [.int wd0, .int rz0, .ref n0])), (s1, .inr (2, [.int wd1, .int rz1, .ref n1])), (s2, .inr (2, [.int wd2, .int rz2, .ref n2])), (s3, .inr (2, [.int wd3, .int rz3, .ref n3])), (n0, .inl (cJ0, 60, .inr (.inl g0))), (n1, .inl (cJ1, 60, .inr (.inl g1))), (n2, .inl (cJ2, 60, .inr (.inl o0_388))), (n3, .inl (cJ3, 60, .inr (.inl g3)))] H := hP
                    have hD : va_D A [(h0, .inr (7, [.ref tp, .ref sc, .ref rd, .ref cu, .ref im, .ref ig, .ref sl, .ref se, .ref sm, .ref fc])), (sl, .inl (cS, 4, .inr (.inr (.inr (.inr (sf4 s0 s1 s2 s3)))))), (s0, .inr (2, [.int wd0, .int rz0, .ref n0])), (s1, .inr (2, [.int wd1, .int rz1, .ref n1])), (s2, .inr (2, [.int wd2, .int rz2, .ref n2])), (s3, .inr (2, [.int wd3, .int rz3, .ref n3])), (n0, .inl (cJ0, 60, .inr (.inl g0))), (n1, .inl (cJ1, 60, .inr (.inl g1))), (n2, .inl (cJ2, 60, .inr (.inl o0_388))), (n3, .inl (cJ3, 60, .inr (.inl g3)))] := hD
                    have hK : va_K (dC, dI) vwCl [(cS, .object RX3), (cJ0, .long), (cJ1, .long), (cJ2, .long), (cJ3, .long)] s := hK
                    refine lv_iconst (v := 0) hx hb dX9_paste_108 (by decide) ?_
                    have hP9 := hP.sub (ws' := [(h0, .inr (7, [.ref tp, .ref sc, .ref rd, .ref cu, .ref im, .ref ig, .ref sl, .ref se, .ref sm, .ref fc])), (sl, .inl (cS, 4, .inr (.inr (.inr (.inr (sf4 s0 s1 s2 s3)))))), (s0, .inr (2, [.int wd0, .int rz0, .ref n0])), (s1, .inr (2, [.int wd1, .int rz1, .ref n1])), (s2, .inr (2, [.int wd2, .int rz2, .ref n2])), (s3, .inr (2, [.int wd3, .int rz3, .ref n3])), (n0, .inl (cJ0, 60, .inr (.inl g0))), (n1, .inl (cJ1, 60, .inr (.inl g1))), (n2, .inl (cJ2, 60, .inr (.inl o0_388))), (n3, .inl (cJ3, 60, .inr (.inl g3)))]) [0, 1, 2, 3, 4, 5, 6, 7, 8, 9] rfl
                    have hD9 := hD.sub (ws' := [(h0, .inr (7, [.ref tp, .ref sc, .ref rd, .ref cu, .ref im, .ref ig, .ref sl, .ref se, .ref sm, .ref fc])), (sl, .inl (cS, 4, .inr (.inr (.inr (.inr (sf4 s0 s1 s2 s3)))))), (s0, .inr (2, [.int wd0, .int rz0, .ref n0])), (s1, .inr (2, [.int wd1, .int rz1, .ref n1])), (s2, .inr (2, [.int wd2, .int rz2, .ref n2])), (s3, .inr (2, [.int wd3, .int rz3, .ref n3])), (n0, .inl (cJ0, 60, .inr (.inl g0))), (n1, .inl (cJ1, 60, .inr (.inl g1))), (n2, .inl (cJ2, 60, .inr (.inl o0_388))), (n3, .inl (cJ3, 60, .inr (.inl g3)))]) [0, 1, 2, 3, 4, 5, 6, 7, 8, 9] (by decide) rfl
                    have hK9 := hK.sub (tys' := [(cS, .object RX3), (cJ0, .long), (cJ1, .long), (cJ2, .long), (cJ3, .long)]) [0, 1, 2, 3, 4] rfl
                    exact W.iret (v := 0) hx hb hr (fun t ht hW => ⟨⟨0, (), rfl, (rg_w (by decide : (0 : Int) ≤ (0 : Int32).toInt ∧ (0 : Int32).toInt ≤ 0) (by decide) (by decide)), g0, g1, o0_388, g3, by rw [ht]; exact hP9, va_K.moved hW.alike hK9, hD9⟩, hS.F ht⟩) hS.2.2 dX9_paste_109
                  ·
                    have n_c_384 : (r_383.toInt : Int) = 0 := c_eq rfl (by decide) c_384
                    have b_r_383 : (0 : Int) ≤ r_383.toInt ∧ r_383.toInt ≤ 0 := r_eq1 b_r_383 (by decide : (0 : Int) ≤ (0 : Int32).toInt ∧ (0 : Int32).toInt ≤ 0) n_c_384 (by decide)
                    refine lv_bipush (v := (-7)) hx hb dX9_paste_93 (by decide) ?_
                    have hP9 := hP.sub (ws' := [(h0, .inr (7, [.ref tp, .ref sc, .ref rd, .ref cu, .ref im, .ref ig, .ref sl, .ref se, .ref sm, .ref fc])), (sl, .inl (cS, 4, .inr (.inr (.inr (.inr (sf4 s0 s1 s2 s3)))))), (s0, .inr (2, [.int wd0, .int rz0, .ref n0])), (s1, .inr (2, [.int wd1, .int rz1, .ref n1])), (s2, .inr (2, [.int wd2, .int rz2, .ref n2])), (s3, .inr (2, [.int wd3, .int rz3, .ref n3])), (n0, .inl (cJ0, 60, .inr (.inl g0))), (n1, .inl (cJ1, 60, .inr (.inl g1))), (n2, .inl (cJ2, 60, .inr (.inl g2))), (n3, .inl (cJ3, 60, .inr (.inl g3)))]) [0, 1, 2, 3, 4, 5, 6, 7, 8, 9] rfl
                    have hD9 := hD.sub (ws' := [(h0, .inr (7, [.ref tp, .ref sc, .ref rd, .ref cu, .ref im, .ref ig, .ref sl, .ref se, .ref sm, .ref fc])), (sl, .inl (cS, 4, .inr (.inr (.inr (.inr (sf4 s0 s1 s2 s3)))))), (s0, .inr (2, [.int wd0, .int rz0, .ref n0])), (s1, .inr (2, [.int wd1, .int rz1, .ref n1])), (s2, .inr (2, [.int wd2, .int rz2, .ref n2])), (s3, .inr (2, [.int wd3, .int rz3, .ref n3])), (n0, .inl (cJ0, 60, .inr (.inl g0))), (n1, .inl (cJ1, 60, .inr (.inl g1))), (n2, .inl (cJ2, 60, .inr (.inl g2))), (n3, .inl (cJ3, 60, .inr (.inl g3)))]) [0, 1, 2, 3, 4, 5, 6, 7, 8, 9] (by decide) rfl
                    have hK9 := hK.sub (tys' := [(cS, .object RX3), (cJ0, .long), (cJ1, .long), (cJ2, .long), (cJ3, .long)]) [0, 1, 2, 3, 4] rfl
                    exact W.iret (v := (-7)) hx hb hr (fun t ht hW => ⟨⟨(-7), (), rfl, (rg_w (by decide : (-7 : Int) ≤ ((-7) : Int32).toInt ∧ ((-7) : Int32).toInt ≤ -7) (by decide) (by decide)), g0, g1, g2, g3, by rw [ht]; exact hP9, va_K.moved hW.alike hK9, hD9⟩, hS.F ht⟩) hS.2.2 dX9_paste_95
              ·
                have n_c_379 : (wd1.toInt : Int) ≠ wd2.toInt := c_ne rfl rfl c_379
                refine lv_bipush (v := (-8)) hx hb dX9_paste_67 (by decide) ?_
                have hP9 := hP.sub (ws' := [(h0, .inr (7, [.ref tp, .ref sc, .ref rd, .ref cu, .ref im, .ref ig, .ref sl, .ref se, .ref sm, .ref fc])), (sl, .inl (cS, 4, .inr (.inr (.inr (.inr (sf4 s0 s1 s2 s3)))))), (s0, .inr (2, [.int wd0, .int rz0, .ref n0])), (s1, .inr (2, [.int wd1, .int rz1, .ref n1])), (s2, .inr (2, [.int wd2, .int rz2, .ref n2])), (s3, .inr (2, [.int wd3, .int rz3, .ref n3])), (n0, .inl (cJ0, 60, .inr (.inl g0))), (n1, .inl (cJ1, 60, .inr (.inl g1))), (n2, .inl (cJ2, 60, .inr (.inl g2))), (n3, .inl (cJ3, 60, .inr (.inl g3)))]) [0, 1, 2, 3, 4, 5, 6, 7, 8, 9] rfl
                have hD9 := hD.sub (ws' := [(h0, .inr (7, [.ref tp, .ref sc, .ref rd, .ref cu, .ref im, .ref ig, .ref sl, .ref se, .ref sm, .ref fc])), (sl, .inl (cS, 4, .inr (.inr (.inr (.inr (sf4 s0 s1 s2 s3)))))), (s0, .inr (2, [.int wd0, .int rz0, .ref n0])), (s1, .inr (2, [.int wd1, .int rz1, .ref n1])), (s2, .inr (2, [.int wd2, .int rz2, .ref n2])), (s3, .inr (2, [.int wd3, .int rz3, .ref n3])), (n0, .inl (cJ0, 60, .inr (.inl g0))), (n1, .inl (cJ1, 60, .inr (.inl g1))), (n2, .inl (cJ2, 60, .inr (.inl g2))), (n3, .inl (cJ3, 60, .inr (.inl g3)))]) [0, 1, 2, 3, 4, 5, 6, 7, 8, 9] (by decide) rfl
                have hK9 := hK.sub (tys' := [(cS, .object RX3), (cJ0, .long), (cJ1, .long), (cJ2, .long), (cJ3, .long)]) [0, 1, 2, 3, 4] rfl
                exact W.iret (v := (-8)) hx hb hr (fun t ht hW => ⟨⟨(-8), (), rfl, (rg_w (by decide : (-8 : Int) ≤ ((-8) : Int32).toInt ∧ ((-8) : Int32).toInt ≤ -8) (by decide) (by decide)), g0, g1, g2, g3, by rw [ht]; exact hP9, va_K.moved hW.alike hK9, hD9⟩, hS.F ht⟩) hS.2.2 dX9_paste_69
            ·
              have n_c_377 : (r_376.toInt : Int) = 0 := c_eq rfl (by decide) c_377
              have b_r_376 : (0 : Int) ≤ r_376.toInt ∧ r_376.toInt ≤ 0 := r_eq1 b_r_376 (by decide : (0 : Int) ≤ (0 : Int32).toInt ∧ (0 : Int32).toInt ≤ 0) n_c_377 (by decide)
              refine lv_bipush (v := (-6)) hx hb dX9_paste_51 (by decide) ?_
              have hP9 := hP.sub (ws' := [(h0, .inr (7, [.ref tp, .ref sc, .ref rd, .ref cu, .ref im, .ref ig, .ref sl, .ref se, .ref sm, .ref fc])), (sl, .inl (cS, 4, .inr (.inr (.inr (.inr (sf4 s0 s1 s2 s3)))))), (s0, .inr (2, [.int wd0, .int rz0, .ref n0])), (s1, .inr (2, [.int wd1, .int rz1, .ref n1])), (s2, .inr (2, [.int wd2, .int rz2, .ref n2])), (s3, .inr (2, [.int wd3, .int rz3, .ref n3])), (n0, .inl (cJ0, 60, .inr (.inl g0))), (n1, .inl (cJ1, 60, .inr (.inl g1))), (n2, .inl (cJ2, 60, .inr (.inl g2))), (n3, .inl (cJ3, 60, .inr (.inl g3)))]) [0, 1, 2, 3, 4, 5, 6, 7, 8, 9] rfl
              have hD9 := hD.sub (ws' := [(h0, .inr (7, [.ref tp, .ref sc, .ref rd, .ref cu, .ref im, .ref ig, .ref sl, .ref se, .ref sm, .ref fc])), (sl, .inl (cS, 4, .inr (.inr (.inr (.inr (sf4 s0 s1 s2 s3)))))), (s0, .inr (2, [.int wd0, .int rz0, .ref n0])), (s1, .inr (2, [.int wd1, .int rz1, .ref n1])), (s2, .inr (2, [.int wd2, .int rz2, .ref n2])), (s3, .inr (2, [.int wd3, .int rz3, .ref n3])), (n0, .inl (cJ0, 60, .inr (.inl g0))), (n1, .inl (cJ1, 60, .inr (.inl g1))), (n2, .inl (cJ2, 60, .inr (.inl g2))), (n3, .inl (cJ3, 60, .inr (.inl g3)))]) [0, 1, 2, 3, 4, 5, 6, 7, 8, 9] (by decide) rfl
              have hK9 := hK.sub (tys' := [(cS, .object RX3), (cJ0, .long), (cJ1, .long), (cJ2, .long), (cJ3, .long)]) [0, 1, 2, 3, 4] rfl
              exact W.iret (v := (-6)) hx hb hr (fun t ht hW => ⟨⟨(-6), (), rfl, (rg_w (by decide : (-6 : Int) ≤ ((-6) : Int32).toInt ∧ ((-6) : Int32).toInt ≤ -6) (by decide) (by decide)), g0, g1, g2, g3, by rw [ht]; exact hP9, va_K.moved hW.alike hK9, hD9⟩, hS.F ht⟩) hS.2.2 dX9_paste_53
        ·
          obtain rfl : a3 = 3 := Int32.toInt_inj.mp (h_340.trans (by decide))
          refine va_aldq hx hb hK hP 1 0 rfl rfl (vp_in_b (by decide : (3 : Int) ≤ (3 : Int32).toInt ∧ (3 : Int32).toInt ≤ 3) (by decide) (by decide)) dX9_paste_32 ?_
          refine W.eq (g2 := F0 m 33 ls (.ref s3 :: [])) (congrArg (fun v => F0 m 33 ls (va_rf v :: [])) (sf4_3 s0 s1 s2 s3)) ?_
          refine lv_astore (lv' := [(7, .ref s3), (6, .ref s1), (0, .ref h0), (1, .int 1), (2, .int a2), (3, .int 3), (4, .int a4), (5, .int a5)]) hx hb dX9_paste_33 hl (by decide) rfl (fun ls hl => ?_)
          refine lv_aload hx hb dX9_paste_35 (lv_at hl 1 rfl) ?_
          refine vp_callSi (W.runV (As := []) (rest := []) ⟨hx, hb, hml, hown, hts⟩ (kX3_stands l dC dI s1 wd1 rz1 n1 b_wd1 b_rz1) (cwV 0 hts gX9_paste__X3_stands_V270 rfl rfl rfl hd_yX3_stands ⟨lel 1 2 rfl, lel 20 88 rfl⟩) ⟨pw_fb, rcv_X3 hK hP (q0 := 3) rfl, (pw_use hP hK hN [3] rfl [] rfl)⟩ rfl rfl hl.1 rfl (lv_room (Nat.le_of_ble_eq_true rfl)) dX9_paste_37 ⟨lel 0 0 rfl, lel 0 0 rfl⟩) (fun r_389 h_r_389 => ?_)
          obtain ⟨b_r_389, nz_r_389⟩ := h_r_389
          have b_r_389 : (0 : Int) ≤ r_389.toInt ∧ r_389.toInt ≤ 1 := b_r_389
          refine lv_if_eq (tgt := 51) hx hb dX9_paste_40 (by decide) (fun c_390 => ?_) (fun c_390 => ?_)
          ·
            have n_c_390 : (r_389.toInt : Int) = 0 := c_eq rfl (by decide) c_390
            have b_r_389 : (0 : Int) ≤ r_389.toInt ∧ r_389.toInt ≤ 0 := r_eq1 b_r_389 (by decide : (0 : Int) ≤ (0 : Int32).toInt ∧ (0 : Int32).toInt ≤ 0) n_c_390 (by decide)
            refine lv_bipush (v := (-6)) hx hb dX9_paste_51 (by decide) ?_
            have hP9 := hP.sub (ws' := [(h0, .inr (7, [.ref tp, .ref sc, .ref rd, .ref cu, .ref im, .ref ig, .ref sl, .ref se, .ref sm, .ref fc])), (sl, .inl (cS, 4, .inr (.inr (.inr (.inr (sf4 s0 s1 s2 s3)))))), (s0, .inr (2, [.int wd0, .int rz0, .ref n0])), (s1, .inr (2, [.int wd1, .int rz1, .ref n1])), (s2, .inr (2, [.int wd2, .int rz2, .ref n2])), (s3, .inr (2, [.int wd3, .int rz3, .ref n3])), (n0, .inl (cJ0, 60, .inr (.inl g0))), (n1, .inl (cJ1, 60, .inr (.inl g1))), (n2, .inl (cJ2, 60, .inr (.inl g2))), (n3, .inl (cJ3, 60, .inr (.inl g3)))]) [0, 1, 2, 3, 4, 5, 6, 7, 8, 9] rfl
            have hD9 := hD.sub (ws' := [(h0, .inr (7, [.ref tp, .ref sc, .ref rd, .ref cu, .ref im, .ref ig, .ref sl, .ref se, .ref sm, .ref fc])), (sl, .inl (cS, 4, .inr (.inr (.inr (.inr (sf4 s0 s1 s2 s3)))))), (s0, .inr (2, [.int wd0, .int rz0, .ref n0])), (s1, .inr (2, [.int wd1, .int rz1, .ref n1])), (s2, .inr (2, [.int wd2, .int rz2, .ref n2])), (s3, .inr (2, [.int wd3, .int rz3, .ref n3])), (n0, .inl (cJ0, 60, .inr (.inl g0))), (n1, .inl (cJ1, 60, .inr (.inl g1))), (n2, .inl (cJ2, 60, .inr (.inl g2))), (n3, .inl (cJ3, 60, .inr (.inl g3)))]) [0, 1, 2, 3, 4, 5, 6, 7, 8, 9] (by decide) rfl
            have hK9 := hK.sub (tys' := [(cS, .object RX3), (cJ0, .long), (cJ1, .long), (cJ2, .long), (cJ3, .long)]) [0, 1, 2, 3, 4] rfl
            exact W.iret (v := (-6)) hx hb hr (fun t ht hW => ⟨⟨(-6), (), rfl, (rg_w (by decide : (-6 : Int) ≤ ((-6) : Int32).toInt ∧ ((-6) : Int32).toInt ≤ -6) (by decide) (by decide)), g0, g1, g2, g3, by rw [ht]; exact hP9, va_K.moved hW.alike hK9, hD9⟩, hS.F ht⟩) hS.2.2 dX9_paste_53
          ·
            have n_c_390 : (r_389.toInt : Int) ≠ 0 := c_ne rfl (by decide) c_390
            have b_r_389 : (1 : Int) ≤ r_389.toInt ∧ r_389.toInt ≤ 1 := r_ne1 b_r_389 (by decide : (0 : Int) ≤ (0 : Int32).toInt ∧ (0 : Int32).toInt ≤ 0) n_c_390 (by decide)
            obtain ⟨b_wd1, g_391⟩ := nz_r_389 c_390
            refine lv_aload hx hb dX9_paste_43 (lv_at hl 0 rfl) ?_
            refine vp_callSi (W.runV (As := []) (rest := []) ⟨hx, hb, hml, hown, hts⟩ (kX3_stands l dC dI s3 wd3 rz3 n3 b_wd3 b_rz3) (cwV 0 hts gX9_paste__X3_stands_V270 rfl rfl rfl hd_yX3_stands ⟨lel 1 2 rfl, lel 20 88 rfl⟩) ⟨pw_fb, rcv_X3 hK hP (q0 := 5) rfl, (pw_use hP hK hN [5] rfl [] rfl)⟩ rfl rfl hl.1 rfl (lv_room (Nat.le_of_ble_eq_true rfl)) dX9_paste_45 ⟨lel 0 0 rfl, lel 0 0 rfl⟩) (fun r_392 h_r_392 => ?_)
            obtain ⟨b_r_392, nz_r_392⟩ := h_r_392
            have b_r_392 : (0 : Int) ≤ r_392.toInt ∧ r_392.toInt ≤ 1 := b_r_392
            refine lv_if_ne (tgt := 54) hx hb dX9_paste_48 (by decide) (fun c_393 => ?_) (fun c_393 => ?_)
            ·
              have n_c_393 : (r_392.toInt : Int) ≠ 0 := c_ne rfl (by decide) c_393
              have b_r_392 : (1 : Int) ≤ r_392.toInt ∧ r_392.toInt ≤ 1 := r_ne1 b_r_392 (by decide : (0 : Int) ≤ (0 : Int32).toInt ∧ (0 : Int32).toInt ≤ 0) n_c_393 (by decide)
              obtain ⟨b_wd3, g_394⟩ := nz_r_392 c_393
              refine lv_aload hx hb dX9_paste_54 (lv_at hl 1 rfl) ?_
              refine va_getN (own := RX9) (index := 350) (ref := RX3) (host := RX9) (D := (dC, dI)) (ci := 2) (v := .int wd1) (C := RX3) (T := TX3) (N := 3) hx hb hts iX9_paste_X3 hown hK hP 3 rfl rfl 0 (by decide) (va_Nw.use rfl (hN _ (List.mem_of_getElem? (i := 21) rfl))) (fun _ h9 => h9) rfl dX9_paste_56 ?_
              refine lv_aload hx hb dX9_paste_59 (lv_at hl 0 rfl) ?_
              refine va_getN (own := RX9) (index := 350) (ref := RX3) (host := RX9) (D := (dC, dI)) (ci := 2) (v := .int wd3) (C := RX3) (T := TX3) (N := 3) hx hb hts iX9_paste_X3 hown hK hP 5 rfl rfl 0 (by decide) (va_Nw.use rfl (hN _ (List.mem_of_getElem? (i := 21) rfl))) (fun _ h9 => h9) rfl dX9_paste_61 ?_
              refine lv_icmp_eq (tgt := 70) hx hb dX9_paste_64 (by decide) (fun c_395 => ?_) (fun c_395 => ?_)
              ·
                have n_c_395 : (wd1.toInt : Int) = wd3.toInt := c_eq rfl rfl c_395
                refine lv_aload hx hb dX9_paste_70 (lv_at hl 1 rfl) ?_
                refine lv_iload_n hx hb dX9_paste_72 rfl (lv_at hl 4 rfl) ?_
                refine lv_iload hx hb dX9_paste_73 (lv_at hl 7 rfl) ?_
                refine vp_callSi (W.runV (As := [.int a2, .int a5]) (rest := []) ⟨hx, hb, hml, hown, hts⟩ (kX3_hasStretch l dC dI s1 wd1 rz1 n1 a2 a5 (rg_w b_wd1 (by decide) (by decide)) b_rz1) (cwV 2 hts gX9_paste__X3_hasStretch_V343 rfl rfl rfl hd_yX3_hasStretch ⟨lel 1 2 rfl, lel 22 88 rfl⟩) ⟨pw_fb, rcv_X3 hK hP (q0 := 3) rfl, (pw_use hP hK hN [3] rfl [] rfl)⟩ rfl rfl hl.1 rfl (lv_room (Nat.le_of_ble_eq_true rfl)) dX9_paste_75 ⟨lel 0 0 rfl, lel 0 0 rfl⟩) (fun r_396 h_r_396 => ?_)
                obtain ⟨b_r_396, nz_r_396⟩ := h_r_396
                have b_r_396 : (0 : Int) ≤ r_396.toInt ∧ r_396.toInt ≤ 1 := b_r_396
                refine lv_if_eq (tgt := 93) hx hb dX9_paste_78 (by decide) (fun c_397 => ?_) (fun c_397 => ?_)
                ·
                  have n_c_397 : (r_396.toInt : Int) = 0 := c_eq rfl (by decide) c_397
                  have b_r_396 : (0 : Int) ≤ r_396.toInt ∧ r_396.toInt ≤ 0 := r_eq1 b_r_396 (by decide : (0 : Int) ≤ (0 : Int32).toInt ∧ (0 : Int32).toInt ≤ 0) n_c_397 (by decide)
                  refine lv_bipush (v := (-7)) hx hb dX9_paste_93 (by decide) ?_
                  have hP9 := hP.sub (ws' := [(h0, .inr (7, [.ref tp, .ref sc, .ref rd, .ref cu, .ref im, .ref ig, .ref sl, .ref se, .ref sm, .ref fc])), (sl, .inl (cS, 4, .inr (.inr (.inr (.inr (sf4 s0 s1 s2 s3)))))), (s0, .inr (2, [.int wd0, .int rz0, .ref n0])), (s1, .inr (2, [.int wd1, .int rz1, .ref n1])), (s2, .inr (2, [.int wd2, .int rz2, .ref n2])), (s3, .inr (2, [.int wd3, .int rz3, .ref n3])), (n0, .inl (cJ0, 60, .inr (.inl g0))), (n1, .inl (cJ1, 60, .inr (.inl g1))), (n2, .inl (cJ2, 60, .inr (.inl g2))), (n3, .inl (cJ3, 60, .inr (.inl g3)))]) [0, 1, 2, 3, 4, 5, 6, 7, 8, 9] rfl
                  have hD9 := hD.sub (ws' := [(h0, .inr (7, [.ref tp, .ref sc, .ref rd, .ref cu, .ref im, .ref ig, .ref sl, .ref se, .ref sm, .ref fc])), (sl, .inl (cS, 4, .inr (.inr (.inr (.inr (sf4 s0 s1 s2 s3)))))), (s0, .inr (2, [.int wd0, .int rz0, .ref n0])), (s1, .inr (2, [.int wd1, .int rz1, .ref n1])), (s2, .inr (2, [.int wd2, .int rz2, .ref n2])), (s3, .inr (2, [.int wd3, .int rz3, .ref n3])), (n0, .inl (cJ0, 60, .inr (.inl g0))), (n1, .inl (cJ1, 60, .inr (.inl g1))), (n2, .inl (cJ2, 60, .inr (.inl g2))), (n3, .inl (cJ3, 60, .inr (.inl g3)))]) [0, 1, 2, 3, 4, 5, 6, 7, 8, 9] (by decide) rfl
                  have hK9 := hK.sub (tys' := [(cS, .object RX3), (cJ0, .long), (cJ1, .long), (cJ2, .long), (cJ3, .long)]) [0, 1, 2, 3, 4] rfl
                  exact W.iret (v := (-7)) hx hb hr (fun t ht hW => ⟨⟨(-7), (), rfl, (rg_w (by decide : (-7 : Int) ≤ ((-7) : Int32).toInt ∧ ((-7) : Int32).toInt ≤ -7) (by decide) (by decide)), g0, g1, g2, g3, by rw [ht]; exact hP9, va_K.moved hW.alike hK9, hD9⟩, hS.F ht⟩) hS.2.2 dX9_paste_95
                ·
                  have n_c_397 : (r_396.toInt : Int) ≠ 0 := c_ne rfl (by decide) c_397
                  have b_r_396 : (1 : Int) ≤ r_396.toInt ∧ r_396.toInt ≤ 1 := r_ne1 b_r_396 (by decide : (0 : Int) ≤ (0 : Int32).toInt ∧ (0 : Int32).toInt ≤ 0) n_c_397 (by decide)
                  obtain ⟨b_a2, b_a5, g_398⟩ := nz_r_396 c_397
                  refine lv_aload hx hb dX9_paste_81 (lv_at hl 0 rfl) ?_
                  refine lv_iload hx hb dX9_paste_83 (lv_at hl 6 rfl) ?_
                  refine lv_iload hx hb dX9_paste_85 (lv_at hl 7 rfl) ?_
                  refine vp_callSi (W.runV (As := [.int a4, .int a5]) (rest := []) ⟨hx, hb, hml, hown, hts⟩ (kX3_hasStretch l dC dI s3 wd3 rz3 n3 a4 a5 (rg_w b_wd3 (by decide) (by decide)) b_rz3) (cwV 2 hts gX9_paste__X3_hasStretch_V343 rfl rfl rfl hd_yX3_hasStretch ⟨lel 1 2 rfl, lel 22 88 rfl⟩) ⟨pw_fb, rcv_X3 hK hP (q0 := 5) rfl, (pw_use hP hK hN [5] rfl [] rfl)⟩ rfl rfl hl.1 rfl (lv_room (Nat.le_of_ble_eq_true rfl)) dX9_paste_87 ⟨lel 0 0 rfl, lel 0 0 rfl⟩) (fun r_399 h_r_399 => ?_)
                  obtain ⟨b_r_399, nz_r_399⟩ := h_r_399
                  have b_r_399 : (0 : Int) ≤ r_399.toInt ∧ r_399.toInt ≤ 1 := b_r_399
                  refine lv_if_ne (tgt := 96) hx hb dX9_paste_90 (by decide) (fun c_400 => ?_) (fun c_400 => ?_)
                  ·
                    have n_c_400 : (r_399.toInt : Int) ≠ 0 := c_ne rfl (by decide) c_400
                    have b_r_399 : (1 : Int) ≤ r_399.toInt ∧ r_399.toInt ≤ 1 := r_ne1 b_r_399 (by decide : (0 : Int) ≤ (0 : Int32).toInt ∧ (0 : Int32).toInt ≤ 0) n_c_400 (by decide)
                    obtain ⟨b_a4, b_a5, g_401⟩ := nz_r_399 c_400
                    refine lv_aload hx hb dX9_paste_96 (lv_at hl 0 rfl) ?_
                    refine lv_iload hx hb dX9_paste_98 (lv_at hl 6 rfl) ?_
                    refine lv_aload hx hb dX9_paste_100 (lv_at hl 1 rfl) ?_
                    refine lv_iload_n hx hb dX9_paste_102 rfl (lv_at hl 4 rfl) ?_
                    refine lv_iload hx hb dX9_paste_103 (lv_at hl 7 rfl) ?_
                    have hFc := va_free (wc := [(s3, .inr (2, [.int wd3, .int rz3, .ref n3])), (n3, .inl (cJ3, 60, .inr (.inl g3))), (s1, .inr (2, [.int wd1, .int rz1, .ref n1])), (n1, .inl (cJ1, 60, .inr (.inl g1)))]) hD hS hA [5, 9, 3, 7] rfl
                    refine va_callv (va_runV (As := [.int a4, .ref s1, .int a2, .int a5]) (rest := []) ⟨hx, hb, hml, hown, hts⟩ (kX3_take l dC dI s3 wd3 rz3 n3 cJ3 g3 s1 wd1 rz1 n1 cJ1 g1 a4 a2 a5 (s.heap.size) (rg_w b_wd3 (by decide) (by decide)) b_rz3 (rg_w b_wd1 (by decide) (by decide)) b_rz1) (cwV 4 hts gX9_paste__X3_take_V353 rfl rfl rfl hd_yX3_take ⟨lel 2 2 rfl, lel 88 88 rfl⟩) ⟨hw_fb, rcv_X3 hK hP (q0 := 5) rfl, (hw_use hP hD hK hN [5, 9, 3, 7] rfl (by decide) rfl [4, 2] rfl)⟩ rfl rfl hl.1 rfl (lv_room (Nat.le_of_ble_eq_true rfl)) dX9_paste_105 ⟨lel 0 0 rfl, lel 0 0 rfl⟩) hS (fun q _ h => hFc q h) hFc (fun u_403 t H1 locs ht hvm hw_r_402 hB hz1 hk1 hS => ?_)
                    obtain ⟨o0_404, hP1, hK1, hD1⟩ := hB
                    rw [ht] at hP1
                    have hK1 := va_K.moved hvm.symm hK1
                    obtain ⟨hP, hD⟩ := va_join (wr := [(h0, .inr (7, [.ref tp, .ref sc, .ref rd, .ref cu, .ref im, .ref ig, .ref sl, .ref se, .ref sm, .ref fc])), (sl, .inl (cS, 4, .inr (.inr (.inr (.inr (sf4 s0 s1 s2 s3)))))), (s0, .inr (2, [.int wd0, .int rz0, .ref n0])), (s2, .inr (2, [.int wd2, .int rz2, .ref n2])), (n0, .inl (cJ0, 60, .inr (.inl g0))), (n2, .inl (cJ2, 60, .inr (.inl g2)))]) (w1 := [(s3, .inr (2, [.int wd3, .int rz3, .ref n3])), (n3, .inl (cJ3, 60, .inr (.inl o0_404))), (s1, .inr (2, [.int wd1, .int rz1, .ref n1])), (n1, .inl (cJ1, 60, .inr (.inl g1)))]) hP hD [5, 9, 3, 7] [0, 1, 2, 4, 6, 8] rfl rfl (by decide) (by decide) hk1 hFc hP1 hD1
                    have hK := (hK.sub (tys' := [(cS, .object RX3), (cJ0, .long), (cJ2, .long)]) [0, 1, 3] rfl).app hK1
                    generalize H1 = H at hP hS ⊢
                    have hP := hP.sub (ws' := [(h0, .inr (7, [.ref tp, .ref sc, .ref rd, .ref cu, .ref im, .ref ig, .ref sl, .ref se, .ref sm, .ref fc])), (sl, .inl (cS, 4, .inr (.inr (.inr (.inr (sf4 s0 s1 s2 s3)))))), (s0, .inr (2, [.int wd0, .int rz0, .ref n0])), (s1, .inr (2, [.int wd1, .int rz1, .ref n1])), (s2, .inr (2, [.int wd2, .int rz2, .ref n2])), (s3, .inr (2, [.int wd3, .int rz3, .ref n3])), (n0, .inl (cJ0, 60, .inr (.inl g0))), (n1, .inl (cJ1, 60, .inr (.inl g1))), (n2, .inl (cJ2, 60, .inr (.inl g2))), (n3, .inl (cJ3, 60, .inr (.inl o0_404)))]) [0, 1, 2, 8, 3, 6, 4, 9, 5, 7] rfl
                    have hD := hD.sub (ws' := [(h0, .inr (7, [.ref tp, .ref sc, .ref rd, .ref cu, .ref im, .ref ig, .ref sl, .ref se, .ref sm, .ref fc])), (sl, .inl (cS, 4, .inr (.inr (.inr (.inr (sf4 s0 s1 s2 s3)))))), (s0, .inr (2, [.int wd0, .int rz0, .ref n0])), (s1, .inr (2, [.int wd1, .int rz1, .ref n1])), (s2, .inr (2, [.int wd2, .int rz2, .ref n2])), (s3, .inr (2, [.int wd3, .int rz3, .ref n3])), (n0, .inl (cJ0, 60, .inr (.inl g0))), (n1, .inl (cJ1, 60, .inr (.inl g1))), (n2, .inl (cJ2, 60, .inr (.inl g2))), (n3, .inl (cJ3, 60, .inr (.inl o0_404)))]) [0, 1, 2, 8, 3, 6, 4, 9, 5, 7] (by decide) rfl
                    have hK := hK.sub (tys' := [(cS, .object RX3), (cJ0, .long), (cJ1, .long), (cJ2, .long), (cJ3, .long)]) [0, 1, 4, 2, 3] rfl
                    have hP : va_P (dC, dI) vwCl [(h0, .inr (7, [.ref tp, .ref sc, .ref rd, .ref cu, .ref im, .ref ig, .ref sl, .ref se, .ref sm, .ref fc])), (sl, .inl (cS, 4, .inr (.inr (.inr (.inr (sf4 s0 s1 s2 s3)))))), (s0, .inr (2, [.int wd0, .int rz0, .ref n0])), (s1, .inr (2, [.int wd1, .int rz1, .ref n1])), (s2, .inr (2, [.int wd2, .int rz2, .ref n2])), (s3, .inr (2, [.int wd3, .int rz3, .ref n3])), (n0, .inl (cJ0, 60, .inr (.inl g0))), (n1, .inl (cJ1, 60, .inr (.inl g1))), (n2, .inl (cJ2, 60, .inr (.inl g2))), (n3, .inl (cJ3, 60, .inr (.inl o0_404)))] H := hP
                    have hD : va_D A [(h0, .inr (7, [.ref tp, .ref sc, .ref rd, .ref cu, .ref im, .ref ig, .ref sl, .ref se, .ref sm, .ref fc])), (sl, .inl (cS, 4, .inr (.inr (.inr (.inr (sf4 s0 s1 s2 s3)))))), (s0, .inr (2, [.int wd0, .int rz0, .ref n0])), (s1, .inr (2, [.int wd1, .int rz1, .ref n1])), (s2, .inr (2, [.int wd2, .int rz2, .ref n2])), (s3, .inr (2, [.int wd3, .int rz3, .ref n3])), (n0, .inl (cJ0, 60, .inr (.inl g0))), (n1, .inl (cJ1, 60, .inr (.inl g1))), (n2, .inl (cJ2, 60, .inr (.inl g2))), (n3, .inl (cJ3, 60, .inr (.inl o0_404)))] := hD
                    have hK : va_K (dC, dI) vwCl [(cS, .object RX3), (cJ0, .long), (cJ1, .long), (cJ2, .long), (cJ3, .long)] s := hK
                    refine lv_iconst (v := 0) hx hb dX9_paste_108 (by decide) ?_
                    have hP9 := hP.sub (ws' := [(h0, .inr (7, [.ref tp, .ref sc, .ref rd, .ref cu, .ref im, .ref ig, .ref sl, .ref se, .ref sm, .ref fc])), (sl, .inl (cS, 4, .inr (.inr (.inr (.inr (sf4 s0 s1 s2 s3)))))), (s0, .inr (2, [.int wd0, .int rz0, .ref n0])), (s1, .inr (2, [.int wd1, .int rz1, .ref n1])), (s2, .inr (2, [.int wd2, .int rz2, .ref n2])), (s3, .inr (2, [.int wd3, .int rz3, .ref n3])), (n0, .inl (cJ0, 60, .inr (.inl g0))), (n1, .inl (cJ1, 60, .inr (.inl g1))), (n2, .inl (cJ2, 60, .inr (.inl g2))), (n3, .inl (cJ3, 60, .inr (.inl o0_404)))]) [0, 1, 2, 3, 4, 5, 6, 7, 8, 9] rfl
                    have hD9 := hD.sub (ws' := [(h0, .inr (7, [.ref tp, .ref sc, .ref rd, .ref cu, .ref im, .ref ig, .ref sl, .ref se, .ref sm, .ref fc])), (sl, .inl (cS, 4, .inr (.inr (.inr (.inr (sf4 s0 s1 s2 s3)))))), (s0, .inr (2, [.int wd0, .int rz0, .ref n0])), (s1, .inr (2, [.int wd1, .int rz1, .ref n1])), (s2, .inr (2, [.int wd2, .int rz2, .ref n2])), (s3, .inr (2, [.int wd3, .int rz3, .ref n3])), (n0, .inl (cJ0, 60, .inr (.inl g0))), (n1, .inl (cJ1, 60, .inr (.inl g1))), (n2, .inl (cJ2, 60, .inr (.inl g2))), (n3, .inl (cJ3, 60, .inr (.inl o0_404)))]) [0, 1, 2, 3, 4, 5, 6, 7, 8, 9] (by decide) rfl
                    have hK9 := hK.sub (tys' := [(cS, .object RX3), (cJ0, .long), (cJ1, .long), (cJ2, .long), (cJ3, .long)]) [0, 1, 2, 3, 4] rfl
                    exact W.iret (v := 0) hx hb hr (fun t ht hW => ⟨⟨0, (), rfl, (rg_w (by decide : (0 : Int) ≤ (0 : Int32).toInt ∧ (0 : Int32).toInt ≤ 0) (by decide) (by decide)), g0, g1, g2, o0_404, by rw [ht]; exact hP9, va_K.moved hW.alike hK9, hD9⟩, hS.F ht⟩) hS.2.2 dX9_paste_109
                  ·
                    have n_c_400 : (r_399.toInt : Int) = 0 := c_eq rfl (by decide) c_400
                    have b_r_399 : (0 : Int) ≤ r_399.toInt ∧ r_399.toInt ≤ 0 := r_eq1 b_r_399 (by decide : (0 : Int) ≤ (0 : Int32).toInt ∧ (0 : Int32).toInt ≤ 0) n_c_400 (by decide)
                    refine lv_bipush (v := (-7)) hx hb dX9_paste_93 (by decide) ?_
                    have hP9 := hP.sub (ws' := [(h0, .inr (7, [.ref tp, .ref sc, .ref rd, .ref cu, .ref im, .ref ig, .ref sl, .ref se, .ref sm, .ref fc])), (sl, .inl (cS, 4, .inr (.inr (.inr (.inr (sf4 s0 s1 s2 s3)))))), (s0, .inr (2, [.int wd0, .int rz0, .ref n0])), (s1, .inr (2, [.int wd1, .int rz1, .ref n1])), (s2, .inr (2, [.int wd2, .int rz2, .ref n2])), (s3, .inr (2, [.int wd3, .int rz3, .ref n3])), (n0, .inl (cJ0, 60, .inr (.inl g0))), (n1, .inl (cJ1, 60, .inr (.inl g1))), (n2, .inl (cJ2, 60, .inr (.inl g2))), (n3, .inl (cJ3, 60, .inr (.inl g3)))]) [0, 1, 2, 3, 4, 5, 6, 7, 8, 9] rfl
                    have hD9 := hD.sub (ws' := [(h0, .inr (7, [.ref tp, .ref sc, .ref rd, .ref cu, .ref im, .ref ig, .ref sl, .ref se, .ref sm, .ref fc])), (sl, .inl (cS, 4, .inr (.inr (.inr (.inr (sf4 s0 s1 s2 s3)))))), (s0, .inr (2, [.int wd0, .int rz0, .ref n0])), (s1, .inr (2, [.int wd1, .int rz1, .ref n1])), (s2, .inr (2, [.int wd2, .int rz2, .ref n2])), (s3, .inr (2, [.int wd3, .int rz3, .ref n3])), (n0, .inl (cJ0, 60, .inr (.inl g0))), (n1, .inl (cJ1, 60, .inr (.inl g1))), (n2, .inl (cJ2, 60, .inr (.inl g2))), (n3, .inl (cJ3, 60, .inr (.inl g3)))]) [0, 1, 2, 3, 4, 5, 6, 7, 8, 9] (by decide) rfl
                    have hK9 := hK.sub (tys' := [(cS, .object RX3), (cJ0, .long), (cJ1, .long), (cJ2, .long), (cJ3, .long)]) [0, 1, 2, 3, 4] rfl
                    exact W.iret (v := (-7)) hx hb hr (fun t ht hW => ⟨⟨(-7), (), rfl, (rg_w (by decide : (-7 : Int) ≤ ((-7) : Int32).toInt ∧ ((-7) : Int32).toInt ≤ -7) (by decide) (by decide)), g0, g1, g2, g3, by rw [ht]; exact hP9, va_K.moved hW.alike hK9, hD9⟩, hS.F ht⟩) hS.2.2 dX9_paste_95
              ·
                have n_c_395 : (wd1.toInt : Int) ≠ wd3.toInt := c_ne rfl rfl c_395
                refine lv_bipush (v := (-8)) hx hb dX9_paste_67 (by decide) ?_
                have hP9 := hP.sub (ws' := [(h0, .inr (7, [.ref tp, .ref sc, .ref rd, .ref cu, .ref im, .ref ig, .ref sl, .ref se, .ref sm, .ref fc])), (sl, .inl (cS, 4, .inr (.inr (.inr (.inr (sf4 s0 s1 s2 s3)))))), (s0, .inr (2, [.int wd0, .int rz0, .ref n0])), (s1, .inr (2, [.int wd1, .int rz1, .ref n1])), (s2, .inr (2, [.int wd2, .int rz2, .ref n2])), (s3, .inr (2, [.int wd3, .int rz3, .ref n3])), (n0, .inl (cJ0, 60, .inr (.inl g0))), (n1, .inl (cJ1, 60, .inr (.inl g1))), (n2, .inl (cJ2, 60, .inr (.inl g2))), (n3, .inl (cJ3, 60, .inr (.inl g3)))]) [0, 1, 2, 3, 4, 5, 6, 7, 8, 9] rfl
                have hD9 := hD.sub (ws' := [(h0, .inr (7, [.ref tp, .ref sc, .ref rd, .ref cu, .ref im, .ref ig, .ref sl, .ref se, .ref sm, .ref fc])), (sl, .inl (cS, 4, .inr (.inr (.inr (.inr (sf4 s0 s1 s2 s3)))))), (s0, .inr (2, [.int wd0, .int rz0, .ref n0])), (s1, .inr (2, [.int wd1, .int rz1, .ref n1])), (s2, .inr (2, [.int wd2, .int rz2, .ref n2])), (s3, .inr (2, [.int wd3, .int rz3, .ref n3])), (n0, .inl (cJ0, 60, .inr (.inl g0))), (n1, .inl (cJ1, 60, .inr (.inl g1))), (n2, .inl (cJ2, 60, .inr (.inl g2))), (n3, .inl (cJ3, 60, .inr (.inl g3)))]) [0, 1, 2, 3, 4, 5, 6, 7, 8, 9] (by decide) rfl
                have hK9 := hK.sub (tys' := [(cS, .object RX3), (cJ0, .long), (cJ1, .long), (cJ2, .long), (cJ3, .long)]) [0, 1, 2, 3, 4] rfl
                exact W.iret (v := (-8)) hx hb hr (fun t ht hW => ⟨⟨(-8), (), rfl, (rg_w (by decide : (-8 : Int) ≤ ((-8) : Int32).toInt ∧ ((-8) : Int32).toInt ≤ -8) (by decide) (by decide)), g0, g1, g2, g3, by rw [ht]; exact hP9, va_K.moved hW.alike hK9, hD9⟩, hS.F ht⟩) hS.2.2 dX9_paste_69
            ·
              have n_c_393 : (r_392.toInt : Int) = 0 := c_eq rfl (by decide) c_393
              have b_r_392 : (0 : Int) ≤ r_392.toInt ∧ r_392.toInt ≤ 0 := r_eq1 b_r_392 (by decide : (0 : Int) ≤ (0 : Int32).toInt ∧ (0 : Int32).toInt ≤ 0) n_c_393 (by decide)
              refine lv_bipush (v := (-6)) hx hb dX9_paste_51 (by decide) ?_
              have hP9 := hP.sub (ws' := [(h0, .inr (7, [.ref tp, .ref sc, .ref rd, .ref cu, .ref im, .ref ig, .ref sl, .ref se, .ref sm, .ref fc])), (sl, .inl (cS, 4, .inr (.inr (.inr (.inr (sf4 s0 s1 s2 s3)))))), (s0, .inr (2, [.int wd0, .int rz0, .ref n0])), (s1, .inr (2, [.int wd1, .int rz1, .ref n1])), (s2, .inr (2, [.int wd2, .int rz2, .ref n2])), (s3, .inr (2, [.int wd3, .int rz3, .ref n3])), (n0, .inl (cJ0, 60, .inr (.inl g0))), (n1, .inl (cJ1, 60, .inr (.inl g1))), (n2, .inl (cJ2, 60, .inr (.inl g2))), (n3, .inl (cJ3, 60, .inr (.inl g3)))]) [0, 1, 2, 3, 4, 5, 6, 7, 8, 9] rfl
              have hD9 := hD.sub (ws' := [(h0, .inr (7, [.ref tp, .ref sc, .ref rd, .ref cu, .ref im, .ref ig, .ref sl, .ref se, .ref sm, .ref fc])), (sl, .inl (cS, 4, .inr (.inr (.inr (.inr (sf4 s0 s1 s2 s3)))))), (s0, .inr (2, [.int wd0, .int rz0, .ref n0])), (s1, .inr (2, [.int wd1, .int rz1, .ref n1])), (s2, .inr (2, [.int wd2, .int rz2, .ref n2])), (s3, .inr (2, [.int wd3, .int rz3, .ref n3])), (n0, .inl (cJ0, 60, .inr (.inl g0))), (n1, .inl (cJ1, 60, .inr (.inl g1))), (n2, .inl (cJ2, 60, .inr (.inl g2))), (n3, .inl (cJ3, 60, .inr (.inl g3)))]) [0, 1, 2, 3, 4, 5, 6, 7, 8, 9] (by decide) rfl
              have hK9 := hK.sub (tys' := [(cS, .object RX3), (cJ0, .long), (cJ1, .long), (cJ2, .long), (cJ3, .long)]) [0, 1, 2, 3, 4] rfl
              exact W.iret (v := (-6)) hx hb hr (fun t ht hW => ⟨⟨(-6), (), rfl, (rg_w (by decide : (-6 : Int) ≤ ((-6) : Int32).toInt ∧ ((-6) : Int32).toInt ≤ -6) (by decide) (by decide)), g0, g1, g2, g3, by rw [ht]; exact hP9, va_K.moved hW.alike hK9, hD9⟩, hS.F ht⟩) hS.2.2 dX9_paste_53
      ·
        obtain rfl : a1 = 2 := Int32.toInt_inj.mp (h_274.trans (by decide))
        refine va_aldq hx hb hK hP 1 0 rfl rfl (vp_in_b (by decide : (2 : Int) ≤ (2 : Int32).toInt ∧ (2 : Int32).toInt ≤ 2) (by decide) (by decide)) dX9_paste_24 ?_
        refine W.eq (g2 := F0 m 25 ls (.ref s2 :: [])) (congrArg (fun v => F0 m 25 ls (va_rf v :: [])) (sf4_2 s0 s1 s2 s3)) ?_
        refine lv_astore (lv' := [(6, .ref s2), (0, .ref h0), (1, .int 2), (2, .int a2), (3, .int a3), (4, .int a4), (5, .int a5)]) hx hb dX9_paste_25 hl (by decide) rfl (fun ls hl => ?_)
        refine lv_aload_n hx hb dX9_paste_27 rfl (lv_at hl 1 rfl) ?_
        refine va_get (D := (dC, dI)) (ci := 7) (v := .ref sl) (C := RX9) (T := TX9) (N := 10) hx hb hts iX9_paste_X9 hown hK hP 0 rfl rfl 6 (by decide) (hts (.fieldLink RX9 50 "LuckyTicket" "slots" "[LLuckyTicket$Row;") (List.mem_of_getElem? (i := 5) rfl)) (fun _ h9 => h9) rfl dX9_paste_28 ?_
        refine lv_iload_n hx hb dX9_paste_31 rfl (lv_at hl 4 rfl) ?_
        rcases (show a3.toInt = 0 ∨ a3.toInt = 1 ∨ a3.toInt = 2 ∨ a3.toInt = 3 by omega) with h_405 | h_405 | h_405 | h_405
        ·
          obtain rfl : a3 = 0 := Int32.toInt_inj.mp (h_405.trans (by decide))
          refine va_aldq hx hb hK hP 1 0 rfl rfl (vp_in_b (by decide : (0 : Int) ≤ (0 : Int32).toInt ∧ (0 : Int32).toInt ≤ 0) (by decide) (by decide)) dX9_paste_32 ?_
          refine W.eq (g2 := F0 m 33 ls (.ref s0 :: [])) (congrArg (fun v => F0 m 33 ls (va_rf v :: [])) (sf4_0 s0 s1 s2 s3)) ?_
          refine lv_astore (lv' := [(7, .ref s0), (6, .ref s2), (0, .ref h0), (1, .int 2), (2, .int a2), (3, .int 0), (4, .int a4), (5, .int a5)]) hx hb dX9_paste_33 hl (by decide) rfl (fun ls hl => ?_)
          refine lv_aload hx hb dX9_paste_35 (lv_at hl 1 rfl) ?_
          refine vp_callSi (W.runV (As := []) (rest := []) ⟨hx, hb, hml, hown, hts⟩ (kX3_stands l dC dI s2 wd2 rz2 n2 b_wd2 b_rz2) (cwV 0 hts gX9_paste__X3_stands_V270 rfl rfl rfl hd_yX3_stands ⟨lel 1 2 rfl, lel 20 88 rfl⟩) ⟨pw_fb, rcv_X3 hK hP (q0 := 4) rfl, (pw_use hP hK hN [4] rfl [] rfl)⟩ rfl rfl hl.1 rfl (lv_room (Nat.le_of_ble_eq_true rfl)) dX9_paste_37 ⟨lel 0 0 rfl, lel 0 0 rfl⟩) (fun r_406 h_r_406 => ?_)
          obtain ⟨b_r_406, nz_r_406⟩ := h_r_406
          have b_r_406 : (0 : Int) ≤ r_406.toInt ∧ r_406.toInt ≤ 1 := b_r_406
          refine lv_if_eq (tgt := 51) hx hb dX9_paste_40 (by decide) (fun c_407 => ?_) (fun c_407 => ?_)
          ·
            have n_c_407 : (r_406.toInt : Int) = 0 := c_eq rfl (by decide) c_407
            have b_r_406 : (0 : Int) ≤ r_406.toInt ∧ r_406.toInt ≤ 0 := r_eq1 b_r_406 (by decide : (0 : Int) ≤ (0 : Int32).toInt ∧ (0 : Int32).toInt ≤ 0) n_c_407 (by decide)
            refine lv_bipush (v := (-6)) hx hb dX9_paste_51 (by decide) ?_
            have hP9 := hP.sub (ws' := [(h0, .inr (7, [.ref tp, .ref sc, .ref rd, .ref cu, .ref im, .ref ig, .ref sl, .ref se, .ref sm, .ref fc])), (sl, .inl (cS, 4, .inr (.inr (.inr (.inr (sf4 s0 s1 s2 s3)))))), (s0, .inr (2, [.int wd0, .int rz0, .ref n0])), (s1, .inr (2, [.int wd1, .int rz1, .ref n1])), (s2, .inr (2, [.int wd2, .int rz2, .ref n2])), (s3, .inr (2, [.int wd3, .int rz3, .ref n3])), (n0, .inl (cJ0, 60, .inr (.inl g0))), (n1, .inl (cJ1, 60, .inr (.inl g1))), (n2, .inl (cJ2, 60, .inr (.inl g2))), (n3, .inl (cJ3, 60, .inr (.inl g3)))]) [0, 1, 2, 3, 4, 5, 6, 7, 8, 9] rfl
            have hD9 := hD.sub (ws' := [(h0, .inr (7, [.ref tp, .ref sc, .ref rd, .ref cu, .ref im, .ref ig, .ref sl, .ref se, .ref sm, .ref fc])), (sl, .inl (cS, 4, .inr (.inr (.inr (.inr (sf4 s0 s1 s2 s3)))))), (s0, .inr (2, [.int wd0, .int rz0, .ref n0])), (s1, .inr (2, [.int wd1, .int rz1, .ref n1])), (s2, .inr (2, [.int wd2, .int rz2, .ref n2])), (s3, .inr (2, [.int wd3, .int rz3, .ref n3])), (n0, .inl (cJ0, 60, .inr (.inl g0))), (n1, .inl (cJ1, 60, .inr (.inl g1))), (n2, .inl (cJ2, 60, .inr (.inl g2))), (n3, .inl (cJ3, 60, .inr (.inl g3)))]) [0, 1, 2, 3, 4, 5, 6, 7, 8, 9] (by decide) rfl
            have hK9 := hK.sub (tys' := [(cS, .object RX3), (cJ0, .long), (cJ1, .long), (cJ2, .long), (cJ3, .long)]) [0, 1, 2, 3, 4] rfl
            exact W.iret (v := (-6)) hx hb hr (fun t ht hW => ⟨⟨(-6), (), rfl, (rg_w (by decide : (-6 : Int) ≤ ((-6) : Int32).toInt ∧ ((-6) : Int32).toInt ≤ -6) (by decide) (by decide)), g0, g1, g2, g3, by rw [ht]; exact hP9, va_K.moved hW.alike hK9, hD9⟩, hS.F ht⟩) hS.2.2 dX9_paste_53
          ·
            have n_c_407 : (r_406.toInt : Int) ≠ 0 := c_ne rfl (by decide) c_407
            have b_r_406 : (1 : Int) ≤ r_406.toInt ∧ r_406.toInt ≤ 1 := r_ne1 b_r_406 (by decide : (0 : Int) ≤ (0 : Int32).toInt ∧ (0 : Int32).toInt ≤ 0) n_c_407 (by decide)
            obtain ⟨b_wd2, g_408⟩ := nz_r_406 c_407
            refine lv_aload hx hb dX9_paste_43 (lv_at hl 0 rfl) ?_
            refine vp_callSi (W.runV (As := []) (rest := []) ⟨hx, hb, hml, hown, hts⟩ (kX3_stands l dC dI s0 wd0 rz0 n0 b_wd0 b_rz0) (cwV 0 hts gX9_paste__X3_stands_V270 rfl rfl rfl hd_yX3_stands ⟨lel 1 2 rfl, lel 20 88 rfl⟩) ⟨pw_fb, rcv_X3 hK hP (q0 := 2) rfl, (pw_use hP hK hN [2] rfl [] rfl)⟩ rfl rfl hl.1 rfl (lv_room (Nat.le_of_ble_eq_true rfl)) dX9_paste_45 ⟨lel 0 0 rfl, lel 0 0 rfl⟩) (fun r_409 h_r_409 => ?_)
            obtain ⟨b_r_409, nz_r_409⟩ := h_r_409
            have b_r_409 : (0 : Int) ≤ r_409.toInt ∧ r_409.toInt ≤ 1 := b_r_409
            refine lv_if_ne (tgt := 54) hx hb dX9_paste_48 (by decide) (fun c_410 => ?_) (fun c_410 => ?_)
            ·
              have n_c_410 : (r_409.toInt : Int) ≠ 0 := c_ne rfl (by decide) c_410
              have b_r_409 : (1 : Int) ≤ r_409.toInt ∧ r_409.toInt ≤ 1 := r_ne1 b_r_409 (by decide : (0 : Int) ≤ (0 : Int32).toInt ∧ (0 : Int32).toInt ≤ 0) n_c_410 (by decide)
              obtain ⟨b_wd0, g_411⟩ := nz_r_409 c_410
              refine lv_aload hx hb dX9_paste_54 (lv_at hl 1 rfl) ?_
              refine va_getN (own := RX9) (index := 350) (ref := RX3) (host := RX9) (D := (dC, dI)) (ci := 2) (v := .int wd2) (C := RX3) (T := TX3) (N := 3) hx hb hts iX9_paste_X3 hown hK hP 4 rfl rfl 0 (by decide) (va_Nw.use rfl (hN _ (List.mem_of_getElem? (i := 21) rfl))) (fun _ h9 => h9) rfl dX9_paste_56 ?_
              refine lv_aload hx hb dX9_paste_59 (lv_at hl 0 rfl) ?_
              refine va_getN (own := RX9) (index := 350) (ref := RX3) (host := RX9) (D := (dC, dI)) (ci := 2) (v := .int wd0) (C := RX3) (T := TX3) (N := 3) hx hb hts iX9_paste_X3 hown hK hP 2 rfl rfl 0 (by decide) (va_Nw.use rfl (hN _ (List.mem_of_getElem? (i := 21) rfl))) (fun _ h9 => h9) rfl dX9_paste_61 ?_
              refine lv_icmp_eq (tgt := 70) hx hb dX9_paste_64 (by decide) (fun c_412 => ?_) (fun c_412 => ?_)
              ·
                have n_c_412 : (wd2.toInt : Int) = wd0.toInt := c_eq rfl rfl c_412
                refine lv_aload hx hb dX9_paste_70 (lv_at hl 1 rfl) ?_
                refine lv_iload_n hx hb dX9_paste_72 rfl (lv_at hl 4 rfl) ?_
                refine lv_iload hx hb dX9_paste_73 (lv_at hl 7 rfl) ?_
                refine vp_callSi (W.runV (As := [.int a2, .int a5]) (rest := []) ⟨hx, hb, hml, hown, hts⟩ (kX3_hasStretch l dC dI s2 wd2 rz2 n2 a2 a5 (rg_w b_wd2 (by decide) (by decide)) b_rz2) (cwV 2 hts gX9_paste__X3_hasStretch_V343 rfl rfl rfl hd_yX3_hasStretch ⟨lel 1 2 rfl, lel 22 88 rfl⟩) ⟨pw_fb, rcv_X3 hK hP (q0 := 4) rfl, (pw_use hP hK hN [4] rfl [] rfl)⟩ rfl rfl hl.1 rfl (lv_room (Nat.le_of_ble_eq_true rfl)) dX9_paste_75 ⟨lel 0 0 rfl, lel 0 0 rfl⟩) (fun r_413 h_r_413 => ?_)
                obtain ⟨b_r_413, nz_r_413⟩ := h_r_413
                have b_r_413 : (0 : Int) ≤ r_413.toInt ∧ r_413.toInt ≤ 1 := b_r_413
                refine lv_if_eq (tgt := 93) hx hb dX9_paste_78 (by decide) (fun c_414 => ?_) (fun c_414 => ?_)
                ·
                  have n_c_414 : (r_413.toInt : Int) = 0 := c_eq rfl (by decide) c_414
                  have b_r_413 : (0 : Int) ≤ r_413.toInt ∧ r_413.toInt ≤ 0 := r_eq1 b_r_413 (by decide : (0 : Int) ≤ (0 : Int32).toInt ∧ (0 : Int32).toInt ≤ 0) n_c_414 (by decide)
                  refine lv_bipush (v := (-7)) hx hb dX9_paste_93 (by decide) ?_
                  have hP9 := hP.sub (ws' := [(h0, .inr (7, [.ref tp, .ref sc, .ref rd, .ref cu, .ref im, .ref ig, .ref sl, .ref se, .ref sm, .ref fc])), (sl, .inl (cS, 4, .inr (.inr (.inr (.inr (sf4 s0 s1 s2 s3)))))), (s0, .inr (2, [.int wd0, .int rz0, .ref n0])), (s1, .inr (2, [.int wd1, .int rz1, .ref n1])), (s2, .inr (2, [.int wd2, .int rz2, .ref n2])), (s3, .inr (2, [.int wd3, .int rz3, .ref n3])), (n0, .inl (cJ0, 60, .inr (.inl g0))), (n1, .inl (cJ1, 60, .inr (.inl g1))), (n2, .inl (cJ2, 60, .inr (.inl g2))), (n3, .inl (cJ3, 60, .inr (.inl g3)))]) [0, 1, 2, 3, 4, 5, 6, 7, 8, 9] rfl
                  have hD9 := hD.sub (ws' := [(h0, .inr (7, [.ref tp, .ref sc, .ref rd, .ref cu, .ref im, .ref ig, .ref sl, .ref se, .ref sm, .ref fc])), (sl, .inl (cS, 4, .inr (.inr (.inr (.inr (sf4 s0 s1 s2 s3)))))), (s0, .inr (2, [.int wd0, .int rz0, .ref n0])), (s1, .inr (2, [.int wd1, .int rz1, .ref n1])), (s2, .inr (2, [.int wd2, .int rz2, .ref n2])), (s3, .inr (2, [.int wd3, .int rz3, .ref n3])), (n0, .inl (cJ0, 60, .inr (.inl g0))), (n1, .inl (cJ1, 60, .inr (.inl g1))), (n2, .inl (cJ2, 60, .inr (.inl g2))), (n3, .inl (cJ3, 60, .inr (.inl g3)))]) [0, 1, 2, 3, 4, 5, 6, 7, 8, 9] (by decide) rfl
                  have hK9 := hK.sub (tys' := [(cS, .object RX3), (cJ0, .long), (cJ1, .long), (cJ2, .long), (cJ3, .long)]) [0, 1, 2, 3, 4] rfl
                  exact W.iret (v := (-7)) hx hb hr (fun t ht hW => ⟨⟨(-7), (), rfl, (rg_w (by decide : (-7 : Int) ≤ ((-7) : Int32).toInt ∧ ((-7) : Int32).toInt ≤ -7) (by decide) (by decide)), g0, g1, g2, g3, by rw [ht]; exact hP9, va_K.moved hW.alike hK9, hD9⟩, hS.F ht⟩) hS.2.2 dX9_paste_95
                ·
                  have n_c_414 : (r_413.toInt : Int) ≠ 0 := c_ne rfl (by decide) c_414
                  have b_r_413 : (1 : Int) ≤ r_413.toInt ∧ r_413.toInt ≤ 1 := r_ne1 b_r_413 (by decide : (0 : Int) ≤ (0 : Int32).toInt ∧ (0 : Int32).toInt ≤ 0) n_c_414 (by decide)
                  obtain ⟨b_a2, b_a5, g_415⟩ := nz_r_413 c_414
                  refine lv_aload hx hb dX9_paste_81 (lv_at hl 0 rfl) ?_
                  refine lv_iload hx hb dX9_paste_83 (lv_at hl 6 rfl) ?_
                  refine lv_iload hx hb dX9_paste_85 (lv_at hl 7 rfl) ?_
                  refine vp_callSi (W.runV (As := [.int a4, .int a5]) (rest := []) ⟨hx, hb, hml, hown, hts⟩ (kX3_hasStretch l dC dI s0 wd0 rz0 n0 a4 a5 (rg_w b_wd0 (by decide) (by decide)) b_rz0) (cwV 2 hts gX9_paste__X3_hasStretch_V343 rfl rfl rfl hd_yX3_hasStretch ⟨lel 1 2 rfl, lel 22 88 rfl⟩) ⟨pw_fb, rcv_X3 hK hP (q0 := 2) rfl, (pw_use hP hK hN [2] rfl [] rfl)⟩ rfl rfl hl.1 rfl (lv_room (Nat.le_of_ble_eq_true rfl)) dX9_paste_87 ⟨lel 0 0 rfl, lel 0 0 rfl⟩) (fun r_416 h_r_416 => ?_)
                  obtain ⟨b_r_416, nz_r_416⟩ := h_r_416
                  have b_r_416 : (0 : Int) ≤ r_416.toInt ∧ r_416.toInt ≤ 1 := b_r_416
                  refine lv_if_ne (tgt := 96) hx hb dX9_paste_90 (by decide) (fun c_417 => ?_) (fun c_417 => ?_)
                  ·
                    have n_c_417 : (r_416.toInt : Int) ≠ 0 := c_ne rfl (by decide) c_417
                    have b_r_416 : (1 : Int) ≤ r_416.toInt ∧ r_416.toInt ≤ 1 := r_ne1 b_r_416 (by decide : (0 : Int) ≤ (0 : Int32).toInt ∧ (0 : Int32).toInt ≤ 0) n_c_417 (by decide)
                    obtain ⟨b_a4, b_a5, g_418⟩ := nz_r_416 c_417
                    refine lv_aload hx hb dX9_paste_96 (lv_at hl 0 rfl) ?_
                    refine lv_iload hx hb dX9_paste_98 (lv_at hl 6 rfl) ?_
                    refine lv_aload hx hb dX9_paste_100 (lv_at hl 1 rfl) ?_
                    refine lv_iload_n hx hb dX9_paste_102 rfl (lv_at hl 4 rfl) ?_
                    refine lv_iload hx hb dX9_paste_103 (lv_at hl 7 rfl) ?_
                    have hFc := va_free (wc := [(s0, .inr (2, [.int wd0, .int rz0, .ref n0])), (n0, .inl (cJ0, 60, .inr (.inl g0))), (s2, .inr (2, [.int wd2, .int rz2, .ref n2])), (n2, .inl (cJ2, 60, .inr (.inl g2)))]) hD hS hA [2, 6, 4, 8] rfl
                    refine va_callv (va_runV (As := [.int a4, .ref s2, .int a2, .int a5]) (rest := []) ⟨hx, hb, hml, hown, hts⟩ (kX3_take l dC dI s0 wd0 rz0 n0 cJ0 g0 s2 wd2 rz2 n2 cJ2 g2 a4 a2 a5 (s.heap.size) (rg_w b_wd0 (by decide) (by decide)) b_rz0 (rg_w b_wd2 (by decide) (by decide)) b_rz2) (cwV 4 hts gX9_paste__X3_take_V353 rfl rfl rfl hd_yX3_take ⟨lel 2 2 rfl, lel 88 88 rfl⟩) ⟨hw_fb, rcv_X3 hK hP (q0 := 2) rfl, (hw_use hP hD hK hN [2, 6, 4, 8] rfl (by decide) rfl [1, 3] rfl)⟩ rfl rfl hl.1 rfl (lv_room (Nat.le_of_ble_eq_true rfl)) dX9_paste_105 ⟨lel 0 0 rfl, lel 0 0 rfl⟩) hS (fun q _ h => hFc q h) hFc (fun u_420 t H1 locs ht hvm hw_r_419 hB hz1 hk1 hS => ?_)
                    obtain ⟨o0_421, hP1, hK1, hD1⟩ := hB
                    rw [ht] at hP1
                    have hK1 := va_K.moved hvm.symm hK1
                    obtain ⟨hP, hD⟩ := va_join (wr := [(h0, .inr (7, [.ref tp, .ref sc, .ref rd, .ref cu, .ref im, .ref ig, .ref sl, .ref se, .ref sm, .ref fc])), (sl, .inl (cS, 4, .inr (.inr (.inr (.inr (sf4 s0 s1 s2 s3)))))), (s1, .inr (2, [.int wd1, .int rz1, .ref n1])), (s3, .inr (2, [.int wd3, .int rz3, .ref n3])), (n1, .inl (cJ1, 60, .inr (.inl g1))), (n3, .inl (cJ3, 60, .inr (.inl g3)))]) (w1 := [(s0, .inr (2, [.int wd0, .int rz0, .ref n0])), (n0, .inl (cJ0, 60, .inr (.inl o0_421))), (s2, .inr (2, [.int wd2, .int rz2, .ref n2])), (n2, .inl (cJ2, 60, .inr (.inl g2)))]) hP hD [2, 6, 4, 8] [0, 1, 3, 5, 7, 9] rfl rfl (by decide) (by decide) hk1 hFc hP1 hD1
                    have hK := (hK.sub (tys' := [(cS, .object RX3), (cJ1, .long), (cJ3, .long)]) [0, 2, 4] rfl).app hK1
                    generalize H1 = H at hP hS ⊢
                    have hP := hP.sub (ws' := [(h0, .inr (7, [.ref tp, .ref sc, .ref rd, .ref cu, .ref im, .ref ig, .ref sl, .ref se, .ref sm, .ref fc])), (sl, .inl (cS, 4, .inr (.inr (.inr (.inr (sf4 s0 s1 s2 s3)))))), (s0, .inr (2, [.int wd0, .int rz0, .ref n0])), (s1, .inr (2, [.int wd1, .int rz1, .ref n1])), (s2, .inr (2, [.int wd2, .int rz2, .ref n2])), (s3, .inr (2, [.int wd3, .int rz3, .ref n3])), (n0, .inl (cJ0, 60, .inr (.inl o0_421))), (n1, .inl (cJ1, 60, .inr (.inl g1))), (n2, .inl (cJ2, 60, .inr (.inl g2))), (n3, .inl (cJ3, 60, .inr (.inl g3)))]) [0, 1, 6, 2, 8, 3, 7, 4, 9, 5] rfl
                    have hD := hD.sub (ws' := [(h0, .inr (7, [.ref tp, .ref sc, .ref rd, .ref cu, .ref im, .ref ig, .ref sl, .ref se, .ref sm, .ref fc])), (sl, .inl (cS, 4, .inr (.inr (.inr (.inr (sf4 s0 s1 s2 s3)))))), (s0, .inr (2, [.int wd0, .int rz0, .ref n0])), (s1, .inr (2, [.int wd1, .int rz1, .ref n1])), (s2, .inr (2, [.int wd2, .int rz2, .ref n2])), (s3, .inr (2, [.int wd3, .int rz3, .ref n3])), (n0, .inl (cJ0, 60, .inr (.inl o0_421))), (n1, .inl (cJ1, 60, .inr (.inl g1))), (n2, .inl (cJ2, 60, .inr (.inl g2))), (n3, .inl (cJ3, 60, .inr (.inl g3)))]) [0, 1, 6, 2, 8, 3, 7, 4, 9, 5] (by decide) rfl
                    have hK := hK.sub (tys' := [(cS, .object RX3), (cJ0, .long), (cJ1, .long), (cJ2, .long), (cJ3, .long)]) [0, 3, 1, 4, 2] rfl
                    have hP : va_P (dC, dI) vwCl [(h0, .inr (7, [.ref tp, .ref sc, .ref rd, .ref cu, .ref im, .ref ig, .ref sl, .ref se, .ref sm, .ref fc])), (sl, .inl (cS, 4, .inr (.inr (.inr (.inr (sf4 s0 s1 s2 s3)))))), (s0, .inr (2, [.int wd0, .int rz0, .ref n0])), (s1, .inr (2, [.int wd1, .int rz1, .ref n1])), (s2, .inr (2, [.int wd2, .int rz2, .ref n2])), (s3, .inr (2, [.int wd3, .int rz3, .ref n3])), (n0, .inl (cJ0, 60, .inr (.inl o0_421))), (n1, .inl (cJ1, 60, .inr (.inl g1))), (n2, .inl (cJ2, 60, .inr (.inl g2))), (n3, .inl (cJ3, 60, .inr (.inl g3)))] H := hP
                    have hD : va_D A [(h0, .inr (7, [.ref tp, .ref sc, .ref rd, .ref cu, .ref im, .ref ig, .ref sl, .ref se, .ref sm, .ref fc])), (sl, .inl (cS, 4, .inr (.inr (.inr (.inr (sf4 s0 s1 s2 s3)))))), (s0, .inr (2, [.int wd0, .int rz0, .ref n0])), (s1, .inr (2, [.int wd1, .int rz1, .ref n1])), (s2, .inr (2, [.int wd2, .int rz2, .ref n2])), (s3, .inr (2, [.int wd3, .int rz3, .ref n3])), (n0, .inl (cJ0, 60, .inr (.inl o0_421))), (n1, .inl (cJ1, 60, .inr (.inl g1))), (n2, .inl (cJ2, 60, .inr (.inl g2))), (n3, .inl (cJ3, 60, .inr (.inl g3)))] := hD
                    have hK : va_K (dC, dI) vwCl [(cS, .object RX3), (cJ0, .long), (cJ1, .long), (cJ2, .long), (cJ3, .long)] s := hK
                    refine lv_iconst (v := 0) hx hb dX9_paste_108 (by decide) ?_
                    have hP9 := hP.sub (ws' := [(h0, .inr (7, [.ref tp, .ref sc, .ref rd, .ref cu, .ref im, .ref ig, .ref sl, .ref se, .ref sm, .ref fc])), (sl, .inl (cS, 4, .inr (.inr (.inr (.inr (sf4 s0 s1 s2 s3)))))), (s0, .inr (2, [.int wd0, .int rz0, .ref n0])), (s1, .inr (2, [.int wd1, .int rz1, .ref n1])), (s2, .inr (2, [.int wd2, .int rz2, .ref n2])), (s3, .inr (2, [.int wd3, .int rz3, .ref n3])), (n0, .inl (cJ0, 60, .inr (.inl o0_421))), (n1, .inl (cJ1, 60, .inr (.inl g1))), (n2, .inl (cJ2, 60, .inr (.inl g2))), (n3, .inl (cJ3, 60, .inr (.inl g3)))]) [0, 1, 2, 3, 4, 5, 6, 7, 8, 9] rfl
                    have hD9 := hD.sub (ws' := [(h0, .inr (7, [.ref tp, .ref sc, .ref rd, .ref cu, .ref im, .ref ig, .ref sl, .ref se, .ref sm, .ref fc])), (sl, .inl (cS, 4, .inr (.inr (.inr (.inr (sf4 s0 s1 s2 s3)))))), (s0, .inr (2, [.int wd0, .int rz0, .ref n0])), (s1, .inr (2, [.int wd1, .int rz1, .ref n1])), (s2, .inr (2, [.int wd2, .int rz2, .ref n2])), (s3, .inr (2, [.int wd3, .int rz3, .ref n3])), (n0, .inl (cJ0, 60, .inr (.inl o0_421))), (n1, .inl (cJ1, 60, .inr (.inl g1))), (n2, .inl (cJ2, 60, .inr (.inl g2))), (n3, .inl (cJ3, 60, .inr (.inl g3)))]) [0, 1, 2, 3, 4, 5, 6, 7, 8, 9] (by decide) rfl
                    have hK9 := hK.sub (tys' := [(cS, .object RX3), (cJ0, .long), (cJ1, .long), (cJ2, .long), (cJ3, .long)]) [0, 1, 2, 3, 4] rfl
                    exact W.iret (v := 0) hx hb hr (fun t ht hW => ⟨⟨0, (), rfl, (rg_w (by decide : (0 : Int) ≤ (0 : Int32).toInt ∧ (0 : Int32).toInt ≤ 0) (by decide) (by decide)), o0_421, g1, g2, g3, by rw [ht]; exact hP9, va_K.moved hW.alike hK9, hD9⟩, hS.F ht⟩) hS.2.2 dX9_paste_109
                  ·
                    have n_c_417 : (r_416.toInt : Int) = 0 := c_eq rfl (by decide) c_417
                    have b_r_416 : (0 : Int) ≤ r_416.toInt ∧ r_416.toInt ≤ 0 := r_eq1 b_r_416 (by decide : (0 : Int) ≤ (0 : Int32).toInt ∧ (0 : Int32).toInt ≤ 0) n_c_417 (by decide)
                    refine lv_bipush (v := (-7)) hx hb dX9_paste_93 (by decide) ?_
                    have hP9 := hP.sub (ws' := [(h0, .inr (7, [.ref tp, .ref sc, .ref rd, .ref cu, .ref im, .ref ig, .ref sl, .ref se, .ref sm, .ref fc])), (sl, .inl (cS, 4, .inr (.inr (.inr (.inr (sf4 s0 s1 s2 s3)))))), (s0, .inr (2, [.int wd0, .int rz0, .ref n0])), (s1, .inr (2, [.int wd1, .int rz1, .ref n1])), (s2, .inr (2, [.int wd2, .int rz2, .ref n2])), (s3, .inr (2, [.int wd3, .int rz3, .ref n3])), (n0, .inl (cJ0, 60, .inr (.inl g0))), (n1, .inl (cJ1, 60, .inr (.inl g1))), (n2, .inl (cJ2, 60, .inr (.inl g2))), (n3, .inl (cJ3, 60, .inr (.inl g3)))]) [0, 1, 2, 3, 4, 5, 6, 7, 8, 9] rfl
                    have hD9 := hD.sub (ws' := [(h0, .inr (7, [.ref tp, .ref sc, .ref rd, .ref cu, .ref im, .ref ig, .ref sl, .ref se, .ref sm, .ref fc])), (sl, .inl (cS, 4, .inr (.inr (.inr (.inr (sf4 s0 s1 s2 s3)))))), (s0, .inr (2, [.int wd0, .int rz0, .ref n0])), (s1, .inr (2, [.int wd1, .int rz1, .ref n1])), (s2, .inr (2, [.int wd2, .int rz2, .ref n2])), (s3, .inr (2, [.int wd3, .int rz3, .ref n3])), (n0, .inl (cJ0, 60, .inr (.inl g0))), (n1, .inl (cJ1, 60, .inr (.inl g1))), (n2, .inl (cJ2, 60, .inr (.inl g2))), (n3, .inl (cJ3, 60, .inr (.inl g3)))]) [0, 1, 2, 3, 4, 5, 6, 7, 8, 9] (by decide) rfl
                    have hK9 := hK.sub (tys' := [(cS, .object RX3), (cJ0, .long), (cJ1, .long), (cJ2, .long), (cJ3, .long)]) [0, 1, 2, 3, 4] rfl
                    exact W.iret (v := (-7)) hx hb hr (fun t ht hW => ⟨⟨(-7), (), rfl, (rg_w (by decide : (-7 : Int) ≤ ((-7) : Int32).toInt ∧ ((-7) : Int32).toInt ≤ -7) (by decide) (by decide)), g0, g1, g2, g3, by rw [ht]; exact hP9, va_K.moved hW.alike hK9, hD9⟩, hS.F ht⟩) hS.2.2 dX9_paste_95
              ·
                have n_c_412 : (wd2.toInt : Int) ≠ wd0.toInt := c_ne rfl rfl c_412
                refine lv_bipush (v := (-8)) hx hb dX9_paste_67 (by decide) ?_
                have hP9 := hP.sub (ws' := [(h0, .inr (7, [.ref tp, .ref sc, .ref rd, .ref cu, .ref im, .ref ig, .ref sl, .ref se, .ref sm, .ref fc])), (sl, .inl (cS, 4, .inr (.inr (.inr (.inr (sf4 s0 s1 s2 s3)))))), (s0, .inr (2, [.int wd0, .int rz0, .ref n0])), (s1, .inr (2, [.int wd1, .int rz1, .ref n1])), (s2, .inr (2, [.int wd2, .int rz2, .ref n2])), (s3, .inr (2, [.int wd3, .int rz3, .ref n3])), (n0, .inl (cJ0, 60, .inr (.inl g0))), (n1, .inl (cJ1, 60, .inr (.inl g1))), (n2, .inl (cJ2, 60, .inr (.inl g2))), (n3, .inl (cJ3, 60, .inr (.inl g3)))]) [0, 1, 2, 3, 4, 5, 6, 7, 8, 9] rfl
                have hD9 := hD.sub (ws' := [(h0, .inr (7, [.ref tp, .ref sc, .ref rd, .ref cu, .ref im, .ref ig, .ref sl, .ref se, .ref sm, .ref fc])), (sl, .inl (cS, 4, .inr (.inr (.inr (.inr (sf4 s0 s1 s2 s3)))))), (s0, .inr (2, [.int wd0, .int rz0, .ref n0])), (s1, .inr (2, [.int wd1, .int rz1, .ref n1])), (s2, .inr (2, [.int wd2, .int rz2, .ref n2])), (s3, .inr (2, [.int wd3, .int rz3, .ref n3])), (n0, .inl (cJ0, 60, .inr (.inl g0))), (n1, .inl (cJ1, 60, .inr (.inl g1))), (n2, .inl (cJ2, 60, .inr (.inl g2))), (n3, .inl (cJ3, 60, .inr (.inl g3)))]) [0, 1, 2, 3, 4, 5, 6, 7, 8, 9] (by decide) rfl
                have hK9 := hK.sub (tys' := [(cS, .object RX3), (cJ0, .long), (cJ1, .long), (cJ2, .long), (cJ3, .long)]) [0, 1, 2, 3, 4] rfl
                exact W.iret (v := (-8)) hx hb hr (fun t ht hW => ⟨⟨(-8), (), rfl, (rg_w (by decide : (-8 : Int) ≤ ((-8) : Int32).toInt ∧ ((-8) : Int32).toInt ≤ -8) (by decide) (by decide)), g0, g1, g2, g3, by rw [ht]; exact hP9, va_K.moved hW.alike hK9, hD9⟩, hS.F ht⟩) hS.2.2 dX9_paste_69
            ·
              have n_c_410 : (r_409.toInt : Int) = 0 := c_eq rfl (by decide) c_410
              have b_r_409 : (0 : Int) ≤ r_409.toInt ∧ r_409.toInt ≤ 0 := r_eq1 b_r_409 (by decide : (0 : Int) ≤ (0 : Int32).toInt ∧ (0 : Int32).toInt ≤ 0) n_c_410 (by decide)
              refine lv_bipush (v := (-6)) hx hb dX9_paste_51 (by decide) ?_
              have hP9 := hP.sub (ws' := [(h0, .inr (7, [.ref tp, .ref sc, .ref rd, .ref cu, .ref im, .ref ig, .ref sl, .ref se, .ref sm, .ref fc])), (sl, .inl (cS, 4, .inr (.inr (.inr (.inr (sf4 s0 s1 s2 s3)))))), (s0, .inr (2, [.int wd0, .int rz0, .ref n0])), (s1, .inr (2, [.int wd1, .int rz1, .ref n1])), (s2, .inr (2, [.int wd2, .int rz2, .ref n2])), (s3, .inr (2, [.int wd3, .int rz3, .ref n3])), (n0, .inl (cJ0, 60, .inr (.inl g0))), (n1, .inl (cJ1, 60, .inr (.inl g1))), (n2, .inl (cJ2, 60, .inr (.inl g2))), (n3, .inl (cJ3, 60, .inr (.inl g3)))]) [0, 1, 2, 3, 4, 5, 6, 7, 8, 9] rfl
              have hD9 := hD.sub (ws' := [(h0, .inr (7, [.ref tp, .ref sc, .ref rd, .ref cu, .ref im, .ref ig, .ref sl, .ref se, .ref sm, .ref fc])), (sl, .inl (cS, 4, .inr (.inr (.inr (.inr (sf4 s0 s1 s2 s3)))))), (s0, .inr (2, [.int wd0, .int rz0, .ref n0])), (s1, .inr (2, [.int wd1, .int rz1, .ref n1])), (s2, .inr (2, [.int wd2, .int rz2, .ref n2])), (s3, .inr (2, [.int wd3, .int rz3, .ref n3])), (n0, .inl (cJ0, 60, .inr (.inl g0))), (n1, .inl (cJ1, 60, .inr (.inl g1))), (n2, .inl (cJ2, 60, .inr (.inl g2))), (n3, .inl (cJ3, 60, .inr (.inl g3)))]) [0, 1, 2, 3, 4, 5, 6, 7, 8, 9] (by decide) rfl
              have hK9 := hK.sub (tys' := [(cS, .object RX3), (cJ0, .long), (cJ1, .long), (cJ2, .long), (cJ3, .long)]) [0, 1, 2, 3, 4] rfl
              exact W.iret (v := (-6)) hx hb hr (fun t ht hW => ⟨⟨(-6), (), rfl, (rg_w (by decide : (-6 : Int) ≤ ((-6) : Int32).toInt ∧ ((-6) : Int32).toInt ≤ -6) (by decide) (by decide)), g0, g1, g2, g3, by rw [ht]; exact hP9, va_K.moved hW.alike hK9, hD9⟩, hS.F ht⟩) hS.2.2 dX9_paste_53
        ·
          obtain rfl : a3 = 1 := Int32.toInt_inj.mp (h_405.trans (by decide))
          refine va_aldq hx hb hK hP 1 0 rfl rfl (vp_in_b (by decide : (1 : Int) ≤ (1 : Int32).toInt ∧ (1 : Int32).toInt ≤ 1) (by decide) (by decide)) dX9_paste_32 ?_
          refine W.eq (g2 := F0 m 33 ls (.ref s1 :: [])) (congrArg (fun v => F0 m 33 ls (va_rf v :: [])) (sf4_1 s0 s1 s2 s3)) ?_
          refine lv_astore (lv' := [(7, .ref s1), (6, .ref s2), (0, .ref h0), (1, .int 2), (2, .int a2), (3, .int 1), (4, .int a4), (5, .int a5)]) hx hb dX9_paste_33 hl (by decide) rfl (fun ls hl => ?_)
          refine lv_aload hx hb dX9_paste_35 (lv_at hl 1 rfl) ?_
          refine vp_callSi (W.runV (As := []) (rest := []) ⟨hx, hb, hml, hown, hts⟩ (kX3_stands l dC dI s2 wd2 rz2 n2 b_wd2 b_rz2) (cwV 0 hts gX9_paste__X3_stands_V270 rfl rfl rfl hd_yX3_stands ⟨lel 1 2 rfl, lel 20 88 rfl⟩) ⟨pw_fb, rcv_X3 hK hP (q0 := 4) rfl, (pw_use hP hK hN [4] rfl [] rfl)⟩ rfl rfl hl.1 rfl (lv_room (Nat.le_of_ble_eq_true rfl)) dX9_paste_37 ⟨lel 0 0 rfl, lel 0 0 rfl⟩) (fun r_422 h_r_422 => ?_)
          obtain ⟨b_r_422, nz_r_422⟩ := h_r_422
          have b_r_422 : (0 : Int) ≤ r_422.toInt ∧ r_422.toInt ≤ 1 := b_r_422
          refine lv_if_eq (tgt := 51) hx hb dX9_paste_40 (by decide) (fun c_423 => ?_) (fun c_423 => ?_)
          ·
            have n_c_423 : (r_422.toInt : Int) = 0 := c_eq rfl (by decide) c_423
            have b_r_422 : (0 : Int) ≤ r_422.toInt ∧ r_422.toInt ≤ 0 := r_eq1 b_r_422 (by decide : (0 : Int) ≤ (0 : Int32).toInt ∧ (0 : Int32).toInt ≤ 0) n_c_423 (by decide)
            refine lv_bipush (v := (-6)) hx hb dX9_paste_51 (by decide) ?_
            have hP9 := hP.sub (ws' := [(h0, .inr (7, [.ref tp, .ref sc, .ref rd, .ref cu, .ref im, .ref ig, .ref sl, .ref se, .ref sm, .ref fc])), (sl, .inl (cS, 4, .inr (.inr (.inr (.inr (sf4 s0 s1 s2 s3)))))), (s0, .inr (2, [.int wd0, .int rz0, .ref n0])), (s1, .inr (2, [.int wd1, .int rz1, .ref n1])), (s2, .inr (2, [.int wd2, .int rz2, .ref n2])), (s3, .inr (2, [.int wd3, .int rz3, .ref n3])), (n0, .inl (cJ0, 60, .inr (.inl g0))), (n1, .inl (cJ1, 60, .inr (.inl g1))), (n2, .inl (cJ2, 60, .inr (.inl g2))), (n3, .inl (cJ3, 60, .inr (.inl g3)))]) [0, 1, 2, 3, 4, 5, 6, 7, 8, 9] rfl
            have hD9 := hD.sub (ws' := [(h0, .inr (7, [.ref tp, .ref sc, .ref rd, .ref cu, .ref im, .ref ig, .ref sl, .ref se, .ref sm, .ref fc])), (sl, .inl (cS, 4, .inr (.inr (.inr (.inr (sf4 s0 s1 s2 s3)))))), (s0, .inr (2, [.int wd0, .int rz0, .ref n0])), (s1, .inr (2, [.int wd1, .int rz1, .ref n1])), (s2, .inr (2, [.int wd2, .int rz2, .ref n2])), (s3, .inr (2, [.int wd3, .int rz3, .ref n3])), (n0, .inl (cJ0, 60, .inr (.inl g0))), (n1, .inl (cJ1, 60, .inr (.inl g1))), (n2, .inl (cJ2, 60, .inr (.inl g2))), (n3, .inl (cJ3, 60, .inr (.inl g3)))]) [0, 1, 2, 3, 4, 5, 6, 7, 8, 9] (by decide) rfl
            have hK9 := hK.sub (tys' := [(cS, .object RX3), (cJ0, .long), (cJ1, .long), (cJ2, .long), (cJ3, .long)]) [0, 1, 2, 3, 4] rfl
            exact W.iret (v := (-6)) hx hb hr (fun t ht hW => ⟨⟨(-6), (), rfl, (rg_w (by decide : (-6 : Int) ≤ ((-6) : Int32).toInt ∧ ((-6) : Int32).toInt ≤ -6) (by decide) (by decide)), g0, g1, g2, g3, by rw [ht]; exact hP9, va_K.moved hW.alike hK9, hD9⟩, hS.F ht⟩) hS.2.2 dX9_paste_53
          ·
            have n_c_423 : (r_422.toInt : Int) ≠ 0 := c_ne rfl (by decide) c_423
            have b_r_422 : (1 : Int) ≤ r_422.toInt ∧ r_422.toInt ≤ 1 := r_ne1 b_r_422 (by decide : (0 : Int) ≤ (0 : Int32).toInt ∧ (0 : Int32).toInt ≤ 0) n_c_423 (by decide)
            obtain ⟨b_wd2, g_424⟩ := nz_r_422 c_423
            refine lv_aload hx hb dX9_paste_43 (lv_at hl 0 rfl) ?_
            refine vp_callSi (W.runV (As := []) (rest := []) ⟨hx, hb, hml, hown, hts⟩ (kX3_stands l dC dI s1 wd1 rz1 n1 b_wd1 b_rz1) (cwV 0 hts gX9_paste__X3_stands_V270 rfl rfl rfl hd_yX3_stands ⟨lel 1 2 rfl, lel 20 88 rfl⟩) ⟨pw_fb, rcv_X3 hK hP (q0 := 3) rfl, (pw_use hP hK hN [3] rfl [] rfl)⟩ rfl rfl hl.1 rfl (lv_room (Nat.le_of_ble_eq_true rfl)) dX9_paste_45 ⟨lel 0 0 rfl, lel 0 0 rfl⟩) (fun r_425 h_r_425 => ?_)
            obtain ⟨b_r_425, nz_r_425⟩ := h_r_425
            have b_r_425 : (0 : Int) ≤ r_425.toInt ∧ r_425.toInt ≤ 1 := b_r_425
            refine lv_if_ne (tgt := 54) hx hb dX9_paste_48 (by decide) (fun c_426 => ?_) (fun c_426 => ?_)
            ·
              have n_c_426 : (r_425.toInt : Int) ≠ 0 := c_ne rfl (by decide) c_426
              have b_r_425 : (1 : Int) ≤ r_425.toInt ∧ r_425.toInt ≤ 1 := r_ne1 b_r_425 (by decide : (0 : Int) ≤ (0 : Int32).toInt ∧ (0 : Int32).toInt ≤ 0) n_c_426 (by decide)
              obtain ⟨b_wd1, g_427⟩ := nz_r_425 c_426
              refine lv_aload hx hb dX9_paste_54 (lv_at hl 1 rfl) ?_
              refine va_getN (own := RX9) (index := 350) (ref := RX3) (host := RX9) (D := (dC, dI)) (ci := 2) (v := .int wd2) (C := RX3) (T := TX3) (N := 3) hx hb hts iX9_paste_X3 hown hK hP 4 rfl rfl 0 (by decide) (va_Nw.use rfl (hN _ (List.mem_of_getElem? (i := 21) rfl))) (fun _ h9 => h9) rfl dX9_paste_56 ?_
              refine lv_aload hx hb dX9_paste_59 (lv_at hl 0 rfl) ?_
              refine va_getN (own := RX9) (index := 350) (ref := RX3) (host := RX9) (D := (dC, dI)) (ci := 2) (v := .int wd1) (C := RX3) (T := TX3) (N := 3) hx hb hts iX9_paste_X3 hown hK hP 3 rfl rfl 0 (by decide) (va_Nw.use rfl (hN _ (List.mem_of_getElem? (i := 21) rfl))) (fun _ h9 => h9) rfl dX9_paste_61 ?_
              refine lv_icmp_eq (tgt := 70) hx hb dX9_paste_64 (by decide) (fun c_428 => ?_) (fun c_428 => ?_)
              ·
                have n_c_428 : (wd2.toInt : Int) = wd1.toInt := c_eq rfl rfl c_428
                refine lv_aload hx hb dX9_paste_70 (lv_at hl 1 rfl) ?_
                refine lv_iload_n hx hb dX9_paste_72 rfl (lv_at hl 4 rfl) ?_
                refine lv_iload hx hb dX9_paste_73 (lv_at hl 7 rfl) ?_
                refine vp_callSi (W.runV (As := [.int a2, .int a5]) (rest := []) ⟨hx, hb, hml, hown, hts⟩ (kX3_hasStretch l dC dI s2 wd2 rz2 n2 a2 a5 (rg_w b_wd2 (by decide) (by decide)) b_rz2) (cwV 2 hts gX9_paste__X3_hasStretch_V343 rfl rfl rfl hd_yX3_hasStretch ⟨lel 1 2 rfl, lel 22 88 rfl⟩) ⟨pw_fb, rcv_X3 hK hP (q0 := 4) rfl, (pw_use hP hK hN [4] rfl [] rfl)⟩ rfl rfl hl.1 rfl (lv_room (Nat.le_of_ble_eq_true rfl)) dX9_paste_75 ⟨lel 0 0 rfl, lel 0 0 rfl⟩) (fun r_429 h_r_429 => ?_)
                obtain ⟨b_r_429, nz_r_429⟩ := h_r_429
                have b_r_429 : (0 : Int) ≤ r_429.toInt ∧ r_429.toInt ≤ 1 := b_r_429
                refine lv_if_eq (tgt := 93) hx hb dX9_paste_78 (by decide) (fun c_430 => ?_) (fun c_430 => ?_)
                ·
                  have n_c_430 : (r_429.toInt : Int) = 0 := c_eq rfl (by decide) c_430
                  have b_r_429 : (0 : Int) ≤ r_429.toInt ∧ r_429.toInt ≤ 0 := r_eq1 b_r_429 (by decide : (0 : Int) ≤ (0 : Int32).toInt ∧ (0 : Int32).toInt ≤ 0) n_c_430 (by decide)
                  refine lv_bipush (v := (-7)) hx hb dX9_paste_93 (by decide) ?_
                  have hP9 := hP.sub (ws' := [(h0, .inr (7, [.ref tp, .ref sc, .ref rd, .ref cu, .ref im, .ref ig, .ref sl, .ref se, .ref sm, .ref fc])), (sl, .inl (cS, 4, .inr (.inr (.inr (.inr (sf4 s0 s1 s2 s3)))))), (s0, .inr (2, [.int wd0, .int rz0, .ref n0])), (s1, .inr (2, [.int wd1, .int rz1, .ref n1])), (s2, .inr (2, [.int wd2, .int rz2, .ref n2])), (s3, .inr (2, [.int wd3, .int rz3, .ref n3])), (n0, .inl (cJ0, 60, .inr (.inl g0))), (n1, .inl (cJ1, 60, .inr (.inl g1))), (n2, .inl (cJ2, 60, .inr (.inl g2))), (n3, .inl (cJ3, 60, .inr (.inl g3)))]) [0, 1, 2, 3, 4, 5, 6, 7, 8, 9] rfl
                  have hD9 := hD.sub (ws' := [(h0, .inr (7, [.ref tp, .ref sc, .ref rd, .ref cu, .ref im, .ref ig, .ref sl, .ref se, .ref sm, .ref fc])), (sl, .inl (cS, 4, .inr (.inr (.inr (.inr (sf4 s0 s1 s2 s3)))))), (s0, .inr (2, [.int wd0, .int rz0, .ref n0])), (s1, .inr (2, [.int wd1, .int rz1, .ref n1])), (s2, .inr (2, [.int wd2, .int rz2, .ref n2])), (s3, .inr (2, [.int wd3, .int rz3, .ref n3])), (n0, .inl (cJ0, 60, .inr (.inl g0))), (n1, .inl (cJ1, 60, .inr (.inl g1))), (n2, .inl (cJ2, 60, .inr (.inl g2))), (n3, .inl (cJ3, 60, .inr (.inl g3)))]) [0, 1, 2, 3, 4, 5, 6, 7, 8, 9] (by decide) rfl
                  have hK9 := hK.sub (tys' := [(cS, .object RX3), (cJ0, .long), (cJ1, .long), (cJ2, .long), (cJ3, .long)]) [0, 1, 2, 3, 4] rfl
                  exact W.iret (v := (-7)) hx hb hr (fun t ht hW => ⟨⟨(-7), (), rfl, (rg_w (by decide : (-7 : Int) ≤ ((-7) : Int32).toInt ∧ ((-7) : Int32).toInt ≤ -7) (by decide) (by decide)), g0, g1, g2, g3, by rw [ht]; exact hP9, va_K.moved hW.alike hK9, hD9⟩, hS.F ht⟩) hS.2.2 dX9_paste_95
                ·
                  have n_c_430 : (r_429.toInt : Int) ≠ 0 := c_ne rfl (by decide) c_430
                  have b_r_429 : (1 : Int) ≤ r_429.toInt ∧ r_429.toInt ≤ 1 := r_ne1 b_r_429 (by decide : (0 : Int) ≤ (0 : Int32).toInt ∧ (0 : Int32).toInt ≤ 0) n_c_430 (by decide)
                  obtain ⟨b_a2, b_a5, g_431⟩ := nz_r_429 c_430
                  refine lv_aload hx hb dX9_paste_81 (lv_at hl 0 rfl) ?_
                  refine lv_iload hx hb dX9_paste_83 (lv_at hl 6 rfl) ?_
                  refine lv_iload hx hb dX9_paste_85 (lv_at hl 7 rfl) ?_
                  refine vp_callSi (W.runV (As := [.int a4, .int a5]) (rest := []) ⟨hx, hb, hml, hown, hts⟩ (kX3_hasStretch l dC dI s1 wd1 rz1 n1 a4 a5 (rg_w b_wd1 (by decide) (by decide)) b_rz1) (cwV 2 hts gX9_paste__X3_hasStretch_V343 rfl rfl rfl hd_yX3_hasStretch ⟨lel 1 2 rfl, lel 22 88 rfl⟩) ⟨pw_fb, rcv_X3 hK hP (q0 := 3) rfl, (pw_use hP hK hN [3] rfl [] rfl)⟩ rfl rfl hl.1 rfl (lv_room (Nat.le_of_ble_eq_true rfl)) dX9_paste_87 ⟨lel 0 0 rfl, lel 0 0 rfl⟩) (fun r_432 h_r_432 => ?_)
                  obtain ⟨b_r_432, nz_r_432⟩ := h_r_432
                  have b_r_432 : (0 : Int) ≤ r_432.toInt ∧ r_432.toInt ≤ 1 := b_r_432
                  refine lv_if_ne (tgt := 96) hx hb dX9_paste_90 (by decide) (fun c_433 => ?_) (fun c_433 => ?_)
                  ·
                    have n_c_433 : (r_432.toInt : Int) ≠ 0 := c_ne rfl (by decide) c_433
                    have b_r_432 : (1 : Int) ≤ r_432.toInt ∧ r_432.toInt ≤ 1 := r_ne1 b_r_432 (by decide : (0 : Int) ≤ (0 : Int32).toInt ∧ (0 : Int32).toInt ≤ 0) n_c_433 (by decide)
                    obtain ⟨b_a4, b_a5, g_434⟩ := nz_r_432 c_433
                    refine lv_aload hx hb dX9_paste_96 (lv_at hl 0 rfl) ?_
                    refine lv_iload hx hb dX9_paste_98 (lv_at hl 6 rfl) ?_
                    refine lv_aload hx hb dX9_paste_100 (lv_at hl 1 rfl) ?_
                    refine lv_iload_n hx hb dX9_paste_102 rfl (lv_at hl 4 rfl) ?_
                    refine lv_iload hx hb dX9_paste_103 (lv_at hl 7 rfl) ?_
                    have hFc := va_free (wc := [(s1, .inr (2, [.int wd1, .int rz1, .ref n1])), (n1, .inl (cJ1, 60, .inr (.inl g1))), (s2, .inr (2, [.int wd2, .int rz2, .ref n2])), (n2, .inl (cJ2, 60, .inr (.inl g2)))]) hD hS hA [3, 7, 4, 8] rfl
                    refine va_callv (va_runV (As := [.int a4, .ref s2, .int a2, .int a5]) (rest := []) ⟨hx, hb, hml, hown, hts⟩ (kX3_take l dC dI s1 wd1 rz1 n1 cJ1 g1 s2 wd2 rz2 n2 cJ2 g2 a4 a2 a5 (s.heap.size) (rg_w b_wd1 (by decide) (by decide)) b_rz1 (rg_w b_wd2 (by decide) (by decide)) b_rz2) (cwV 4 hts gX9_paste__X3_take_V353 rfl rfl rfl hd_yX3_take ⟨lel 2 2 rfl, lel 88 88 rfl⟩) ⟨hw_fb, rcv_X3 hK hP (q0 := 3) rfl, (hw_use hP hD hK hN [3, 7, 4, 8] rfl (by decide) rfl [2, 3] rfl)⟩ rfl rfl hl.1 rfl (lv_room (Nat.le_of_ble_eq_true rfl)) dX9_paste_105 ⟨lel 0 0 rfl, lel 0 0 rfl⟩) hS (fun q _ h => hFc q h) hFc (fun u_436 t H1 locs ht hvm hw_r_435 hB hz1 hk1 hS => ?_)
                    obtain ⟨o0_437, hP1, hK1, hD1⟩ := hB
                    rw [ht] at hP1
                    have hK1 := va_K.moved hvm.symm hK1
                    obtain ⟨hP, hD⟩ := va_join (wr := [(h0, .inr (7, [.ref tp, .ref sc, .ref rd, .ref cu, .ref im, .ref ig, .ref sl, .ref se, .ref sm, .ref fc])), (sl, .inl (cS, 4, .inr (.inr (.inr (.inr (sf4 s0 s1 s2 s3)))))), (s0, .inr (2, [.int wd0, .int rz0, .ref n0])), (s3, .inr (2, [.int wd3, .int rz3, .ref n3])), (n0, .inl (cJ0, 60, .inr (.inl g0))), (n3, .inl (cJ3, 60, .inr (.inl g3)))]) (w1 := [(s1, .inr (2, [.int wd1, .int rz1, .ref n1])), (n1, .inl (cJ1, 60, .inr (.inl o0_437))), (s2, .inr (2, [.int wd2, .int rz2, .ref n2])), (n2, .inl (cJ2, 60, .inr (.inl g2)))]) hP hD [3, 7, 4, 8] [0, 1, 2, 5, 6, 9] rfl rfl (by decide) (by decide) hk1 hFc hP1 hD1
                    have hK := (hK.sub (tys' := [(cS, .object RX3), (cJ0, .long), (cJ3, .long)]) [0, 1, 4] rfl).app hK1
                    generalize H1 = H at hP hS ⊢
                    have hP := hP.sub (ws' := [(h0, .inr (7, [.ref tp, .ref sc, .ref rd, .ref cu, .ref im, .ref ig, .ref sl, .ref se, .ref sm, .ref fc])), (sl, .inl (cS, 4, .inr (.inr (.inr (.inr (sf4 s0 s1 s2 s3)))))), (s0, .inr (2, [.int wd0, .int rz0, .ref n0])), (s1, .inr (2, [.int wd1, .int rz1, .ref n1])), (s2, .inr (2, [.int wd2, .int rz2, .ref n2])), (s3, .inr (2, [.int wd3, .int rz3, .ref n3])), (n0, .inl (cJ0, 60, .inr (.inl g0))), (n1, .inl (cJ1, 60, .inr (.inl o0_437))), (n2, .inl (cJ2, 60, .inr (.inl g2))), (n3, .inl (cJ3, 60, .inr (.inl g3)))]) [0, 1, 2, 6, 8, 3, 4, 7, 9, 5] rfl
                    have hD := hD.sub (ws' := [(h0, .inr (7, [.ref tp, .ref sc, .ref rd, .ref cu, .ref im, .ref ig, .ref sl, .ref se, .ref sm, .ref fc])), (sl, .inl (cS, 4, .inr (.inr (.inr (.inr (sf4 s0 s1 s2 s3)))))), (s0, .inr (2, [.int wd0, .int rz0, .ref n0])), (s1, .inr (2, [.int wd1, .int rz1, .ref n1])), (s2, .inr (2, [.int wd2, .int rz2, .ref n2])), (s3, .inr (2, [.int wd3, .int rz3, .ref n3])), (n0, .inl (cJ0, 60, .inr (.inl g0))), (n1, .inl (cJ1, 60, .inr (.inl o0_437))), (n2, .inl (cJ2, 60, .inr (.inl g2))), (n3, .inl (cJ3, 60, .inr (.inl g3)))]) [0, 1, 2, 6, 8, 3, 4, 7, 9, 5] (by decide) rfl
                    have hK := hK.sub (tys' := [(cS, .object RX3), (cJ0, .long), (cJ1, .long), (cJ2, .long), (cJ3, .long)]) [0, 1, 3, 4, 2] rfl
                    have hP : va_P (dC, dI) vwCl [(h0, .inr (7, [.ref tp, .ref sc, .ref rd, .ref cu, .ref im, .ref ig, .ref sl, .ref se, .ref sm, .ref fc])), (sl, .inl (cS, 4, .inr (.inr (.inr (.inr (sf4 s0 s1 s2 s3)))))), (s0, .inr (2, [.int wd0, .int rz0, .ref n0])), (s1, .inr (2, [.int wd1, .int rz1, .ref n1])), (s2, .inr (2, [.int wd2, .int rz2, .ref n2])), (s3, .inr (2, [.int wd3, .int rz3, .ref n3])), (n0, .inl (cJ0, 60, .inr (.inl g0))), (n1, .inl (cJ1, 60, .inr (.inl o0_437))), (n2, .inl (cJ2, 60, .inr (.inl g2))), (n3, .inl (cJ3, 60, .inr (.inl g3)))] H := hP
                    have hD : va_D A [(h0, .inr (7, [.ref tp, .ref sc, .ref rd, .ref cu, .ref im, .ref ig, .ref sl, .ref se, .ref sm, .ref fc])), (sl, .inl (cS, 4, .inr (.inr (.inr (.inr (sf4 s0 s1 s2 s3)))))), (s0, .inr (2, [.int wd0, .int rz0, .ref n0])), (s1, .inr (2, [.int wd1, .int rz1, .ref n1])), (s2, .inr (2, [.int wd2, .int rz2, .ref n2])), (s3, .inr (2, [.int wd3, .int rz3, .ref n3])), (n0, .inl (cJ0, 60, .inr (.inl g0))), (n1, .inl (cJ1, 60, .inr (.inl o0_437))), (n2, .inl (cJ2, 60, .inr (.inl g2))), (n3, .inl (cJ3, 60, .inr (.inl g3)))] := hD
                    have hK : va_K (dC, dI) vwCl [(cS, .object RX3), (cJ0, .long), (cJ1, .long), (cJ2, .long), (cJ3, .long)] s := hK
                    refine lv_iconst (v := 0) hx hb dX9_paste_108 (by decide) ?_
                    have hP9 := hP.sub (ws' := [(h0, .inr (7, [.ref tp, .ref sc, .ref rd, .ref cu, .ref im, .ref ig, .ref sl, .ref se, .ref sm, .ref fc])), (sl, .inl (cS, 4, .inr (.inr (.inr (.inr (sf4 s0 s1 s2 s3)))))), (s0, .inr (2, [.int wd0, .int rz0, .ref n0])), (s1, .inr (2, [.int wd1, .int rz1, .ref n1])), (s2, .inr (2, [.int wd2, .int rz2, .ref n2])), (s3, .inr (2, [.int wd3, .int rz3, .ref n3])), (n0, .inl (cJ0, 60, .inr (.inl g0))), (n1, .inl (cJ1, 60, .inr (.inl o0_437))), (n2, .inl (cJ2, 60, .inr (.inl g2))), (n3, .inl (cJ3, 60, .inr (.inl g3)))]) [0, 1, 2, 3, 4, 5, 6, 7, 8, 9] rfl
                    have hD9 := hD.sub (ws' := [(h0, .inr (7, [.ref tp, .ref sc, .ref rd, .ref cu, .ref im, .ref ig, .ref sl, .ref se, .ref sm, .ref fc])), (sl, .inl (cS, 4, .inr (.inr (.inr (.inr (sf4 s0 s1 s2 s3)))))), (s0, .inr (2, [.int wd0, .int rz0, .ref n0])), (s1, .inr (2, [.int wd1, .int rz1, .ref n1])), (s2, .inr (2, [.int wd2, .int rz2, .ref n2])), (s3, .inr (2, [.int wd3, .int rz3, .ref n3])), (n0, .inl (cJ0, 60, .inr (.inl g0))), (n1, .inl (cJ1, 60, .inr (.inl o0_437))), (n2, .inl (cJ2, 60, .inr (.inl g2))), (n3, .inl (cJ3, 60, .inr (.inl g3)))]) [0, 1, 2, 3, 4, 5, 6, 7, 8, 9] (by decide) rfl
                    have hK9 := hK.sub (tys' := [(cS, .object RX3), (cJ0, .long), (cJ1, .long), (cJ2, .long), (cJ3, .long)]) [0, 1, 2, 3, 4] rfl
                    exact W.iret (v := 0) hx hb hr (fun t ht hW => ⟨⟨0, (), rfl, (rg_w (by decide : (0 : Int) ≤ (0 : Int32).toInt ∧ (0 : Int32).toInt ≤ 0) (by decide) (by decide)), g0, o0_437, g2, g3, by rw [ht]; exact hP9, va_K.moved hW.alike hK9, hD9⟩, hS.F ht⟩) hS.2.2 dX9_paste_109
                  ·
                    have n_c_433 : (r_432.toInt : Int) = 0 := c_eq rfl (by decide) c_433
                    have b_r_432 : (0 : Int) ≤ r_432.toInt ∧ r_432.toInt ≤ 0 := r_eq1 b_r_432 (by decide : (0 : Int) ≤ (0 : Int32).toInt ∧ (0 : Int32).toInt ≤ 0) n_c_433 (by decide)
                    refine lv_bipush (v := (-7)) hx hb dX9_paste_93 (by decide) ?_
                    have hP9 := hP.sub (ws' := [(h0, .inr (7, [.ref tp, .ref sc, .ref rd, .ref cu, .ref im, .ref ig, .ref sl, .ref se, .ref sm, .ref fc])), (sl, .inl (cS, 4, .inr (.inr (.inr (.inr (sf4 s0 s1 s2 s3)))))), (s0, .inr (2, [.int wd0, .int rz0, .ref n0])), (s1, .inr (2, [.int wd1, .int rz1, .ref n1])), (s2, .inr (2, [.int wd2, .int rz2, .ref n2])), (s3, .inr (2, [.int wd3, .int rz3, .ref n3])), (n0, .inl (cJ0, 60, .inr (.inl g0))), (n1, .inl (cJ1, 60, .inr (.inl g1))), (n2, .inl (cJ2, 60, .inr (.inl g2))), (n3, .inl (cJ3, 60, .inr (.inl g3)))]) [0, 1, 2, 3, 4, 5, 6, 7, 8, 9] rfl
                    have hD9 := hD.sub (ws' := [(h0, .inr (7, [.ref tp, .ref sc, .ref rd, .ref cu, .ref im, .ref ig, .ref sl, .ref se, .ref sm, .ref fc])), (sl, .inl (cS, 4, .inr (.inr (.inr (.inr (sf4 s0 s1 s2 s3)))))), (s0, .inr (2, [.int wd0, .int rz0, .ref n0])), (s1, .inr (2, [.int wd1, .int rz1, .ref n1])), (s2, .inr (2, [.int wd2, .int rz2, .ref n2])), (s3, .inr (2, [.int wd3, .int rz3, .ref n3])), (n0, .inl (cJ0, 60, .inr (.inl g0))), (n1, .inl (cJ1, 60, .inr (.inl g1))), (n2, .inl (cJ2, 60, .inr (.inl g2))), (n3, .inl (cJ3, 60, .inr (.inl g3)))]) [0, 1, 2, 3, 4, 5, 6, 7, 8, 9] (by decide) rfl
                    have hK9 := hK.sub (tys' := [(cS, .object RX3), (cJ0, .long), (cJ1, .long), (cJ2, .long), (cJ3, .long)]) [0, 1, 2, 3, 4] rfl
                    exact W.iret (v := (-7)) hx hb hr (fun t ht hW => ⟨⟨(-7), (), rfl, (rg_w (by decide : (-7 : Int) ≤ ((-7) : Int32).toInt ∧ ((-7) : Int32).toInt ≤ -7) (by decide) (by decide)), g0, g1, g2, g3, by rw [ht]; exact hP9, va_K.moved hW.alike hK9, hD9⟩, hS.F ht⟩) hS.2.2 dX9_paste_95
              ·
                have n_c_428 : (wd2.toInt : Int) ≠ wd1.toInt := c_ne rfl rfl c_428
                refine lv_bipush (v := (-8)) hx hb dX9_paste_67 (by decide) ?_
                have hP9 := hP.sub (ws' := [(h0, .inr (7, [.ref tp, .ref sc, .ref rd, .ref cu, .ref im, .ref ig, .ref sl, .ref se, .ref sm, .ref fc])), (sl, .inl (cS, 4, .inr (.inr (.inr (.inr (sf4 s0 s1 s2 s3)))))), (s0, .inr (2, [.int wd0, .int rz0, .ref n0])), (s1, .inr (2, [.int wd1, .int rz1, .ref n1])), (s2, .inr (2, [.int wd2, .int rz2, .ref n2])), (s3, .inr (2, [.int wd3, .int rz3, .ref n3])), (n0, .inl (cJ0, 60, .inr (.inl g0))), (n1, .inl (cJ1, 60, .inr (.inl g1))), (n2, .inl (cJ2, 60, .inr (.inl g2))), (n3, .inl (cJ3, 60, .inr (.inl g3)))]) [0, 1, 2, 3, 4, 5, 6, 7, 8, 9] rfl
                have hD9 := hD.sub (ws' := [(h0, .inr (7, [.ref tp, .ref sc, .ref rd, .ref cu, .ref im, .ref ig, .ref sl, .ref se, .ref sm, .ref fc])), (sl, .inl (cS, 4, .inr (.inr (.inr (.inr (sf4 s0 s1 s2 s3)))))), (s0, .inr (2, [.int wd0, .int rz0, .ref n0])), (s1, .inr (2, [.int wd1, .int rz1, .ref n1])), (s2, .inr (2, [.int wd2, .int rz2, .ref n2])), (s3, .inr (2, [.int wd3, .int rz3, .ref n3])), (n0, .inl (cJ0, 60, .inr (.inl g0))), (n1, .inl (cJ1, 60, .inr (.inl g1))), (n2, .inl (cJ2, 60, .inr (.inl g2))), (n3, .inl (cJ3, 60, .inr (.inl g3)))]) [0, 1, 2, 3, 4, 5, 6, 7, 8, 9] (by decide) rfl
                have hK9 := hK.sub (tys' := [(cS, .object RX3), (cJ0, .long), (cJ1, .long), (cJ2, .long), (cJ3, .long)]) [0, 1, 2, 3, 4] rfl
                exact W.iret (v := (-8)) hx hb hr (fun t ht hW => ⟨⟨(-8), (), rfl, (rg_w (by decide : (-8 : Int) ≤ ((-8) : Int32).toInt ∧ ((-8) : Int32).toInt ≤ -8) (by decide) (by decide)), g0, g1, g2, g3, by rw [ht]; exact hP9, va_K.moved hW.alike hK9, hD9⟩, hS.F ht⟩) hS.2.2 dX9_paste_69
            ·
              have n_c_426 : (r_425.toInt : Int) = 0 := c_eq rfl (by decide) c_426
              have b_r_425 : (0 : Int) ≤ r_425.toInt ∧ r_425.toInt ≤ 0 := r_eq1 b_r_425 (by decide : (0 : Int) ≤ (0 : Int32).toInt ∧ (0 : Int32).toInt ≤ 0) n_c_426 (by decide)
              refine lv_bipush (v := (-6)) hx hb dX9_paste_51 (by decide) ?_
              have hP9 := hP.sub (ws' := [(h0, .inr (7, [.ref tp, .ref sc, .ref rd, .ref cu, .ref im, .ref ig, .ref sl, .ref se, .ref sm, .ref fc])), (sl, .inl (cS, 4, .inr (.inr (.inr (.inr (sf4 s0 s1 s2 s3)))))), (s0, .inr (2, [.int wd0, .int rz0, .ref n0])), (s1, .inr (2, [.int wd1, .int rz1, .ref n1])), (s2, .inr (2, [.int wd2, .int rz2, .ref n2])), (s3, .inr (2, [.int wd3, .int rz3, .ref n3])), (n0, .inl (cJ0, 60, .inr (.inl g0))), (n1, .inl (cJ1, 60, .inr (.inl g1))), (n2, .inl (cJ2, 60, .inr (.inl g2))), (n3, .inl (cJ3, 60, .inr (.inl g3)))]) [0, 1, 2, 3, 4, 5, 6, 7, 8, 9] rfl
              have hD9 := hD.sub (ws' := [(h0, .inr (7, [.ref tp, .ref sc, .ref rd, .ref cu, .ref im, .ref ig, .ref sl, .ref se, .ref sm, .ref fc])), (sl, .inl (cS, 4, .inr (.inr (.inr (.inr (sf4 s0 s1 s2 s3)))))), (s0, .inr (2, [.int wd0, .int rz0, .ref n0])), (s1, .inr (2, [.int wd1, .int rz1, .ref n1])), (s2, .inr (2, [.int wd2, .int rz2, .ref n2])), (s3, .inr (2, [.int wd3, .int rz3, .ref n3])), (n0, .inl (cJ0, 60, .inr (.inl g0))), (n1, .inl (cJ1, 60, .inr (.inl g1))), (n2, .inl (cJ2, 60, .inr (.inl g2))), (n3, .inl (cJ3, 60, .inr (.inl g3)))]) [0, 1, 2, 3, 4, 5, 6, 7, 8, 9] (by decide) rfl
              have hK9 := hK.sub (tys' := [(cS, .object RX3), (cJ0, .long), (cJ1, .long), (cJ2, .long), (cJ3, .long)]) [0, 1, 2, 3, 4] rfl
              exact W.iret (v := (-6)) hx hb hr (fun t ht hW => ⟨⟨(-6), (), rfl, (rg_w (by decide : (-6 : Int) ≤ ((-6) : Int32).toInt ∧ ((-6) : Int32).toInt ≤ -6) (by decide) (by decide)), g0, g1, g2, g3, by rw [ht]; exact hP9, va_K.moved hW.alike hK9, hD9⟩, hS.F ht⟩) hS.2.2 dX9_paste_53
        ·
          obtain rfl : a3 = 2 := Int32.toInt_inj.mp (h_405.trans (by decide))
          refine va_aldq hx hb hK hP 1 0 rfl rfl (vp_in_b (by decide : (2 : Int) ≤ (2 : Int32).toInt ∧ (2 : Int32).toInt ≤ 2) (by decide) (by decide)) dX9_paste_32 ?_
          refine W.eq (g2 := F0 m 33 ls (.ref s2 :: [])) (congrArg (fun v => F0 m 33 ls (va_rf v :: [])) (sf4_2 s0 s1 s2 s3)) ?_
          refine lv_astore (lv' := [(7, .ref s2), (6, .ref s2), (0, .ref h0), (1, .int 2), (2, .int a2), (3, .int 2), (4, .int a4), (5, .int a5)]) hx hb dX9_paste_33 hl (by decide) rfl (fun ls hl => ?_)
          refine lv_aload hx hb dX9_paste_35 (lv_at hl 1 rfl) ?_
          refine vp_callSi (W.runV (As := []) (rest := []) ⟨hx, hb, hml, hown, hts⟩ (kX3_stands l dC dI s2 wd2 rz2 n2 b_wd2 b_rz2) (cwV 0 hts gX9_paste__X3_stands_V270 rfl rfl rfl hd_yX3_stands ⟨lel 1 2 rfl, lel 20 88 rfl⟩) ⟨pw_fb, rcv_X3 hK hP (q0 := 4) rfl, (pw_use hP hK hN [4] rfl [] rfl)⟩ rfl rfl hl.1 rfl (lv_room (Nat.le_of_ble_eq_true rfl)) dX9_paste_37 ⟨lel 0 0 rfl, lel 0 0 rfl⟩) (fun r_438 h_r_438 => ?_)
          obtain ⟨b_r_438, nz_r_438⟩ := h_r_438
          have b_r_438 : (0 : Int) ≤ r_438.toInt ∧ r_438.toInt ≤ 1 := b_r_438
          refine lv_if_eq (tgt := 51) hx hb dX9_paste_40 (by decide) (fun c_439 => ?_) (fun c_439 => ?_)
          ·
            have n_c_439 : (r_438.toInt : Int) = 0 := c_eq rfl (by decide) c_439
            have b_r_438 : (0 : Int) ≤ r_438.toInt ∧ r_438.toInt ≤ 0 := r_eq1 b_r_438 (by decide : (0 : Int) ≤ (0 : Int32).toInt ∧ (0 : Int32).toInt ≤ 0) n_c_439 (by decide)
            refine lv_bipush (v := (-6)) hx hb dX9_paste_51 (by decide) ?_
            have hP9 := hP.sub (ws' := [(h0, .inr (7, [.ref tp, .ref sc, .ref rd, .ref cu, .ref im, .ref ig, .ref sl, .ref se, .ref sm, .ref fc])), (sl, .inl (cS, 4, .inr (.inr (.inr (.inr (sf4 s0 s1 s2 s3)))))), (s0, .inr (2, [.int wd0, .int rz0, .ref n0])), (s1, .inr (2, [.int wd1, .int rz1, .ref n1])), (s2, .inr (2, [.int wd2, .int rz2, .ref n2])), (s3, .inr (2, [.int wd3, .int rz3, .ref n3])), (n0, .inl (cJ0, 60, .inr (.inl g0))), (n1, .inl (cJ1, 60, .inr (.inl g1))), (n2, .inl (cJ2, 60, .inr (.inl g2))), (n3, .inl (cJ3, 60, .inr (.inl g3)))]) [0, 1, 2, 3, 4, 5, 6, 7, 8, 9] rfl
            have hD9 := hD.sub (ws' := [(h0, .inr (7, [.ref tp, .ref sc, .ref rd, .ref cu, .ref im, .ref ig, .ref sl, .ref se, .ref sm, .ref fc])), (sl, .inl (cS, 4, .inr (.inr (.inr (.inr (sf4 s0 s1 s2 s3)))))), (s0, .inr (2, [.int wd0, .int rz0, .ref n0])), (s1, .inr (2, [.int wd1, .int rz1, .ref n1])), (s2, .inr (2, [.int wd2, .int rz2, .ref n2])), (s3, .inr (2, [.int wd3, .int rz3, .ref n3])), (n0, .inl (cJ0, 60, .inr (.inl g0))), (n1, .inl (cJ1, 60, .inr (.inl g1))), (n2, .inl (cJ2, 60, .inr (.inl g2))), (n3, .inl (cJ3, 60, .inr (.inl g3)))]) [0, 1, 2, 3, 4, 5, 6, 7, 8, 9] (by decide) rfl
            have hK9 := hK.sub (tys' := [(cS, .object RX3), (cJ0, .long), (cJ1, .long), (cJ2, .long), (cJ3, .long)]) [0, 1, 2, 3, 4] rfl
            exact W.iret (v := (-6)) hx hb hr (fun t ht hW => ⟨⟨(-6), (), rfl, (rg_w (by decide : (-6 : Int) ≤ ((-6) : Int32).toInt ∧ ((-6) : Int32).toInt ≤ -6) (by decide) (by decide)), g0, g1, g2, g3, by rw [ht]; exact hP9, va_K.moved hW.alike hK9, hD9⟩, hS.F ht⟩) hS.2.2 dX9_paste_53
          ·
            have n_c_439 : (r_438.toInt : Int) ≠ 0 := c_ne rfl (by decide) c_439
            have b_r_438 : (1 : Int) ≤ r_438.toInt ∧ r_438.toInt ≤ 1 := r_ne1 b_r_438 (by decide : (0 : Int) ≤ (0 : Int32).toInt ∧ (0 : Int32).toInt ≤ 0) n_c_439 (by decide)
            obtain ⟨b_wd2, g_440⟩ := nz_r_438 c_439
            refine lv_aload hx hb dX9_paste_43 (lv_at hl 0 rfl) ?_
            refine vp_callSi (W.runV (As := []) (rest := []) ⟨hx, hb, hml, hown, hts⟩ (kX3_stands l dC dI s2 wd2 rz2 n2 (rg_w b_wd2 (by decide) (by decide)) b_rz2) (cwV 0 hts gX9_paste__X3_stands_V270 rfl rfl rfl hd_yX3_stands ⟨lel 1 2 rfl, lel 20 88 rfl⟩) ⟨pw_fb, rcv_X3 hK hP (q0 := 4) rfl, (pw_use hP hK hN [4] rfl [] rfl)⟩ rfl rfl hl.1 rfl (lv_room (Nat.le_of_ble_eq_true rfl)) dX9_paste_45 ⟨lel 0 0 rfl, lel 0 0 rfl⟩) (fun r_441 h_r_441 => ?_)
            obtain ⟨b_r_441, nz_r_441⟩ := h_r_441
            have b_r_441 : (0 : Int) ≤ r_441.toInt ∧ r_441.toInt ≤ 1 := b_r_441
            refine lv_if_ne (tgt := 54) hx hb dX9_paste_48 (by decide) (fun c_442 => ?_) (fun c_442 => ?_)
            ·
              have n_c_442 : (r_441.toInt : Int) ≠ 0 := c_ne rfl (by decide) c_442
              have b_r_441 : (1 : Int) ≤ r_441.toInt ∧ r_441.toInt ≤ 1 := r_ne1 b_r_441 (by decide : (0 : Int) ≤ (0 : Int32).toInt ∧ (0 : Int32).toInt ≤ 0) n_c_442 (by decide)
              obtain ⟨b_wd2, g_443⟩ := nz_r_441 c_442
              refine lv_aload hx hb dX9_paste_54 (lv_at hl 1 rfl) ?_
              refine va_getN (own := RX9) (index := 350) (ref := RX3) (host := RX9) (D := (dC, dI)) (ci := 2) (v := .int wd2) (C := RX3) (T := TX3) (N := 3) hx hb hts iX9_paste_X3 hown hK hP 4 rfl rfl 0 (by decide) (va_Nw.use rfl (hN _ (List.mem_of_getElem? (i := 21) rfl))) (fun _ h9 => h9) rfl dX9_paste_56 ?_
              refine lv_aload hx hb dX9_paste_59 (lv_at hl 0 rfl) ?_
              refine va_getN (own := RX9) (index := 350) (ref := RX3) (host := RX9) (D := (dC, dI)) (ci := 2) (v := .int wd2) (C := RX3) (T := TX3) (N := 3) hx hb hts iX9_paste_X3 hown hK hP 4 rfl rfl 0 (by decide) (va_Nw.use rfl (hN _ (List.mem_of_getElem? (i := 21) rfl))) (fun _ h9 => h9) rfl dX9_paste_61 ?_
              refine lv_icmp_eq (tgt := 70) hx hb dX9_paste_64 (by decide) (fun c_444 => ?_) (fun c_444 => ?_)
              ·
                have n_c_444 : (wd2.toInt : Int) = wd2.toInt := c_eq rfl rfl c_444
                refine lv_aload hx hb dX9_paste_70 (lv_at hl 1 rfl) ?_
                refine lv_iload_n hx hb dX9_paste_72 rfl (lv_at hl 4 rfl) ?_
                refine lv_iload hx hb dX9_paste_73 (lv_at hl 7 rfl) ?_
                refine vp_callSi (W.runV (As := [.int a2, .int a5]) (rest := []) ⟨hx, hb, hml, hown, hts⟩ (kX3_hasStretch l dC dI s2 wd2 rz2 n2 a2 a5 (rg_w b_wd2 (by decide) (by decide)) b_rz2) (cwV 2 hts gX9_paste__X3_hasStretch_V343 rfl rfl rfl hd_yX3_hasStretch ⟨lel 1 2 rfl, lel 22 88 rfl⟩) ⟨pw_fb, rcv_X3 hK hP (q0 := 4) rfl, (pw_use hP hK hN [4] rfl [] rfl)⟩ rfl rfl hl.1 rfl (lv_room (Nat.le_of_ble_eq_true rfl)) dX9_paste_75 ⟨lel 0 0 rfl, lel 0 0 rfl⟩) (fun r_445 h_r_445 => ?_)
                obtain ⟨b_r_445, nz_r_445⟩ := h_r_445
                have b_r_445 : (0 : Int) ≤ r_445.toInt ∧ r_445.toInt ≤ 1 := b_r_445
                refine lv_if_eq (tgt := 93) hx hb dX9_paste_78 (by decide) (fun c_446 => ?_) (fun c_446 => ?_)
                ·
                  have n_c_446 : (r_445.toInt : Int) = 0 := c_eq rfl (by decide) c_446
                  have b_r_445 : (0 : Int) ≤ r_445.toInt ∧ r_445.toInt ≤ 0 := r_eq1 b_r_445 (by decide : (0 : Int) ≤ (0 : Int32).toInt ∧ (0 : Int32).toInt ≤ 0) n_c_446 (by decide)
                  refine lv_bipush (v := (-7)) hx hb dX9_paste_93 (by decide) ?_
                  have hP9 := hP.sub (ws' := [(h0, .inr (7, [.ref tp, .ref sc, .ref rd, .ref cu, .ref im, .ref ig, .ref sl, .ref se, .ref sm, .ref fc])), (sl, .inl (cS, 4, .inr (.inr (.inr (.inr (sf4 s0 s1 s2 s3)))))), (s0, .inr (2, [.int wd0, .int rz0, .ref n0])), (s1, .inr (2, [.int wd1, .int rz1, .ref n1])), (s2, .inr (2, [.int wd2, .int rz2, .ref n2])), (s3, .inr (2, [.int wd3, .int rz3, .ref n3])), (n0, .inl (cJ0, 60, .inr (.inl g0))), (n1, .inl (cJ1, 60, .inr (.inl g1))), (n2, .inl (cJ2, 60, .inr (.inl g2))), (n3, .inl (cJ3, 60, .inr (.inl g3)))]) [0, 1, 2, 3, 4, 5, 6, 7, 8, 9] rfl
                  have hD9 := hD.sub (ws' := [(h0, .inr (7, [.ref tp, .ref sc, .ref rd, .ref cu, .ref im, .ref ig, .ref sl, .ref se, .ref sm, .ref fc])), (sl, .inl (cS, 4, .inr (.inr (.inr (.inr (sf4 s0 s1 s2 s3)))))), (s0, .inr (2, [.int wd0, .int rz0, .ref n0])), (s1, .inr (2, [.int wd1, .int rz1, .ref n1])), (s2, .inr (2, [.int wd2, .int rz2, .ref n2])), (s3, .inr (2, [.int wd3, .int rz3, .ref n3])), (n0, .inl (cJ0, 60, .inr (.inl g0))), (n1, .inl (cJ1, 60, .inr (.inl g1))), (n2, .inl (cJ2, 60, .inr (.inl g2))), (n3, .inl (cJ3, 60, .inr (.inl g3)))]) [0, 1, 2, 3, 4, 5, 6, 7, 8, 9] (by decide) rfl
                  have hK9 := hK.sub (tys' := [(cS, .object RX3), (cJ0, .long), (cJ1, .long), (cJ2, .long), (cJ3, .long)]) [0, 1, 2, 3, 4] rfl
                  exact W.iret (v := (-7)) hx hb hr (fun t ht hW => ⟨⟨(-7), (), rfl, (rg_w (by decide : (-7 : Int) ≤ ((-7) : Int32).toInt ∧ ((-7) : Int32).toInt ≤ -7) (by decide) (by decide)), g0, g1, g2, g3, by rw [ht]; exact hP9, va_K.moved hW.alike hK9, hD9⟩, hS.F ht⟩) hS.2.2 dX9_paste_95
                ·
                  have n_c_446 : (r_445.toInt : Int) ≠ 0 := c_ne rfl (by decide) c_446
                  have b_r_445 : (1 : Int) ≤ r_445.toInt ∧ r_445.toInt ≤ 1 := r_ne1 b_r_445 (by decide : (0 : Int) ≤ (0 : Int32).toInt ∧ (0 : Int32).toInt ≤ 0) n_c_446 (by decide)
                  obtain ⟨b_a2, b_a5, g_447⟩ := nz_r_445 c_446
                  refine lv_aload hx hb dX9_paste_81 (lv_at hl 0 rfl) ?_
                  refine lv_iload hx hb dX9_paste_83 (lv_at hl 6 rfl) ?_
                  refine lv_iload hx hb dX9_paste_85 (lv_at hl 7 rfl) ?_
                  refine vp_callSi (W.runV (As := [.int a4, .int a5]) (rest := []) ⟨hx, hb, hml, hown, hts⟩ (kX3_hasStretch l dC dI s2 wd2 rz2 n2 a4 a5 (rg_w b_wd2 (by decide) (by decide)) b_rz2) (cwV 2 hts gX9_paste__X3_hasStretch_V343 rfl rfl rfl hd_yX3_hasStretch ⟨lel 1 2 rfl, lel 22 88 rfl⟩) ⟨pw_fb, rcv_X3 hK hP (q0 := 4) rfl, (pw_use hP hK hN [4] rfl [] rfl)⟩ rfl rfl hl.1 rfl (lv_room (Nat.le_of_ble_eq_true rfl)) dX9_paste_87 ⟨lel 0 0 rfl, lel 0 0 rfl⟩) (fun r_448 h_r_448 => ?_)
                  obtain ⟨b_r_448, nz_r_448⟩ := h_r_448
                  have b_r_448 : (0 : Int) ≤ r_448.toInt ∧ r_448.toInt ≤ 1 := b_r_448
                  refine lv_if_ne (tgt := 96) hx hb dX9_paste_90 (by decide) (fun c_449 => ?_) (fun c_449 => ?_)
                  ·
                    have n_c_449 : (r_448.toInt : Int) ≠ 0 := c_ne rfl (by decide) c_449
                    have b_r_448 : (1 : Int) ≤ r_448.toInt ∧ r_448.toInt ≤ 1 := r_ne1 b_r_448 (by decide : (0 : Int) ≤ (0 : Int32).toInt ∧ (0 : Int32).toInt ≤ 0) n_c_449 (by decide)
                    obtain ⟨b_a4, b_a5, g_450⟩ := nz_r_448 c_449
                    refine lv_aload hx hb dX9_paste_96 (lv_at hl 0 rfl) ?_
                    refine lv_iload hx hb dX9_paste_98 (lv_at hl 6 rfl) ?_
                    refine lv_aload hx hb dX9_paste_100 (lv_at hl 1 rfl) ?_
                    refine lv_iload_n hx hb dX9_paste_102 rfl (lv_at hl 4 rfl) ?_
                    refine lv_iload hx hb dX9_paste_103 (lv_at hl 7 rfl) ?_
                    have hFc := va_free (wc := [(s2, .inr (2, [.int wd2, .int rz2, .ref n2])), (n2, .inl (cJ2, 60, .inr (.inl g2)))]) hD hS hA [4, 8] rfl
                    refine va_callv (va_runV (As := [.int a4, .ref s2, .int a2, .int a5]) (rest := []) ⟨hx, hb, hml, hown, hts⟩ (kX3_takeS l dC dI s2 wd2 rz2 n2 cJ2 g2 a4 a2 a5 (s.heap.size) (rg_w b_wd2 (by decide) (by decide)) b_rz2) (cwV 4 hts gX9_paste__X3_takeS_V353 rfl rfl rfl hd_yX3_take ⟨lel 2 2 rfl, lel 88 88 rfl⟩) ⟨hw_fb, rcv_X3 hK hP (q0 := 4) rfl, (hw_use hP hD hK hN [4, 8] rfl (by decide) rfl [3] rfl)⟩ rfl rfl hl.1 rfl (lv_room (Nat.le_of_ble_eq_true rfl)) dX9_paste_105 ⟨lel 0 0 rfl, lel 0 0 rfl⟩) hS (fun q _ h => hFc q h) hFc (fun u_452 t H1 locs ht hvm hw_r_451 hB hz1 hk1 hS => ?_)
                    obtain ⟨o0_453, hP1, hK1, hD1⟩ := hB
                    rw [ht] at hP1
                    have hK1 := va_K.moved hvm.symm hK1
                    obtain ⟨hP, hD⟩ := va_join (wr := [(h0, .inr (7, [.ref tp, .ref sc, .ref rd, .ref cu, .ref im, .ref ig, .ref sl, .ref se, .ref sm, .ref fc])), (sl, .inl (cS, 4, .inr (.inr (.inr (.inr (sf4 s0 s1 s2 s3)))))), (s0, .inr (2, [.int wd0, .int rz0, .ref n0])), (s1, .inr (2, [.int wd1, .int rz1, .ref n1])), (s3, .inr (2, [.int wd3, .int rz3, .ref n3])), (n0, .inl (cJ0, 60, .inr (.inl g0))), (n1, .inl (cJ1, 60, .inr (.inl g1))), (n3, .inl (cJ3, 60, .inr (.inl g3)))]) (w1 := [(s2, .inr (2, [.int wd2, .int rz2, .ref n2])), (n2, .inl (cJ2, 60, .inr (.inl o0_453)))]) hP hD [4, 8] [0, 1, 2, 3, 5, 6, 7, 9] rfl rfl (by decide) (by decide) hk1 hFc hP1 hD1
                    have hK := (hK.sub (tys' := [(cS, .object RX3), (cJ0, .long), (cJ1, .long), (cJ3, .long)]) [0, 1, 2, 4] rfl).app hK1
                    generalize H1 = H at hP hS ⊢
                    have hP := hP.sub (ws' := [(h0, .inr (7, [.ref tp, .ref sc, .ref rd, .ref cu, .ref im, .ref ig, .ref sl, .ref se, .ref sm, .ref fc])), (sl, .inl (cS, 4, .inr (.inr (.inr (.inr (sf4 s0 s1 s2 s3)))))), (s0, .inr (2, [.int wd0, .int rz0, .ref n0])), (s1, .inr (2, [.int wd1, .int rz1, .ref n1])), (s2, .inr (2, [.int wd2, .int rz2, .ref n2])), (s3, .inr (2, [.int wd3, .int rz3, .ref n3])), (n0, .inl (cJ0, 60, .inr (.inl g0))), (n1, .inl (cJ1, 60, .inr (.inl g1))), (n2, .inl (cJ2, 60, .inr (.inl o0_453))), (n3, .inl (cJ3, 60, .inr (.inl g3)))]) [0, 1, 2, 3, 8, 4, 5, 6, 9, 7] rfl
                    have hD := hD.sub (ws' := [(h0, .inr (7, [.ref tp, .ref sc, .ref rd, .ref cu, .ref im, .ref ig, .ref sl, .ref se, .ref sm, .ref fc])), (sl, .inl (cS, 4, .inr (.inr (.inr (.inr (sf4 s0 s1 s2 s3)))))), (s0, .inr (2, [.int wd0, .int rz0, .ref n0])), (s1, .inr (2, [.int wd1, .int rz1, .ref n1])), (s2, .inr (2, [.int wd2, .int rz2, .ref n2])), (s3, .inr (2, [.int wd3, .int rz3, .ref n3])), (n0, .inl (cJ0, 60, .inr (.inl g0))), (n1, .inl (cJ1, 60, .inr (.inl g1))), (n2, .inl (cJ2, 60, .inr (.inl o0_453))), (n3, .inl (cJ3, 60, .inr (.inl g3)))]) [0, 1, 2, 3, 8, 4, 5, 6, 9, 7] (by decide) rfl
                    have hK := hK.sub (tys' := [(cS, .object RX3), (cJ0, .long), (cJ1, .long), (cJ2, .long), (cJ3, .long)]) [0, 1, 2, 4, 3] rfl
                    have hP : va_P (dC, dI) vwCl [(h0, .inr (7, [.ref tp, .ref sc, .ref rd, .ref cu, .ref im, .ref ig, .ref sl, .ref se, .ref sm, .ref fc])), (sl, .inl (cS, 4, .inr (.inr (.inr (.inr (sf4 s0 s1 s2 s3)))))), (s0, .inr (2, [.int wd0, .int rz0, .ref n0])), (s1, .inr (2, [.int wd1, .int rz1, .ref n1])), (s2, .inr (2, [.int wd2, .int rz2, .ref n2])), (s3, .inr (2, [.int wd3, .int rz3, .ref n3])), (n0, .inl (cJ0, 60, .inr (.inl g0))), (n1, .inl (cJ1, 60, .inr (.inl g1))), (n2, .inl (cJ2, 60, .inr (.inl o0_453))), (n3, .inl (cJ3, 60, .inr (.inl g3)))] H := hP
                    have hD : va_D A [(h0, .inr (7, [.ref tp, .ref sc, .ref rd, .ref cu, .ref im, .ref ig, .ref sl, .ref se, .ref sm, .ref fc])), (sl, .inl (cS, 4, .inr (.inr (.inr (.inr (sf4 s0 s1 s2 s3)))))), (s0, .inr (2, [.int wd0, .int rz0, .ref n0])), (s1, .inr (2, [.int wd1, .int rz1, .ref n1])), (s2, .inr (2, [.int wd2, .int rz2, .ref n2])), (s3, .inr (2, [.int wd3, .int rz3, .ref n3])), (n0, .inl (cJ0, 60, .inr (.inl g0))), (n1, .inl (cJ1, 60, .inr (.inl g1))), (n2, .inl (cJ2, 60, .inr (.inl o0_453))), (n3, .inl (cJ3, 60, .inr (.inl g3)))] := hD
                    have hK : va_K (dC, dI) vwCl [(cS, .object RX3), (cJ0, .long), (cJ1, .long), (cJ2, .long), (cJ3, .long)] s := hK
                    refine lv_iconst (v := 0) hx hb dX9_paste_108 (by decide) ?_
                    have hP9 := hP.sub (ws' := [(h0, .inr (7, [.ref tp, .ref sc, .ref rd, .ref cu, .ref im, .ref ig, .ref sl, .ref se, .ref sm, .ref fc])), (sl, .inl (cS, 4, .inr (.inr (.inr (.inr (sf4 s0 s1 s2 s3)))))), (s0, .inr (2, [.int wd0, .int rz0, .ref n0])), (s1, .inr (2, [.int wd1, .int rz1, .ref n1])), (s2, .inr (2, [.int wd2, .int rz2, .ref n2])), (s3, .inr (2, [.int wd3, .int rz3, .ref n3])), (n0, .inl (cJ0, 60, .inr (.inl g0))), (n1, .inl (cJ1, 60, .inr (.inl g1))), (n2, .inl (cJ2, 60, .inr (.inl o0_453))), (n3, .inl (cJ3, 60, .inr (.inl g3)))]) [0, 1, 2, 3, 4, 5, 6, 7, 8, 9] rfl
                    have hD9 := hD.sub (ws' := [(h0, .inr (7, [.ref tp, .ref sc, .ref rd, .ref cu, .ref im, .ref ig, .ref sl, .ref se, .ref sm, .ref fc])), (sl, .inl (cS, 4, .inr (.inr (.inr (.inr (sf4 s0 s1 s2 s3)))))), (s0, .inr (2, [.int wd0, .int rz0, .ref n0])), (s1, .inr (2, [.int wd1, .int rz1, .ref n1])), (s2, .inr (2, [.int wd2, .int rz2, .ref n2])), (s3, .inr (2, [.int wd3, .int rz3, .ref n3])), (n0, .inl (cJ0, 60, .inr (.inl g0))), (n1, .inl (cJ1, 60, .inr (.inl g1))), (n2, .inl (cJ2, 60, .inr (.inl o0_453))), (n3, .inl (cJ3, 60, .inr (.inl g3)))]) [0, 1, 2, 3, 4, 5, 6, 7, 8, 9] (by decide) rfl
                    have hK9 := hK.sub (tys' := [(cS, .object RX3), (cJ0, .long), (cJ1, .long), (cJ2, .long), (cJ3, .long)]) [0, 1, 2, 3, 4] rfl
                    exact W.iret (v := 0) hx hb hr (fun t ht hW => ⟨⟨0, (), rfl, (rg_w (by decide : (0 : Int) ≤ (0 : Int32).toInt ∧ (0 : Int32).toInt ≤ 0) (by decide) (by decide)), g0, g1, o0_453, g3, by rw [ht]; exact hP9, va_K.moved hW.alike hK9, hD9⟩, hS.F ht⟩) hS.2.2 dX9_paste_109
                  ·
                    have n_c_449 : (r_448.toInt : Int) = 0 := c_eq rfl (by decide) c_449
                    have b_r_448 : (0 : Int) ≤ r_448.toInt ∧ r_448.toInt ≤ 0 := r_eq1 b_r_448 (by decide : (0 : Int) ≤ (0 : Int32).toInt ∧ (0 : Int32).toInt ≤ 0) n_c_449 (by decide)
                    refine lv_bipush (v := (-7)) hx hb dX9_paste_93 (by decide) ?_
                    have hP9 := hP.sub (ws' := [(h0, .inr (7, [.ref tp, .ref sc, .ref rd, .ref cu, .ref im, .ref ig, .ref sl, .ref se, .ref sm, .ref fc])), (sl, .inl (cS, 4, .inr (.inr (.inr (.inr (sf4 s0 s1 s2 s3)))))), (s0, .inr (2, [.int wd0, .int rz0, .ref n0])), (s1, .inr (2, [.int wd1, .int rz1, .ref n1])), (s2, .inr (2, [.int wd2, .int rz2, .ref n2])), (s3, .inr (2, [.int wd3, .int rz3, .ref n3])), (n0, .inl (cJ0, 60, .inr (.inl g0))), (n1, .inl (cJ1, 60, .inr (.inl g1))), (n2, .inl (cJ2, 60, .inr (.inl g2))), (n3, .inl (cJ3, 60, .inr (.inl g3)))]) [0, 1, 2, 3, 4, 5, 6, 7, 8, 9] rfl
                    have hD9 := hD.sub (ws' := [(h0, .inr (7, [.ref tp, .ref sc, .ref rd, .ref cu, .ref im, .ref ig, .ref sl, .ref se, .ref sm, .ref fc])), (sl, .inl (cS, 4, .inr (.inr (.inr (.inr (sf4 s0 s1 s2 s3)))))), (s0, .inr (2, [.int wd0, .int rz0, .ref n0])), (s1, .inr (2, [.int wd1, .int rz1, .ref n1])), (s2, .inr (2, [.int wd2, .int rz2, .ref n2])), (s3, .inr (2, [.int wd3, .int rz3, .ref n3])), (n0, .inl (cJ0, 60, .inr (.inl g0))), (n1, .inl (cJ1, 60, .inr (.inl g1))), (n2, .inl (cJ2, 60, .inr (.inl g2))), (n3, .inl (cJ3, 60, .inr (.inl g3)))]) [0, 1, 2, 3, 4, 5, 6, 7, 8, 9] (by decide) rfl
                    have hK9 := hK.sub (tys' := [(cS, .object RX3), (cJ0, .long), (cJ1, .long), (cJ2, .long), (cJ3, .long)]) [0, 1, 2, 3, 4] rfl
                    exact W.iret (v := (-7)) hx hb hr (fun t ht hW => ⟨⟨(-7), (), rfl, (rg_w (by decide : (-7 : Int) ≤ ((-7) : Int32).toInt ∧ ((-7) : Int32).toInt ≤ -7) (by decide) (by decide)), g0, g1, g2, g3, by rw [ht]; exact hP9, va_K.moved hW.alike hK9, hD9⟩, hS.F ht⟩) hS.2.2 dX9_paste_95
              ·
                have n_c_444 : (wd2.toInt : Int) ≠ wd2.toInt := c_ne rfl rfl c_444
                refine lv_bipush (v := (-8)) hx hb dX9_paste_67 (by decide) ?_
                have hP9 := hP.sub (ws' := [(h0, .inr (7, [.ref tp, .ref sc, .ref rd, .ref cu, .ref im, .ref ig, .ref sl, .ref se, .ref sm, .ref fc])), (sl, .inl (cS, 4, .inr (.inr (.inr (.inr (sf4 s0 s1 s2 s3)))))), (s0, .inr (2, [.int wd0, .int rz0, .ref n0])), (s1, .inr (2, [.int wd1, .int rz1, .ref n1])), (s2, .inr (2, [.int wd2, .int rz2, .ref n2])), (s3, .inr (2, [.int wd3, .int rz3, .ref n3])), (n0, .inl (cJ0, 60, .inr (.inl g0))), (n1, .inl (cJ1, 60, .inr (.inl g1))), (n2, .inl (cJ2, 60, .inr (.inl g2))), (n3, .inl (cJ3, 60, .inr (.inl g3)))]) [0, 1, 2, 3, 4, 5, 6, 7, 8, 9] rfl
                have hD9 := hD.sub (ws' := [(h0, .inr (7, [.ref tp, .ref sc, .ref rd, .ref cu, .ref im, .ref ig, .ref sl, .ref se, .ref sm, .ref fc])), (sl, .inl (cS, 4, .inr (.inr (.inr (.inr (sf4 s0 s1 s2 s3)))))), (s0, .inr (2, [.int wd0, .int rz0, .ref n0])), (s1, .inr (2, [.int wd1, .int rz1, .ref n1])), (s2, .inr (2, [.int wd2, .int rz2, .ref n2])), (s3, .inr (2, [.int wd3, .int rz3, .ref n3])), (n0, .inl (cJ0, 60, .inr (.inl g0))), (n1, .inl (cJ1, 60, .inr (.inl g1))), (n2, .inl (cJ2, 60, .inr (.inl g2))), (n3, .inl (cJ3, 60, .inr (.inl g3)))]) [0, 1, 2, 3, 4, 5, 6, 7, 8, 9] (by decide) rfl
                have hK9 := hK.sub (tys' := [(cS, .object RX3), (cJ0, .long), (cJ1, .long), (cJ2, .long), (cJ3, .long)]) [0, 1, 2, 3, 4] rfl
                exact W.iret (v := (-8)) hx hb hr (fun t ht hW => ⟨⟨(-8), (), rfl, (rg_w (by decide : (-8 : Int) ≤ ((-8) : Int32).toInt ∧ ((-8) : Int32).toInt ≤ -8) (by decide) (by decide)), g0, g1, g2, g3, by rw [ht]; exact hP9, va_K.moved hW.alike hK9, hD9⟩, hS.F ht⟩) hS.2.2 dX9_paste_69
            ·
              have n_c_442 : (r_441.toInt : Int) = 0 := c_eq rfl (by decide) c_442
              have b_r_441 : (0 : Int) ≤ r_441.toInt ∧ r_441.toInt ≤ 0 := r_eq1 b_r_441 (by decide : (0 : Int) ≤ (0 : Int32).toInt ∧ (0 : Int32).toInt ≤ 0) n_c_442 (by decide)
              refine lv_bipush (v := (-6)) hx hb dX9_paste_51 (by decide) ?_
              have hP9 := hP.sub (ws' := [(h0, .inr (7, [.ref tp, .ref sc, .ref rd, .ref cu, .ref im, .ref ig, .ref sl, .ref se, .ref sm, .ref fc])), (sl, .inl (cS, 4, .inr (.inr (.inr (.inr (sf4 s0 s1 s2 s3)))))), (s0, .inr (2, [.int wd0, .int rz0, .ref n0])), (s1, .inr (2, [.int wd1, .int rz1, .ref n1])), (s2, .inr (2, [.int wd2, .int rz2, .ref n2])), (s3, .inr (2, [.int wd3, .int rz3, .ref n3])), (n0, .inl (cJ0, 60, .inr (.inl g0))), (n1, .inl (cJ1, 60, .inr (.inl g1))), (n2, .inl (cJ2, 60, .inr (.inl g2))), (n3, .inl (cJ3, 60, .inr (.inl g3)))]) [0, 1, 2, 3, 4, 5, 6, 7, 8, 9] rfl
              have hD9 := hD.sub (ws' := [(h0, .inr (7, [.ref tp, .ref sc, .ref rd, .ref cu, .ref im, .ref ig, .ref sl, .ref se, .ref sm, .ref fc])), (sl, .inl (cS, 4, .inr (.inr (.inr (.inr (sf4 s0 s1 s2 s3)))))), (s0, .inr (2, [.int wd0, .int rz0, .ref n0])), (s1, .inr (2, [.int wd1, .int rz1, .ref n1])), (s2, .inr (2, [.int wd2, .int rz2, .ref n2])), (s3, .inr (2, [.int wd3, .int rz3, .ref n3])), (n0, .inl (cJ0, 60, .inr (.inl g0))), (n1, .inl (cJ1, 60, .inr (.inl g1))), (n2, .inl (cJ2, 60, .inr (.inl g2))), (n3, .inl (cJ3, 60, .inr (.inl g3)))]) [0, 1, 2, 3, 4, 5, 6, 7, 8, 9] (by decide) rfl
              have hK9 := hK.sub (tys' := [(cS, .object RX3), (cJ0, .long), (cJ1, .long), (cJ2, .long), (cJ3, .long)]) [0, 1, 2, 3, 4] rfl
              exact W.iret (v := (-6)) hx hb hr (fun t ht hW => ⟨⟨(-6), (), rfl, (rg_w (by decide : (-6 : Int) ≤ ((-6) : Int32).toInt ∧ ((-6) : Int32).toInt ≤ -6) (by decide) (by decide)), g0, g1, g2, g3, by rw [ht]; exact hP9, va_K.moved hW.alike hK9, hD9⟩, hS.F ht⟩) hS.2.2 dX9_paste_53
        ·
          obtain rfl : a3 = 3 := Int32.toInt_inj.mp (h_405.trans (by decide))
          refine va_aldq hx hb hK hP 1 0 rfl rfl (vp_in_b (by decide : (3 : Int) ≤ (3 : Int32).toInt ∧ (3 : Int32).toInt ≤ 3) (by decide) (by decide)) dX9_paste_32 ?_
          refine W.eq (g2 := F0 m 33 ls (.ref s3 :: [])) (congrArg (fun v => F0 m 33 ls (va_rf v :: [])) (sf4_3 s0 s1 s2 s3)) ?_
          refine lv_astore (lv' := [(7, .ref s3), (6, .ref s2), (0, .ref h0), (1, .int 2), (2, .int a2), (3, .int 3), (4, .int a4), (5, .int a5)]) hx hb dX9_paste_33 hl (by decide) rfl (fun ls hl => ?_)
          refine lv_aload hx hb dX9_paste_35 (lv_at hl 1 rfl) ?_
          refine vp_callSi (W.runV (As := []) (rest := []) ⟨hx, hb, hml, hown, hts⟩ (kX3_stands l dC dI s2 wd2 rz2 n2 b_wd2 b_rz2) (cwV 0 hts gX9_paste__X3_stands_V270 rfl rfl rfl hd_yX3_stands ⟨lel 1 2 rfl, lel 20 88 rfl⟩) ⟨pw_fb, rcv_X3 hK hP (q0 := 4) rfl, (pw_use hP hK hN [4] rfl [] rfl)⟩ rfl rfl hl.1 rfl (lv_room (Nat.le_of_ble_eq_true rfl)) dX9_paste_37 ⟨lel 0 0 rfl, lel 0 0 rfl⟩) (fun r_454 h_r_454 => ?_)
          obtain ⟨b_r_454, nz_r_454⟩ := h_r_454
          have b_r_454 : (0 : Int) ≤ r_454.toInt ∧ r_454.toInt ≤ 1 := b_r_454
          refine lv_if_eq (tgt := 51) hx hb dX9_paste_40 (by decide) (fun c_455 => ?_) (fun c_455 => ?_)
          ·
            have n_c_455 : (r_454.toInt : Int) = 0 := c_eq rfl (by decide) c_455
            have b_r_454 : (0 : Int) ≤ r_454.toInt ∧ r_454.toInt ≤ 0 := r_eq1 b_r_454 (by decide : (0 : Int) ≤ (0 : Int32).toInt ∧ (0 : Int32).toInt ≤ 0) n_c_455 (by decide)
            refine lv_bipush (v := (-6)) hx hb dX9_paste_51 (by decide) ?_
            have hP9 := hP.sub (ws' := [(h0, .inr (7, [.ref tp, .ref sc, .ref rd, .ref cu, .ref im, .ref ig, .ref sl, .ref se, .ref sm, .ref fc])), (sl, .inl (cS, 4, .inr (.inr (.inr (.inr (sf4 s0 s1 s2 s3)))))), (s0, .inr (2, [.int wd0, .int rz0, .ref n0])), (s1, .inr (2, [.int wd1, .int rz1, .ref n1])), (s2, .inr (2, [.int wd2, .int rz2, .ref n2])), (s3, .inr (2, [.int wd3, .int rz3, .ref n3])), (n0, .inl (cJ0, 60, .inr (.inl g0))), (n1, .inl (cJ1, 60, .inr (.inl g1))), (n2, .inl (cJ2, 60, .inr (.inl g2))), (n3, .inl (cJ3, 60, .inr (.inl g3)))]) [0, 1, 2, 3, 4, 5, 6, 7, 8, 9] rfl
            have hD9 := hD.sub (ws' := [(h0, .inr (7, [.ref tp, .ref sc, .ref rd, .ref cu, .ref im, .ref ig, .ref sl, .ref se, .ref sm, .ref fc])), (sl, .inl (cS, 4, .inr (.inr (.inr (.inr (sf4 s0 s1 s2 s3)))))), (s0, .inr (2, [.int wd0, .int rz0, .ref n0])), (s1, .inr (2, [.int wd1, .int rz1, .ref n1])), (s2, .inr (2, [.int wd2, .int rz2, .ref n2])), (s3, .inr (2, [.int wd3, .int rz3, .ref n3])), (n0, .inl (cJ0, 60, .inr (.inl g0))), (n1, .inl (cJ1, 60, .inr (.inl g1))), (n2, .inl (cJ2, 60, .inr (.inl g2))), (n3, .inl (cJ3, 60, .inr (.inl g3)))]) [0, 1, 2, 3, 4, 5, 6, 7, 8, 9] (by decide) rfl
            have hK9 := hK.sub (tys' := [(cS, .object RX3), (cJ0, .long), (cJ1, .long), (cJ2, .long), (cJ3, .long)]) [0, 1, 2, 3, 4] rfl
            exact W.iret (v := (-6)) hx hb hr (fun t ht hW => ⟨⟨(-6), (), rfl, (rg_w (by decide : (-6 : Int) ≤ ((-6) : Int32).toInt ∧ ((-6) : Int32).toInt ≤ -6) (by decide) (by decide)), g0, g1, g2, g3, by rw [ht]; exact hP9, va_K.moved hW.alike hK9, hD9⟩, hS.F ht⟩) hS.2.2 dX9_paste_53
          ·
            have n_c_455 : (r_454.toInt : Int) ≠ 0 := c_ne rfl (by decide) c_455
            have b_r_454 : (1 : Int) ≤ r_454.toInt ∧ r_454.toInt ≤ 1 := r_ne1 b_r_454 (by decide : (0 : Int) ≤ (0 : Int32).toInt ∧ (0 : Int32).toInt ≤ 0) n_c_455 (by decide)
            obtain ⟨b_wd2, g_456⟩ := nz_r_454 c_455
            refine lv_aload hx hb dX9_paste_43 (lv_at hl 0 rfl) ?_
            refine vp_callSi (W.runV (As := []) (rest := []) ⟨hx, hb, hml, hown, hts⟩ (kX3_stands l dC dI s3 wd3 rz3 n3 b_wd3 b_rz3) (cwV 0 hts gX9_paste__X3_stands_V270 rfl rfl rfl hd_yX3_stands ⟨lel 1 2 rfl, lel 20 88 rfl⟩) ⟨pw_fb, rcv_X3 hK hP (q0 := 5) rfl, (pw_use hP hK hN [5] rfl [] rfl)⟩ rfl rfl hl.1 rfl (lv_room (Nat.le_of_ble_eq_true rfl)) dX9_paste_45 ⟨lel 0 0 rfl, lel 0 0 rfl⟩) (fun r_457 h_r_457 => ?_)
            obtain ⟨b_r_457, nz_r_457⟩ := h_r_457
            have b_r_457 : (0 : Int) ≤ r_457.toInt ∧ r_457.toInt ≤ 1 := b_r_457
            refine lv_if_ne (tgt := 54) hx hb dX9_paste_48 (by decide) (fun c_458 => ?_) (fun c_458 => ?_)
            ·
              have n_c_458 : (r_457.toInt : Int) ≠ 0 := c_ne rfl (by decide) c_458
              have b_r_457 : (1 : Int) ≤ r_457.toInt ∧ r_457.toInt ≤ 1 := r_ne1 b_r_457 (by decide : (0 : Int) ≤ (0 : Int32).toInt ∧ (0 : Int32).toInt ≤ 0) n_c_458 (by decide)
              obtain ⟨b_wd3, g_459⟩ := nz_r_457 c_458
              refine lv_aload hx hb dX9_paste_54 (lv_at hl 1 rfl) ?_
              refine va_getN (own := RX9) (index := 350) (ref := RX3) (host := RX9) (D := (dC, dI)) (ci := 2) (v := .int wd2) (C := RX3) (T := TX3) (N := 3) hx hb hts iX9_paste_X3 hown hK hP 4 rfl rfl 0 (by decide) (va_Nw.use rfl (hN _ (List.mem_of_getElem? (i := 21) rfl))) (fun _ h9 => h9) rfl dX9_paste_56 ?_
              refine lv_aload hx hb dX9_paste_59 (lv_at hl 0 rfl) ?_
              refine va_getN (own := RX9) (index := 350) (ref := RX3) (host := RX9) (D := (dC, dI)) (ci := 2) (v := .int wd3) (C := RX3) (T := TX3) (N := 3) hx hb hts iX9_paste_X3 hown hK hP 5 rfl rfl 0 (by decide) (va_Nw.use rfl (hN _ (List.mem_of_getElem? (i := 21) rfl))) (fun _ h9 => h9) rfl dX9_paste_61 ?_
              refine lv_icmp_eq (tgt := 70) hx hb dX9_paste_64 (by decide) (fun c_460 => ?_) (fun c_460 => ?_)
              ·
                have n_c_460 : (wd2.toInt : Int) = wd3.toInt := c_eq rfl rfl c_460
                refine lv_aload hx hb dX9_paste_70 (lv_at hl 1 rfl) ?_
                refine lv_iload_n hx hb dX9_paste_72 rfl (lv_at hl 4 rfl) ?_
                refine lv_iload hx hb dX9_paste_73 (lv_at hl 7 rfl) ?_
                refine vp_callSi (W.runV (As := [.int a2, .int a5]) (rest := []) ⟨hx, hb, hml, hown, hts⟩ (kX3_hasStretch l dC dI s2 wd2 rz2 n2 a2 a5 (rg_w b_wd2 (by decide) (by decide)) b_rz2) (cwV 2 hts gX9_paste__X3_hasStretch_V343 rfl rfl rfl hd_yX3_hasStretch ⟨lel 1 2 rfl, lel 22 88 rfl⟩) ⟨pw_fb, rcv_X3 hK hP (q0 := 4) rfl, (pw_use hP hK hN [4] rfl [] rfl)⟩ rfl rfl hl.1 rfl (lv_room (Nat.le_of_ble_eq_true rfl)) dX9_paste_75 ⟨lel 0 0 rfl, lel 0 0 rfl⟩) (fun r_461 h_r_461 => ?_)
                obtain ⟨b_r_461, nz_r_461⟩ := h_r_461
                have b_r_461 : (0 : Int) ≤ r_461.toInt ∧ r_461.toInt ≤ 1 := b_r_461
                refine lv_if_eq (tgt := 93) hx hb dX9_paste_78 (by decide) (fun c_462 => ?_) (fun c_462 => ?_)
                ·
                  have n_c_462 : (r_461.toInt : Int) = 0 := c_eq rfl (by decide) c_462
                  have b_r_461 : (0 : Int) ≤ r_461.toInt ∧ r_461.toInt ≤ 0 := r_eq1 b_r_461 (by decide : (0 : Int) ≤ (0 : Int32).toInt ∧ (0 : Int32).toInt ≤ 0) n_c_462 (by decide)
                  refine lv_bipush (v := (-7)) hx hb dX9_paste_93 (by decide) ?_
                  have hP9 := hP.sub (ws' := [(h0, .inr (7, [.ref tp, .ref sc, .ref rd, .ref cu, .ref im, .ref ig, .ref sl, .ref se, .ref sm, .ref fc])), (sl, .inl (cS, 4, .inr (.inr (.inr (.inr (sf4 s0 s1 s2 s3)))))), (s0, .inr (2, [.int wd0, .int rz0, .ref n0])), (s1, .inr (2, [.int wd1, .int rz1, .ref n1])), (s2, .inr (2, [.int wd2, .int rz2, .ref n2])), (s3, .inr (2, [.int wd3, .int rz3, .ref n3])), (n0, .inl (cJ0, 60, .inr (.inl g0))), (n1, .inl (cJ1, 60, .inr (.inl g1))), (n2, .inl (cJ2, 60, .inr (.inl g2))), (n3, .inl (cJ3, 60, .inr (.inl g3)))]) [0, 1, 2, 3, 4, 5, 6, 7, 8, 9] rfl
                  have hD9 := hD.sub (ws' := [(h0, .inr (7, [.ref tp, .ref sc, .ref rd, .ref cu, .ref im, .ref ig, .ref sl, .ref se, .ref sm, .ref fc])), (sl, .inl (cS, 4, .inr (.inr (.inr (.inr (sf4 s0 s1 s2 s3)))))), (s0, .inr (2, [.int wd0, .int rz0, .ref n0])), (s1, .inr (2, [.int wd1, .int rz1, .ref n1])), (s2, .inr (2, [.int wd2, .int rz2, .ref n2])), (s3, .inr (2, [.int wd3, .int rz3, .ref n3])), (n0, .inl (cJ0, 60, .inr (.inl g0))), (n1, .inl (cJ1, 60, .inr (.inl g1))), (n2, .inl (cJ2, 60, .inr (.inl g2))), (n3, .inl (cJ3, 60, .inr (.inl g3)))]) [0, 1, 2, 3, 4, 5, 6, 7, 8, 9] (by decide) rfl
                  have hK9 := hK.sub (tys' := [(cS, .object RX3), (cJ0, .long), (cJ1, .long), (cJ2, .long), (cJ3, .long)]) [0, 1, 2, 3, 4] rfl
                  exact W.iret (v := (-7)) hx hb hr (fun t ht hW => ⟨⟨(-7), (), rfl, (rg_w (by decide : (-7 : Int) ≤ ((-7) : Int32).toInt ∧ ((-7) : Int32).toInt ≤ -7) (by decide) (by decide)), g0, g1, g2, g3, by rw [ht]; exact hP9, va_K.moved hW.alike hK9, hD9⟩, hS.F ht⟩) hS.2.2 dX9_paste_95
                ·
                  have n_c_462 : (r_461.toInt : Int) ≠ 0 := c_ne rfl (by decide) c_462
                  have b_r_461 : (1 : Int) ≤ r_461.toInt ∧ r_461.toInt ≤ 1 := r_ne1 b_r_461 (by decide : (0 : Int) ≤ (0 : Int32).toInt ∧ (0 : Int32).toInt ≤ 0) n_c_462 (by decide)
                  obtain ⟨b_a2, b_a5, g_463⟩ := nz_r_461 c_462
                  refine lv_aload hx hb dX9_paste_81 (lv_at hl 0 rfl) ?_
                  refine lv_iload hx hb dX9_paste_83 (lv_at hl 6 rfl) ?_
                  refine lv_iload hx hb dX9_paste_85 (lv_at hl 7 rfl) ?_
                  refine vp_callSi (W.runV (As := [.int a4, .int a5]) (rest := []) ⟨hx, hb, hml, hown, hts⟩ (kX3_hasStretch l dC dI s3 wd3 rz3 n3 a4 a5 (rg_w b_wd3 (by decide) (by decide)) b_rz3) (cwV 2 hts gX9_paste__X3_hasStretch_V343 rfl rfl rfl hd_yX3_hasStretch ⟨lel 1 2 rfl, lel 22 88 rfl⟩) ⟨pw_fb, rcv_X3 hK hP (q0 := 5) rfl, (pw_use hP hK hN [5] rfl [] rfl)⟩ rfl rfl hl.1 rfl (lv_room (Nat.le_of_ble_eq_true rfl)) dX9_paste_87 ⟨lel 0 0 rfl, lel 0 0 rfl⟩) (fun r_464 h_r_464 => ?_)
                  obtain ⟨b_r_464, nz_r_464⟩ := h_r_464
                  have b_r_464 : (0 : Int) ≤ r_464.toInt ∧ r_464.toInt ≤ 1 := b_r_464
                  refine lv_if_ne (tgt := 96) hx hb dX9_paste_90 (by decide) (fun c_465 => ?_) (fun c_465 => ?_)
                  ·
                    have n_c_465 : (r_464.toInt : Int) ≠ 0 := c_ne rfl (by decide) c_465
                    have b_r_464 : (1 : Int) ≤ r_464.toInt ∧ r_464.toInt ≤ 1 := r_ne1 b_r_464 (by decide : (0 : Int) ≤ (0 : Int32).toInt ∧ (0 : Int32).toInt ≤ 0) n_c_465 (by decide)
                    obtain ⟨b_a4, b_a5, g_466⟩ := nz_r_464 c_465
                    refine lv_aload hx hb dX9_paste_96 (lv_at hl 0 rfl) ?_
                    refine lv_iload hx hb dX9_paste_98 (lv_at hl 6 rfl) ?_
                    refine lv_aload hx hb dX9_paste_100 (lv_at hl 1 rfl) ?_
                    refine lv_iload_n hx hb dX9_paste_102 rfl (lv_at hl 4 rfl) ?_
                    refine lv_iload hx hb dX9_paste_103 (lv_at hl 7 rfl) ?_
                    have hFc := va_free (wc := [(s3, .inr (2, [.int wd3, .int rz3, .ref n3])), (n3, .inl (cJ3, 60, .inr (.inl g3))), (s2, .inr (2, [.int wd2, .int rz2, .ref n2])), (n2, .inl (cJ2, 60, .inr (.inl g2)))]) hD hS hA [5, 9, 4, 8] rfl
                    refine va_callv (va_runV (As := [.int a4, .ref s2, .int a2, .int a5]) (rest := []) ⟨hx, hb, hml, hown, hts⟩ (kX3_take l dC dI s3 wd3 rz3 n3 cJ3 g3 s2 wd2 rz2 n2 cJ2 g2 a4 a2 a5 (s.heap.size) (rg_w b_wd3 (by decide) (by decide)) b_rz3 (rg_w b_wd2 (by decide) (by decide)) b_rz2) (cwV 4 hts gX9_paste__X3_take_V353 rfl rfl rfl hd_yX3_take ⟨lel 2 2 rfl, lel 88 88 rfl⟩) ⟨hw_fb, rcv_X3 hK hP (q0 := 5) rfl, (hw_use hP hD hK hN [5, 9, 4, 8] rfl (by decide) rfl [4, 3] rfl)⟩ rfl rfl hl.1 rfl (lv_room (Nat.le_of_ble_eq_true rfl)) dX9_paste_105 ⟨lel 0 0 rfl, lel 0 0 rfl⟩) hS (fun q _ h => hFc q h) hFc (fun u_468 t H1 locs ht hvm hw_r_467 hB hz1 hk1 hS => ?_)
                    obtain ⟨o0_469, hP1, hK1, hD1⟩ := hB
                    rw [ht] at hP1
                    have hK1 := va_K.moved hvm.symm hK1
                    obtain ⟨hP, hD⟩ := va_join (wr := [(h0, .inr (7, [.ref tp, .ref sc, .ref rd, .ref cu, .ref im, .ref ig, .ref sl, .ref se, .ref sm, .ref fc])), (sl, .inl (cS, 4, .inr (.inr (.inr (.inr (sf4 s0 s1 s2 s3)))))), (s0, .inr (2, [.int wd0, .int rz0, .ref n0])), (s1, .inr (2, [.int wd1, .int rz1, .ref n1])), (n0, .inl (cJ0, 60, .inr (.inl g0))), (n1, .inl (cJ1, 60, .inr (.inl g1)))]) (w1 := [(s3, .inr (2, [.int wd3, .int rz3, .ref n3])), (n3, .inl (cJ3, 60, .inr (.inl o0_469))), (s2, .inr (2, [.int wd2, .int rz2, .ref n2])), (n2, .inl (cJ2, 60, .inr (.inl g2)))]) hP hD [5, 9, 4, 8] [0, 1, 2, 3, 6, 7] rfl rfl (by decide) (by decide) hk1 hFc hP1 hD1
                    have hK := (hK.sub (tys' := [(cS, .object RX3), (cJ0, .long), (cJ1, .long)]) [0, 1, 2] rfl).app hK1
                    generalize H1 = H at hP hS ⊢
                    have hP := hP.sub (ws' := [(h0, .inr (7, [.ref tp, .ref sc, .ref rd, .ref cu, .ref im, .ref ig, .ref sl, .ref se, .ref sm, .ref fc])), (sl, .inl (cS, 4, .inr (.inr (.inr (.inr (sf4 s0 s1 s2 s3)))))), (s0, .inr (2, [.int wd0, .int rz0, .ref n0])), (s1, .inr (2, [.int wd1, .int rz1, .ref n1])), (s2, .inr (2, [.int wd2, .int rz2, .ref n2])), (s3, .inr (2, [.int wd3, .int rz3, .ref n3])), (n0, .inl (cJ0, 60, .inr (.inl g0))), (n1, .inl (cJ1, 60, .inr (.inl g1))), (n2, .inl (cJ2, 60, .inr (.inl g2))), (n3, .inl (cJ3, 60, .inr (.inl o0_469)))]) [0, 1, 2, 3, 8, 6, 4, 5, 9, 7] rfl
                    have hD := hD.sub (ws' := [(h0, .inr (7, [.ref tp, .ref sc, .ref rd, .ref cu, .ref im, .ref ig, .ref sl, .ref se, .ref sm, .ref fc])), (sl, .inl (cS, 4, .inr (.inr (.inr (.inr (sf4 s0 s1 s2 s3)))))), (s0, .inr (2, [.int wd0, .int rz0, .ref n0])), (s1, .inr (2, [.int wd1, .int rz1, .ref n1])), (s2, .inr (2, [.int wd2, .int rz2, .ref n2])), (s3, .inr (2, [.int wd3, .int rz3, .ref n3])), (n0, .inl (cJ0, 60, .inr (.inl g0))), (n1, .inl (cJ1, 60, .inr (.inl g1))), (n2, .inl (cJ2, 60, .inr (.inl g2))), (n3, .inl (cJ3, 60, .inr (.inl o0_469)))]) [0, 1, 2, 3, 8, 6, 4, 5, 9, 7] (by decide) rfl
                    have hK := hK.sub (tys' := [(cS, .object RX3), (cJ0, .long), (cJ1, .long), (cJ2, .long), (cJ3, .long)]) [0, 1, 2, 4, 3] rfl
                    have hP : va_P (dC, dI) vwCl [(h0, .inr (7, [.ref tp, .ref sc, .ref rd, .ref cu, .ref im, .ref ig, .ref sl, .ref se, .ref sm, .ref fc])), (sl, .inl (cS, 4, .inr (.inr (.inr (.inr (sf4 s0 s1 s2 s3)))))), (s0, .inr (2, [.int wd0, .int rz0, .ref n0])), (s1, .inr (2, [.int wd1, .int rz1, .ref n1])), (s2, .inr (2, [.int wd2, .int rz2, .ref n2])), (s3, .inr (2, [.int wd3, .int rz3, .ref n3])), (n0, .inl (cJ0, 60, .inr (.inl g0))), (n1, .inl (cJ1, 60, .inr (.inl g1))), (n2, .inl (cJ2, 60, .inr (.inl g2))), (n3, .inl (cJ3, 60, .inr (.inl o0_469)))] H := hP
                    have hD : va_D A [(h0, .inr (7, [.ref tp, .ref sc, .ref rd, .ref cu, .ref im, .ref ig, .ref sl, .ref se, .ref sm, .ref fc])), (sl, .inl (cS, 4, .inr (.inr (.inr (.inr (sf4 s0 s1 s2 s3)))))), (s0, .inr (2, [.int wd0, .int rz0, .ref n0])), (s1, .inr (2, [.int wd1, .int rz1, .ref n1])), (s2, .inr (2, [.int wd2, .int rz2, .ref n2])), (s3, .inr (2, [.int wd3, .int rz3, .ref n3])), (n0, .inl (cJ0, 60, .inr (.inl g0))), (n1, .inl (cJ1, 60, .inr (.inl g1))), (n2, .inl (cJ2, 60, .inr (.inl g2))), (n3, .inl (cJ3, 60, .inr (.inl o0_469)))] := hD
                    have hK : va_K (dC, dI) vwCl [(cS, .object RX3), (cJ0, .long), (cJ1, .long), (cJ2, .long), (cJ3, .long)] s := hK
                    refine lv_iconst (v := 0) hx hb dX9_paste_108 (by decide) ?_
                    have hP9 := hP.sub (ws' := [(h0, .inr (7, [.ref tp, .ref sc, .ref rd, .ref cu, .ref im, .ref ig, .ref sl, .ref se, .ref sm, .ref fc])), (sl, .inl (cS, 4, .inr (.inr (.inr (.inr (sf4 s0 s1 s2 s3)))))), (s0, .inr (2, [.int wd0, .int rz0, .ref n0])), (s1, .inr (2, [.int wd1, .int rz1, .ref n1])), (s2, .inr (2, [.int wd2, .int rz2, .ref n2])), (s3, .inr (2, [.int wd3, .int rz3, .ref n3])), (n0, .inl (cJ0, 60, .inr (.inl g0))), (n1, .inl (cJ1, 60, .inr (.inl g1))), (n2, .inl (cJ2, 60, .inr (.inl g2))), (n3, .inl (cJ3, 60, .inr (.inl o0_469)))]) [0, 1, 2, 3, 4, 5, 6, 7, 8, 9] rfl
                    have hD9 := hD.sub (ws' := [(h0, .inr (7, [.ref tp, .ref sc, .ref rd, .ref cu, .ref im, .ref ig, .ref sl, .ref se, .ref sm, .ref fc])), (sl, .inl (cS, 4, .inr (.inr (.inr (.inr (sf4 s0 s1 s2 s3)))))), (s0, .inr (2, [.int wd0, .int rz0, .ref n0])), (s1, .inr (2, [.int wd1, .int rz1, .ref n1])), (s2, .inr (2, [.int wd2, .int rz2, .ref n2])), (s3, .inr (2, [.int wd3, .int rz3, .ref n3])), (n0, .inl (cJ0, 60, .inr (.inl g0))), (n1, .inl (cJ1, 60, .inr (.inl g1))), (n2, .inl (cJ2, 60, .inr (.inl g2))), (n3, .inl (cJ3, 60, .inr (.inl o0_469)))]) [0, 1, 2, 3, 4, 5, 6, 7, 8, 9] (by decide) rfl
                    have hK9 := hK.sub (tys' := [(cS, .object RX3), (cJ0, .long), (cJ1, .long), (cJ2, .long), (cJ3, .long)]) [0, 1, 2, 3, 4] rfl
                    exact W.iret (v := 0) hx hb hr (fun t ht hW => ⟨⟨0, (), rfl, (rg_w (by decide : (0 : Int) ≤ (0 : Int32).toInt ∧ (0 : Int32).toInt ≤ 0) (by decide) (by decide)), g0, g1, g2, o0_469, by rw [ht]; exact hP9, va_K.moved hW.alike hK9, hD9⟩, hS.F ht⟩) hS.2.2 dX9_paste_109
                  ·
                    have n_c_465 : (r_464.toInt : Int) = 0 := c_eq rfl (by decide) c_465
                    have b_r_464 : (0 : Int) ≤ r_464.toInt ∧ r_464.toInt ≤ 0 := r_eq1 b_r_464 (by decide : (0 : Int) ≤ (0 : Int32).toInt ∧ (0 : Int32).toInt ≤ 0) n_c_465 (by decide)
                    refine lv_bipush (v := (-7)) hx hb dX9_paste_93 (by decide) ?_
                    have hP9 := hP.sub (ws' := [(h0, .inr (7, [.ref tp, .ref sc, .ref rd, .ref cu, .ref im, .ref ig, .ref sl, .ref se, .ref sm, .ref fc])), (sl, .inl (cS, 4, .inr (.inr (.inr (.inr (sf4 s0 s1 s2 s3)))))), (s0, .inr (2, [.int wd0, .int rz0, .ref n0])), (s1, .inr (2, [.int wd1, .int rz1, .ref n1])), (s2, .inr (2, [.int wd2, .int rz2, .ref n2])), (s3, .inr (2, [.int wd3, .int rz3, .ref n3])), (n0, .inl (cJ0, 60, .inr (.inl g0))), (n1, .inl (cJ1, 60, .inr (.inl g1))), (n2, .inl (cJ2, 60, .inr (.inl g2))), (n3, .inl (cJ3, 60, .inr (.inl g3)))]) [0, 1, 2, 3, 4, 5, 6, 7, 8, 9] rfl
                    have hD9 := hD.sub (ws' := [(h0, .inr (7, [.ref tp, .ref sc, .ref rd, .ref cu, .ref im, .ref ig, .ref sl, .ref se, .ref sm, .ref fc])), (sl, .inl (cS, 4, .inr (.inr (.inr (.inr (sf4 s0 s1 s2 s3)))))), (s0, .inr (2, [.int wd0, .int rz0, .ref n0])), (s1, .inr (2, [.int wd1, .int rz1, .ref n1])), (s2, .inr (2, [.int wd2, .int rz2, .ref n2])), (s3, .inr (2, [.int wd3, .int rz3, .ref n3])), (n0, .inl (cJ0, 60, .inr (.inl g0))), (n1, .inl (cJ1, 60, .inr (.inl g1))), (n2, .inl (cJ2, 60, .inr (.inl g2))), (n3, .inl (cJ3, 60, .inr (.inl g3)))]) [0, 1, 2, 3, 4, 5, 6, 7, 8, 9] (by decide) rfl
                    have hK9 := hK.sub (tys' := [(cS, .object RX3), (cJ0, .long), (cJ1, .long), (cJ2, .long), (cJ3, .long)]) [0, 1, 2, 3, 4] rfl
                    exact W.iret (v := (-7)) hx hb hr (fun t ht hW => ⟨⟨(-7), (), rfl, (rg_w (by decide : (-7 : Int) ≤ ((-7) : Int32).toInt ∧ ((-7) : Int32).toInt ≤ -7) (by decide) (by decide)), g0, g1, g2, g3, by rw [ht]; exact hP9, va_K.moved hW.alike hK9, hD9⟩, hS.F ht⟩) hS.2.2 dX9_paste_95
              ·
                have n_c_460 : (wd2.toInt : Int) ≠ wd3.toInt := c_ne rfl rfl c_460
                refine lv_bipush (v := (-8)) hx hb dX9_paste_67 (by decide) ?_
                have hP9 := hP.sub (ws' := [(h0, .inr (7, [.ref tp, .ref sc, .ref rd, .ref cu, .ref im, .ref ig, .ref sl, .ref se, .ref sm, .ref fc])), (sl, .inl (cS, 4, .inr (.inr (.inr (.inr (sf4 s0 s1 s2 s3)))))), (s0, .inr (2, [.int wd0, .int rz0, .ref n0])), (s1, .inr (2, [.int wd1, .int rz1, .ref n1])), (s2, .inr (2, [.int wd2, .int rz2, .ref n2])), (s3, .inr (2, [.int wd3, .int rz3, .ref n3])), (n0, .inl (cJ0, 60, .inr (.inl g0))), (n1, .inl (cJ1, 60, .inr (.inl g1))), (n2, .inl (cJ2, 60, .inr (.inl g2))), (n3, .inl (cJ3, 60, .inr (.inl g3)))]) [0, 1, 2, 3, 4, 5, 6, 7, 8, 9] rfl
                have hD9 := hD.sub (ws' := [(h0, .inr (7, [.ref tp, .ref sc, .ref rd, .ref cu, .ref im, .ref ig, .ref sl, .ref se, .ref sm, .ref fc])), (sl, .inl (cS, 4, .inr (.inr (.inr (.inr (sf4 s0 s1 s2 s3)))))), (s0, .inr (2, [.int wd0, .int rz0, .ref n0])), (s1, .inr (2, [.int wd1, .int rz1, .ref n1])), (s2, .inr (2, [.int wd2, .int rz2, .ref n2])), (s3, .inr (2, [.int wd3, .int rz3, .ref n3])), (n0, .inl (cJ0, 60, .inr (.inl g0))), (n1, .inl (cJ1, 60, .inr (.inl g1))), (n2, .inl (cJ2, 60, .inr (.inl g2))), (n3, .inl (cJ3, 60, .inr (.inl g3)))]) [0, 1, 2, 3, 4, 5, 6, 7, 8, 9] (by decide) rfl
                have hK9 := hK.sub (tys' := [(cS, .object RX3), (cJ0, .long), (cJ1, .long), (cJ2, .long), (cJ3, .long)]) [0, 1, 2, 3, 4] rfl
                exact W.iret (v := (-8)) hx hb hr (fun t ht hW => ⟨⟨(-8), (), rfl, (rg_w (by decide : (-8 : Int) ≤ ((-8) : Int32).toInt ∧ ((-8) : Int32).toInt ≤ -8) (by decide) (by decide)), g0, g1, g2, g3, by rw [ht]; exact hP9, va_K.moved hW.alike hK9, hD9⟩, hS.F ht⟩) hS.2.2 dX9_paste_69
            ·
              have n_c_458 : (r_457.toInt : Int) = 0 := c_eq rfl (by decide) c_458
              have b_r_457 : (0 : Int) ≤ r_457.toInt ∧ r_457.toInt ≤ 0 := r_eq1 b_r_457 (by decide : (0 : Int) ≤ (0 : Int32).toInt ∧ (0 : Int32).toInt ≤ 0) n_c_458 (by decide)
              refine lv_bipush (v := (-6)) hx hb dX9_paste_51 (by decide) ?_
              have hP9 := hP.sub (ws' := [(h0, .inr (7, [.ref tp, .ref sc, .ref rd, .ref cu, .ref im, .ref ig, .ref sl, .ref se, .ref sm, .ref fc])), (sl, .inl (cS, 4, .inr (.inr (.inr (.inr (sf4 s0 s1 s2 s3)))))), (s0, .inr (2, [.int wd0, .int rz0, .ref n0])), (s1, .inr (2, [.int wd1, .int rz1, .ref n1])), (s2, .inr (2, [.int wd2, .int rz2, .ref n2])), (s3, .inr (2, [.int wd3, .int rz3, .ref n3])), (n0, .inl (cJ0, 60, .inr (.inl g0))), (n1, .inl (cJ1, 60, .inr (.inl g1))), (n2, .inl (cJ2, 60, .inr (.inl g2))), (n3, .inl (cJ3, 60, .inr (.inl g3)))]) [0, 1, 2, 3, 4, 5, 6, 7, 8, 9] rfl
              have hD9 := hD.sub (ws' := [(h0, .inr (7, [.ref tp, .ref sc, .ref rd, .ref cu, .ref im, .ref ig, .ref sl, .ref se, .ref sm, .ref fc])), (sl, .inl (cS, 4, .inr (.inr (.inr (.inr (sf4 s0 s1 s2 s3)))))), (s0, .inr (2, [.int wd0, .int rz0, .ref n0])), (s1, .inr (2, [.int wd1, .int rz1, .ref n1])), (s2, .inr (2, [.int wd2, .int rz2, .ref n2])), (s3, .inr (2, [.int wd3, .int rz3, .ref n3])), (n0, .inl (cJ0, 60, .inr (.inl g0))), (n1, .inl (cJ1, 60, .inr (.inl g1))), (n2, .inl (cJ2, 60, .inr (.inl g2))), (n3, .inl (cJ3, 60, .inr (.inl g3)))]) [0, 1, 2, 3, 4, 5, 6, 7, 8, 9] (by decide) rfl
              have hK9 := hK.sub (tys' := [(cS, .object RX3), (cJ0, .long), (cJ1, .long), (cJ2, .long), (cJ3, .long)]) [0, 1, 2, 3, 4] rfl
              exact W.iret (v := (-6)) hx hb hr (fun t ht hW => ⟨⟨(-6), (), rfl, (rg_w (by decide : (-6 : Int) ≤ ((-6) : Int32).toInt ∧ ((-6) : Int32).toInt ≤ -6) (by decide) (by decide)), g0, g1, g2, g3, by rw [ht]; exact hP9, va_K.moved hW.alike hK9, hD9⟩, hS.F ht⟩) hS.2.2 dX9_paste_53
      ·
        obtain rfl : a1 = 3 := Int32.toInt_inj.mp (h_274.trans (by decide))
        refine va_aldq hx hb hK hP 1 0 rfl rfl (vp_in_b (by decide : (3 : Int) ≤ (3 : Int32).toInt ∧ (3 : Int32).toInt ≤ 3) (by decide) (by decide)) dX9_paste_24 ?_
        refine W.eq (g2 := F0 m 25 ls (.ref s3 :: [])) (congrArg (fun v => F0 m 25 ls (va_rf v :: [])) (sf4_3 s0 s1 s2 s3)) ?_
        refine lv_astore (lv' := [(6, .ref s3), (0, .ref h0), (1, .int 3), (2, .int a2), (3, .int a3), (4, .int a4), (5, .int a5)]) hx hb dX9_paste_25 hl (by decide) rfl (fun ls hl => ?_)
        refine lv_aload_n hx hb dX9_paste_27 rfl (lv_at hl 1 rfl) ?_
        refine va_get (D := (dC, dI)) (ci := 7) (v := .ref sl) (C := RX9) (T := TX9) (N := 10) hx hb hts iX9_paste_X9 hown hK hP 0 rfl rfl 6 (by decide) (hts (.fieldLink RX9 50 "LuckyTicket" "slots" "[LLuckyTicket$Row;") (List.mem_of_getElem? (i := 5) rfl)) (fun _ h9 => h9) rfl dX9_paste_28 ?_
        refine lv_iload_n hx hb dX9_paste_31 rfl (lv_at hl 4 rfl) ?_
        rcases (show a3.toInt = 0 ∨ a3.toInt = 1 ∨ a3.toInt = 2 ∨ a3.toInt = 3 by omega) with h_470 | h_470 | h_470 | h_470
        ·
          obtain rfl : a3 = 0 := Int32.toInt_inj.mp (h_470.trans (by decide))
          refine va_aldq hx hb hK hP 1 0 rfl rfl (vp_in_b (by decide : (0 : Int) ≤ (0 : Int32).toInt ∧ (0 : Int32).toInt ≤ 0) (by decide) (by decide)) dX9_paste_32 ?_
          refine W.eq (g2 := F0 m 33 ls (.ref s0 :: [])) (congrArg (fun v => F0 m 33 ls (va_rf v :: [])) (sf4_0 s0 s1 s2 s3)) ?_
          refine lv_astore (lv' := [(7, .ref s0), (6, .ref s3), (0, .ref h0), (1, .int 3), (2, .int a2), (3, .int 0), (4, .int a4), (5, .int a5)]) hx hb dX9_paste_33 hl (by decide) rfl (fun ls hl => ?_)
          refine lv_aload hx hb dX9_paste_35 (lv_at hl 1 rfl) ?_
          refine vp_callSi (W.runV (As := []) (rest := []) ⟨hx, hb, hml, hown, hts⟩ (kX3_stands l dC dI s3 wd3 rz3 n3 b_wd3 b_rz3) (cwV 0 hts gX9_paste__X3_stands_V270 rfl rfl rfl hd_yX3_stands ⟨lel 1 2 rfl, lel 20 88 rfl⟩) ⟨pw_fb, rcv_X3 hK hP (q0 := 5) rfl, (pw_use hP hK hN [5] rfl [] rfl)⟩ rfl rfl hl.1 rfl (lv_room (Nat.le_of_ble_eq_true rfl)) dX9_paste_37 ⟨lel 0 0 rfl, lel 0 0 rfl⟩) (fun r_471 h_r_471 => ?_)
          obtain ⟨b_r_471, nz_r_471⟩ := h_r_471
          have b_r_471 : (0 : Int) ≤ r_471.toInt ∧ r_471.toInt ≤ 1 := b_r_471
          refine lv_if_eq (tgt := 51) hx hb dX9_paste_40 (by decide) (fun c_472 => ?_) (fun c_472 => ?_)
          ·
            have n_c_472 : (r_471.toInt : Int) = 0 := c_eq rfl (by decide) c_472
            have b_r_471 : (0 : Int) ≤ r_471.toInt ∧ r_471.toInt ≤ 0 := r_eq1 b_r_471 (by decide : (0 : Int) ≤ (0 : Int32).toInt ∧ (0 : Int32).toInt ≤ 0) n_c_472 (by decide)
            refine lv_bipush (v := (-6)) hx hb dX9_paste_51 (by decide) ?_
            have hP9 := hP.sub (ws' := [(h0, .inr (7, [.ref tp, .ref sc, .ref rd, .ref cu, .ref im, .ref ig, .ref sl, .ref se, .ref sm, .ref fc])), (sl, .inl (cS, 4, .inr (.inr (.inr (.inr (sf4 s0 s1 s2 s3)))))), (s0, .inr (2, [.int wd0, .int rz0, .ref n0])), (s1, .inr (2, [.int wd1, .int rz1, .ref n1])), (s2, .inr (2, [.int wd2, .int rz2, .ref n2])), (s3, .inr (2, [.int wd3, .int rz3, .ref n3])), (n0, .inl (cJ0, 60, .inr (.inl g0))), (n1, .inl (cJ1, 60, .inr (.inl g1))), (n2, .inl (cJ2, 60, .inr (.inl g2))), (n3, .inl (cJ3, 60, .inr (.inl g3)))]) [0, 1, 2, 3, 4, 5, 6, 7, 8, 9] rfl
            have hD9 := hD.sub (ws' := [(h0, .inr (7, [.ref tp, .ref sc, .ref rd, .ref cu, .ref im, .ref ig, .ref sl, .ref se, .ref sm, .ref fc])), (sl, .inl (cS, 4, .inr (.inr (.inr (.inr (sf4 s0 s1 s2 s3)))))), (s0, .inr (2, [.int wd0, .int rz0, .ref n0])), (s1, .inr (2, [.int wd1, .int rz1, .ref n1])), (s2, .inr (2, [.int wd2, .int rz2, .ref n2])), (s3, .inr (2, [.int wd3, .int rz3, .ref n3])), (n0, .inl (cJ0, 60, .inr (.inl g0))), (n1, .inl (cJ1, 60, .inr (.inl g1))), (n2, .inl (cJ2, 60, .inr (.inl g2))), (n3, .inl (cJ3, 60, .inr (.inl g3)))]) [0, 1, 2, 3, 4, 5, 6, 7, 8, 9] (by decide) rfl
            have hK9 := hK.sub (tys' := [(cS, .object RX3), (cJ0, .long), (cJ1, .long), (cJ2, .long), (cJ3, .long)]) [0, 1, 2, 3, 4] rfl
            exact W.iret (v := (-6)) hx hb hr (fun t ht hW => ⟨⟨(-6), (), rfl, (rg_w (by decide : (-6 : Int) ≤ ((-6) : Int32).toInt ∧ ((-6) : Int32).toInt ≤ -6) (by decide) (by decide)), g0, g1, g2, g3, by rw [ht]; exact hP9, va_K.moved hW.alike hK9, hD9⟩, hS.F ht⟩) hS.2.2 dX9_paste_53
          ·
            have n_c_472 : (r_471.toInt : Int) ≠ 0 := c_ne rfl (by decide) c_472
            have b_r_471 : (1 : Int) ≤ r_471.toInt ∧ r_471.toInt ≤ 1 := r_ne1 b_r_471 (by decide : (0 : Int) ≤ (0 : Int32).toInt ∧ (0 : Int32).toInt ≤ 0) n_c_472 (by decide)
            obtain ⟨b_wd3, g_473⟩ := nz_r_471 c_472
            refine lv_aload hx hb dX9_paste_43 (lv_at hl 0 rfl) ?_
            refine vp_callSi (W.runV (As := []) (rest := []) ⟨hx, hb, hml, hown, hts⟩ (kX3_stands l dC dI s0 wd0 rz0 n0 b_wd0 b_rz0) (cwV 0 hts gX9_paste__X3_stands_V270 rfl rfl rfl hd_yX3_stands ⟨lel 1 2 rfl, lel 20 88 rfl⟩) ⟨pw_fb, rcv_X3 hK hP (q0 := 2) rfl, (pw_use hP hK hN [2] rfl [] rfl)⟩ rfl rfl hl.1 rfl (lv_room (Nat.le_of_ble_eq_true rfl)) dX9_paste_45 ⟨lel 0 0 rfl, lel 0 0 rfl⟩) (fun r_474 h_r_474 => ?_)
            obtain ⟨b_r_474, nz_r_474⟩ := h_r_474
            have b_r_474 : (0 : Int) ≤ r_474.toInt ∧ r_474.toInt ≤ 1 := b_r_474
            refine lv_if_ne (tgt := 54) hx hb dX9_paste_48 (by decide) (fun c_475 => ?_) (fun c_475 => ?_)
            ·
              have n_c_475 : (r_474.toInt : Int) ≠ 0 := c_ne rfl (by decide) c_475
              have b_r_474 : (1 : Int) ≤ r_474.toInt ∧ r_474.toInt ≤ 1 := r_ne1 b_r_474 (by decide : (0 : Int) ≤ (0 : Int32).toInt ∧ (0 : Int32).toInt ≤ 0) n_c_475 (by decide)
              obtain ⟨b_wd0, g_476⟩ := nz_r_474 c_475
              refine lv_aload hx hb dX9_paste_54 (lv_at hl 1 rfl) ?_
              refine va_getN (own := RX9) (index := 350) (ref := RX3) (host := RX9) (D := (dC, dI)) (ci := 2) (v := .int wd3) (C := RX3) (T := TX3) (N := 3) hx hb hts iX9_paste_X3 hown hK hP 5 rfl rfl 0 (by decide) (va_Nw.use rfl (hN _ (List.mem_of_getElem? (i := 21) rfl))) (fun _ h9 => h9) rfl dX9_paste_56 ?_
              refine lv_aload hx hb dX9_paste_59 (lv_at hl 0 rfl) ?_
              refine va_getN (own := RX9) (index := 350) (ref := RX3) (host := RX9) (D := (dC, dI)) (ci := 2) (v := .int wd0) (C := RX3) (T := TX3) (N := 3) hx hb hts iX9_paste_X3 hown hK hP 2 rfl rfl 0 (by decide) (va_Nw.use rfl (hN _ (List.mem_of_getElem? (i := 21) rfl))) (fun _ h9 => h9) rfl dX9_paste_61 ?_
              refine lv_icmp_eq (tgt := 70) hx hb dX9_paste_64 (by decide) (fun c_477 => ?_) (fun c_477 => ?_)
              ·
                have n_c_477 : (wd3.toInt : Int) = wd0.toInt := c_eq rfl rfl c_477
                refine lv_aload hx hb dX9_paste_70 (lv_at hl 1 rfl) ?_
                refine lv_iload_n hx hb dX9_paste_72 rfl (lv_at hl 4 rfl) ?_
                refine lv_iload hx hb dX9_paste_73 (lv_at hl 7 rfl) ?_
                refine vp_callSi (W.runV (As := [.int a2, .int a5]) (rest := []) ⟨hx, hb, hml, hown, hts⟩ (kX3_hasStretch l dC dI s3 wd3 rz3 n3 a2 a5 (rg_w b_wd3 (by decide) (by decide)) b_rz3) (cwV 2 hts gX9_paste__X3_hasStretch_V343 rfl rfl rfl hd_yX3_hasStretch ⟨lel 1 2 rfl, lel 22 88 rfl⟩) ⟨pw_fb, rcv_X3 hK hP (q0 := 5) rfl, (pw_use hP hK hN [5] rfl [] rfl)⟩ rfl rfl hl.1 rfl (lv_room (Nat.le_of_ble_eq_true rfl)) dX9_paste_75 ⟨lel 0 0 rfl, lel 0 0 rfl⟩) (fun r_478 h_r_478 => ?_)
                obtain ⟨b_r_478, nz_r_478⟩ := h_r_478
                have b_r_478 : (0 : Int) ≤ r_478.toInt ∧ r_478.toInt ≤ 1 := b_r_478
                refine lv_if_eq (tgt := 93) hx hb dX9_paste_78 (by decide) (fun c_479 => ?_) (fun c_479 => ?_)
                ·
                  have n_c_479 : (r_478.toInt : Int) = 0 := c_eq rfl (by decide) c_479
                  have b_r_478 : (0 : Int) ≤ r_478.toInt ∧ r_478.toInt ≤ 0 := r_eq1 b_r_478 (by decide : (0 : Int) ≤ (0 : Int32).toInt ∧ (0 : Int32).toInt ≤ 0) n_c_479 (by decide)
                  refine lv_bipush (v := (-7)) hx hb dX9_paste_93 (by decide) ?_
                  have hP9 := hP.sub (ws' := [(h0, .inr (7, [.ref tp, .ref sc, .ref rd, .ref cu, .ref im, .ref ig, .ref sl, .ref se, .ref sm, .ref fc])), (sl, .inl (cS, 4, .inr (.inr (.inr (.inr (sf4 s0 s1 s2 s3)))))), (s0, .inr (2, [.int wd0, .int rz0, .ref n0])), (s1, .inr (2, [.int wd1, .int rz1, .ref n1])), (s2, .inr (2, [.int wd2, .int rz2, .ref n2])), (s3, .inr (2, [.int wd3, .int rz3, .ref n3])), (n0, .inl (cJ0, 60, .inr (.inl g0))), (n1, .inl (cJ1, 60, .inr (.inl g1))), (n2, .inl (cJ2, 60, .inr (.inl g2))), (n3, .inl (cJ3, 60, .inr (.inl g3)))]) [0, 1, 2, 3, 4, 5, 6, 7, 8, 9] rfl
                  have hD9 := hD.sub (ws' := [(h0, .inr (7, [.ref tp, .ref sc, .ref rd, .ref cu, .ref im, .ref ig, .ref sl, .ref se, .ref sm, .ref fc])), (sl, .inl (cS, 4, .inr (.inr (.inr (.inr (sf4 s0 s1 s2 s3)))))), (s0, .inr (2, [.int wd0, .int rz0, .ref n0])), (s1, .inr (2, [.int wd1, .int rz1, .ref n1])), (s2, .inr (2, [.int wd2, .int rz2, .ref n2])), (s3, .inr (2, [.int wd3, .int rz3, .ref n3])), (n0, .inl (cJ0, 60, .inr (.inl g0))), (n1, .inl (cJ1, 60, .inr (.inl g1))), (n2, .inl (cJ2, 60, .inr (.inl g2))), (n3, .inl (cJ3, 60, .inr (.inl g3)))]) [0, 1, 2, 3, 4, 5, 6, 7, 8, 9] (by decide) rfl
                  have hK9 := hK.sub (tys' := [(cS, .object RX3), (cJ0, .long), (cJ1, .long), (cJ2, .long), (cJ3, .long)]) [0, 1, 2, 3, 4] rfl
                  exact W.iret (v := (-7)) hx hb hr (fun t ht hW => ⟨⟨(-7), (), rfl, (rg_w (by decide : (-7 : Int) ≤ ((-7) : Int32).toInt ∧ ((-7) : Int32).toInt ≤ -7) (by decide) (by decide)), g0, g1, g2, g3, by rw [ht]; exact hP9, va_K.moved hW.alike hK9, hD9⟩, hS.F ht⟩) hS.2.2 dX9_paste_95
                ·
                  have n_c_479 : (r_478.toInt : Int) ≠ 0 := c_ne rfl (by decide) c_479
                  have b_r_478 : (1 : Int) ≤ r_478.toInt ∧ r_478.toInt ≤ 1 := r_ne1 b_r_478 (by decide : (0 : Int) ≤ (0 : Int32).toInt ∧ (0 : Int32).toInt ≤ 0) n_c_479 (by decide)
                  obtain ⟨b_a2, b_a5, g_480⟩ := nz_r_478 c_479
                  refine lv_aload hx hb dX9_paste_81 (lv_at hl 0 rfl) ?_
                  refine lv_iload hx hb dX9_paste_83 (lv_at hl 6 rfl) ?_
                  refine lv_iload hx hb dX9_paste_85 (lv_at hl 7 rfl) ?_
                  refine vp_callSi (W.runV (As := [.int a4, .int a5]) (rest := []) ⟨hx, hb, hml, hown, hts⟩ (kX3_hasStretch l dC dI s0 wd0 rz0 n0 a4 a5 (rg_w b_wd0 (by decide) (by decide)) b_rz0) (cwV 2 hts gX9_paste__X3_hasStretch_V343 rfl rfl rfl hd_yX3_hasStretch ⟨lel 1 2 rfl, lel 22 88 rfl⟩) ⟨pw_fb, rcv_X3 hK hP (q0 := 2) rfl, (pw_use hP hK hN [2] rfl [] rfl)⟩ rfl rfl hl.1 rfl (lv_room (Nat.le_of_ble_eq_true rfl)) dX9_paste_87 ⟨lel 0 0 rfl, lel 0 0 rfl⟩) (fun r_481 h_r_481 => ?_)
                  obtain ⟨b_r_481, nz_r_481⟩ := h_r_481
                  have b_r_481 : (0 : Int) ≤ r_481.toInt ∧ r_481.toInt ≤ 1 := b_r_481
                  refine lv_if_ne (tgt := 96) hx hb dX9_paste_90 (by decide) (fun c_482 => ?_) (fun c_482 => ?_)
                  ·
                    have n_c_482 : (r_481.toInt : Int) ≠ 0 := c_ne rfl (by decide) c_482
                    have b_r_481 : (1 : Int) ≤ r_481.toInt ∧ r_481.toInt ≤ 1 := r_ne1 b_r_481 (by decide : (0 : Int) ≤ (0 : Int32).toInt ∧ (0 : Int32).toInt ≤ 0) n_c_482 (by decide)
                    obtain ⟨b_a4, b_a5, g_483⟩ := nz_r_481 c_482
                    refine lv_aload hx hb dX9_paste_96 (lv_at hl 0 rfl) ?_
                    refine lv_iload hx hb dX9_paste_98 (lv_at hl 6 rfl) ?_
                    refine lv_aload hx hb dX9_paste_100 (lv_at hl 1 rfl) ?_
                    refine lv_iload_n hx hb dX9_paste_102 rfl (lv_at hl 4 rfl) ?_
                    refine lv_iload hx hb dX9_paste_103 (lv_at hl 7 rfl) ?_
                    have hFc := va_free (wc := [(s0, .inr (2, [.int wd0, .int rz0, .ref n0])), (n0, .inl (cJ0, 60, .inr (.inl g0))), (s3, .inr (2, [.int wd3, .int rz3, .ref n3])), (n3, .inl (cJ3, 60, .inr (.inl g3)))]) hD hS hA [2, 6, 5, 9] rfl
                    refine va_callv (va_runV (As := [.int a4, .ref s3, .int a2, .int a5]) (rest := []) ⟨hx, hb, hml, hown, hts⟩ (kX3_take l dC dI s0 wd0 rz0 n0 cJ0 g0 s3 wd3 rz3 n3 cJ3 g3 a4 a2 a5 (s.heap.size) (rg_w b_wd0 (by decide) (by decide)) b_rz0 (rg_w b_wd3 (by decide) (by decide)) b_rz3) (cwV 4 hts gX9_paste__X3_take_V353 rfl rfl rfl hd_yX3_take ⟨lel 2 2 rfl, lel 88 88 rfl⟩) ⟨hw_fb, rcv_X3 hK hP (q0 := 2) rfl, (hw_use hP hD hK hN [2, 6, 5, 9] rfl (by decide) rfl [1, 4] rfl)⟩ rfl rfl hl.1 rfl (lv_room (Nat.le_of_ble_eq_true rfl)) dX9_paste_105 ⟨lel 0 0 rfl, lel 0 0 rfl⟩) hS (fun q _ h => hFc q h) hFc (fun u_485 t H1 locs ht hvm hw_r_484 hB hz1 hk1 hS => ?_)
                    obtain ⟨o0_486, hP1, hK1, hD1⟩ := hB
                    rw [ht] at hP1
                    have hK1 := va_K.moved hvm.symm hK1
                    obtain ⟨hP, hD⟩ := va_join (wr := [(h0, .inr (7, [.ref tp, .ref sc, .ref rd, .ref cu, .ref im, .ref ig, .ref sl, .ref se, .ref sm, .ref fc])), (sl, .inl (cS, 4, .inr (.inr (.inr (.inr (sf4 s0 s1 s2 s3)))))), (s1, .inr (2, [.int wd1, .int rz1, .ref n1])), (s2, .inr (2, [.int wd2, .int rz2, .ref n2])), (n1, .inl (cJ1, 60, .inr (.inl g1))), (n2, .inl (cJ2, 60, .inr (.inl g2)))]) (w1 := [(s0, .inr (2, [.int wd0, .int rz0, .ref n0])), (n0, .inl (cJ0, 60, .inr (.inl o0_486))), (s3, .inr (2, [.int wd3, .int rz3, .ref n3])), (n3, .inl (cJ3, 60, .inr (.inl g3)))]) hP hD [2, 6, 5, 9] [0, 1, 3, 4, 7, 8] rfl rfl (by decide) (by decide) hk1 hFc hP1 hD1
                    have hK := (hK.sub (tys' := [(cS, .object RX3), (cJ1, .long), (cJ2, .long)]) [0, 2, 3] rfl).app hK1
                    generalize H1 = H at hP hS ⊢
                    have hP := hP.sub (ws' := [(h0, .inr (7, [.ref tp, .ref sc, .ref rd, .ref cu, .ref im, .ref ig, .ref sl, .ref se, .ref sm, .ref fc])), (sl, .inl (cS, 4, .inr (.inr (.inr (.inr (sf4 s0 s1 s2 s3)))))), (s0, .inr (2, [.int wd0, .int rz0, .ref n0])), (s1, .inr (2, [.int wd1, .int rz1, .ref n1])), (s2, .inr (2, [.int wd2, .int rz2, .ref n2])), (s3, .inr (2, [.int wd3, .int rz3, .ref n3])), (n0, .inl (cJ0, 60, .inr (.inl o0_486))), (n1, .inl (cJ1, 60, .inr (.inl g1))), (n2, .inl (cJ2, 60, .inr (.inl g2))), (n3, .inl (cJ3, 60, .inr (.inl g3)))]) [0, 1, 6, 2, 3, 8, 7, 4, 5, 9] rfl
                    have hD := hD.sub (ws' := [(h0, .inr (7, [.ref tp, .ref sc, .ref rd, .ref cu, .ref im, .ref ig, .ref sl, .ref se, .ref sm, .ref fc])), (sl, .inl (cS, 4, .inr (.inr (.inr (.inr (sf4 s0 s1 s2 s3)))))), (s0, .inr (2, [.int wd0, .int rz0, .ref n0])), (s1, .inr (2, [.int wd1, .int rz1, .ref n1])), (s2, .inr (2, [.int wd2, .int rz2, .ref n2])), (s3, .inr (2, [.int wd3, .int rz3, .ref n3])), (n0, .inl (cJ0, 60, .inr (.inl o0_486))), (n1, .inl (cJ1, 60, .inr (.inl g1))), (n2, .inl (cJ2, 60, .inr (.inl g2))), (n3, .inl (cJ3, 60, .inr (.inl g3)))]) [0, 1, 6, 2, 3, 8, 7, 4, 5, 9] (by decide) rfl
                    have hK := hK.sub (tys' := [(cS, .object RX3), (cJ0, .long), (cJ1, .long), (cJ2, .long), (cJ3, .long)]) [0, 3, 1, 2, 4] rfl
                    have hP : va_P (dC, dI) vwCl [(h0, .inr (7, [.ref tp, .ref sc, .ref rd, .ref cu, .ref im, .ref ig, .ref sl, .ref se, .ref sm, .ref fc])), (sl, .inl (cS, 4, .inr (.inr (.inr (.inr (sf4 s0 s1 s2 s3)))))), (s0, .inr (2, [.int wd0, .int rz0, .ref n0])), (s1, .inr (2, [.int wd1, .int rz1, .ref n1])), (s2, .inr (2, [.int wd2, .int rz2, .ref n2])), (s3, .inr (2, [.int wd3, .int rz3, .ref n3])), (n0, .inl (cJ0, 60, .inr (.inl o0_486))), (n1, .inl (cJ1, 60, .inr (.inl g1))), (n2, .inl (cJ2, 60, .inr (.inl g2))), (n3, .inl (cJ3, 60, .inr (.inl g3)))] H := hP
                    have hD : va_D A [(h0, .inr (7, [.ref tp, .ref sc, .ref rd, .ref cu, .ref im, .ref ig, .ref sl, .ref se, .ref sm, .ref fc])), (sl, .inl (cS, 4, .inr (.inr (.inr (.inr (sf4 s0 s1 s2 s3)))))), (s0, .inr (2, [.int wd0, .int rz0, .ref n0])), (s1, .inr (2, [.int wd1, .int rz1, .ref n1])), (s2, .inr (2, [.int wd2, .int rz2, .ref n2])), (s3, .inr (2, [.int wd3, .int rz3, .ref n3])), (n0, .inl (cJ0, 60, .inr (.inl o0_486))), (n1, .inl (cJ1, 60, .inr (.inl g1))), (n2, .inl (cJ2, 60, .inr (.inl g2))), (n3, .inl (cJ3, 60, .inr (.inl g3)))] := hD
                    have hK : va_K (dC, dI) vwCl [(cS, .object RX3), (cJ0, .long), (cJ1, .long), (cJ2, .long), (cJ3, .long)] s := hK
                    refine lv_iconst (v := 0) hx hb dX9_paste_108 (by decide) ?_
                    have hP9 := hP.sub (ws' := [(h0, .inr (7, [.ref tp, .ref sc, .ref rd, .ref cu, .ref im, .ref ig, .ref sl, .ref se, .ref sm, .ref fc])), (sl, .inl (cS, 4, .inr (.inr (.inr (.inr (sf4 s0 s1 s2 s3)))))), (s0, .inr (2, [.int wd0, .int rz0, .ref n0])), (s1, .inr (2, [.int wd1, .int rz1, .ref n1])), (s2, .inr (2, [.int wd2, .int rz2, .ref n2])), (s3, .inr (2, [.int wd3, .int rz3, .ref n3])), (n0, .inl (cJ0, 60, .inr (.inl o0_486))), (n1, .inl (cJ1, 60, .inr (.inl g1))), (n2, .inl (cJ2, 60, .inr (.inl g2))), (n3, .inl (cJ3, 60, .inr (.inl g3)))]) [0, 1, 2, 3, 4, 5, 6, 7, 8, 9] rfl
                    have hD9 := hD.sub (ws' := [(h0, .inr (7, [.ref tp, .ref sc, .ref rd, .ref cu, .ref im, .ref ig, .ref sl, .ref se, .ref sm, .ref fc])), (sl, .inl (cS, 4, .inr (.inr (.inr (.inr (sf4 s0 s1 s2 s3)))))), (s0, .inr (2, [.int wd0, .int rz0, .ref n0])), (s1, .inr (2, [.int wd1, .int rz1, .ref n1])), (s2, .inr (2, [.int wd2, .int rz2, .ref n2])), (s3, .inr (2, [.int wd3, .int rz3, .ref n3])), (n0, .inl (cJ0, 60, .inr (.inl o0_486))), (n1, .inl (cJ1, 60, .inr (.inl g1))), (n2, .inl (cJ2, 60, .inr (.inl g2))), (n3, .inl (cJ3, 60, .inr (.inl g3)))]) [0, 1, 2, 3, 4, 5, 6, 7, 8, 9] (by decide) rfl
                    have hK9 := hK.sub (tys' := [(cS, .object RX3), (cJ0, .long), (cJ1, .long), (cJ2, .long), (cJ3, .long)]) [0, 1, 2, 3, 4] rfl
                    exact W.iret (v := 0) hx hb hr (fun t ht hW => ⟨⟨0, (), rfl, (rg_w (by decide : (0 : Int) ≤ (0 : Int32).toInt ∧ (0 : Int32).toInt ≤ 0) (by decide) (by decide)), o0_486, g1, g2, g3, by rw [ht]; exact hP9, va_K.moved hW.alike hK9, hD9⟩, hS.F ht⟩) hS.2.2 dX9_paste_109
                  ·
                    have n_c_482 : (r_481.toInt : Int) = 0 := c_eq rfl (by decide) c_482
                    have b_r_481 : (0 : Int) ≤ r_481.toInt ∧ r_481.toInt ≤ 0 := r_eq1 b_r_481 (by decide : (0 : Int) ≤ (0 : Int32).toInt ∧ (0 : Int32).toInt ≤ 0) n_c_482 (by decide)
                    refine lv_bipush (v := (-7)) hx hb dX9_paste_93 (by decide) ?_
                    have hP9 := hP.sub (ws' := [(h0, .inr (7, [.ref tp, .ref sc, .ref rd, .ref cu, .ref im, .ref ig, .ref sl, .ref se, .ref sm, .ref fc])), (sl, .inl (cS, 4, .inr (.inr (.inr (.inr (sf4 s0 s1 s2 s3)))))), (s0, .inr (2, [.int wd0, .int rz0, .ref n0])), (s1, .inr (2, [.int wd1, .int rz1, .ref n1])), (s2, .inr (2, [.int wd2, .int rz2, .ref n2])), (s3, .inr (2, [.int wd3, .int rz3, .ref n3])), (n0, .inl (cJ0, 60, .inr (.inl g0))), (n1, .inl (cJ1, 60, .inr (.inl g1))), (n2, .inl (cJ2, 60, .inr (.inl g2))), (n3, .inl (cJ3, 60, .inr (.inl g3)))]) [0, 1, 2, 3, 4, 5, 6, 7, 8, 9] rfl
                    have hD9 := hD.sub (ws' := [(h0, .inr (7, [.ref tp, .ref sc, .ref rd, .ref cu, .ref im, .ref ig, .ref sl, .ref se, .ref sm, .ref fc])), (sl, .inl (cS, 4, .inr (.inr (.inr (.inr (sf4 s0 s1 s2 s3)))))), (s0, .inr (2, [.int wd0, .int rz0, .ref n0])), (s1, .inr (2, [.int wd1, .int rz1, .ref n1])), (s2, .inr (2, [.int wd2, .int rz2, .ref n2])), (s3, .inr (2, [.int wd3, .int rz3, .ref n3])), (n0, .inl (cJ0, 60, .inr (.inl g0))), (n1, .inl (cJ1, 60, .inr (.inl g1))), (n2, .inl (cJ2, 60, .inr (.inl g2))), (n3, .inl (cJ3, 60, .inr (.inl g3)))]) [0, 1, 2, 3, 4, 5, 6, 7, 8, 9] (by decide) rfl
                    have hK9 := hK.sub (tys' := [(cS, .object RX3), (cJ0, .long), (cJ1, .long), (cJ2, .long), (cJ3, .long)]) [0, 1, 2, 3, 4] rfl
                    exact W.iret (v := (-7)) hx hb hr (fun t ht hW => ⟨⟨(-7), (), rfl, (rg_w (by decide : (-7 : Int) ≤ ((-7) : Int32).toInt ∧ ((-7) : Int32).toInt ≤ -7) (by decide) (by decide)), g0, g1, g2, g3, by rw [ht]; exact hP9, va_K.moved hW.alike hK9, hD9⟩, hS.F ht⟩) hS.2.2 dX9_paste_95
              ·
                have n_c_477 : (wd3.toInt : Int) ≠ wd0.toInt := c_ne rfl rfl c_477
                refine lv_bipush (v := (-8)) hx hb dX9_paste_67 (by decide) ?_
                have hP9 := hP.sub (ws' := [(h0, .inr (7, [.ref tp, .ref sc, .ref rd, .ref cu, .ref im, .ref ig, .ref sl, .ref se, .ref sm, .ref fc])), (sl, .inl (cS, 4, .inr (.inr (.inr (.inr (sf4 s0 s1 s2 s3)))))), (s0, .inr (2, [.int wd0, .int rz0, .ref n0])), (s1, .inr (2, [.int wd1, .int rz1, .ref n1])), (s2, .inr (2, [.int wd2, .int rz2, .ref n2])), (s3, .inr (2, [.int wd3, .int rz3, .ref n3])), (n0, .inl (cJ0, 60, .inr (.inl g0))), (n1, .inl (cJ1, 60, .inr (.inl g1))), (n2, .inl (cJ2, 60, .inr (.inl g2))), (n3, .inl (cJ3, 60, .inr (.inl g3)))]) [0, 1, 2, 3, 4, 5, 6, 7, 8, 9] rfl
                have hD9 := hD.sub (ws' := [(h0, .inr (7, [.ref tp, .ref sc, .ref rd, .ref cu, .ref im, .ref ig, .ref sl, .ref se, .ref sm, .ref fc])), (sl, .inl (cS, 4, .inr (.inr (.inr (.inr (sf4 s0 s1 s2 s3)))))), (s0, .inr (2, [.int wd0, .int rz0, .ref n0])), (s1, .inr (2, [.int wd1, .int rz1, .ref n1])), (s2, .inr (2, [.int wd2, .int rz2, .ref n2])), (s3, .inr (2, [.int wd3, .int rz3, .ref n3])), (n0, .inl (cJ0, 60, .inr (.inl g0))), (n1, .inl (cJ1, 60, .inr (.inl g1))), (n2, .inl (cJ2, 60, .inr (.inl g2))), (n3, .inl (cJ3, 60, .inr (.inl g3)))]) [0, 1, 2, 3, 4, 5, 6, 7, 8, 9] (by decide) rfl
                have hK9 := hK.sub (tys' := [(cS, .object RX3), (cJ0, .long), (cJ1, .long), (cJ2, .long), (cJ3, .long)]) [0, 1, 2, 3, 4] rfl
                exact W.iret (v := (-8)) hx hb hr (fun t ht hW => ⟨⟨(-8), (), rfl, (rg_w (by decide : (-8 : Int) ≤ ((-8) : Int32).toInt ∧ ((-8) : Int32).toInt ≤ -8) (by decide) (by decide)), g0, g1, g2, g3, by rw [ht]; exact hP9, va_K.moved hW.alike hK9, hD9⟩, hS.F ht⟩) hS.2.2 dX9_paste_69
            ·
              have n_c_475 : (r_474.toInt : Int) = 0 := c_eq rfl (by decide) c_475
              have b_r_474 : (0 : Int) ≤ r_474.toInt ∧ r_474.toInt ≤ 0 := r_eq1 b_r_474 (by decide : (0 : Int) ≤ (0 : Int32).toInt ∧ (0 : Int32).toInt ≤ 0) n_c_475 (by decide)
              refine lv_bipush (v := (-6)) hx hb dX9_paste_51 (by decide) ?_
              have hP9 := hP.sub (ws' := [(h0, .inr (7, [.ref tp, .ref sc, .ref rd, .ref cu, .ref im, .ref ig, .ref sl, .ref se, .ref sm, .ref fc])), (sl, .inl (cS, 4, .inr (.inr (.inr (.inr (sf4 s0 s1 s2 s3)))))), (s0, .inr (2, [.int wd0, .int rz0, .ref n0])), (s1, .inr (2, [.int wd1, .int rz1, .ref n1])), (s2, .inr (2, [.int wd2, .int rz2, .ref n2])), (s3, .inr (2, [.int wd3, .int rz3, .ref n3])), (n0, .inl (cJ0, 60, .inr (.inl g0))), (n1, .inl (cJ1, 60, .inr (.inl g1))), (n2, .inl (cJ2, 60, .inr (.inl g2))), (n3, .inl (cJ3, 60, .inr (.inl g3)))]) [0, 1, 2, 3, 4, 5, 6, 7, 8, 9] rfl
              have hD9 := hD.sub (ws' := [(h0, .inr (7, [.ref tp, .ref sc, .ref rd, .ref cu, .ref im, .ref ig, .ref sl, .ref se, .ref sm, .ref fc])), (sl, .inl (cS, 4, .inr (.inr (.inr (.inr (sf4 s0 s1 s2 s3)))))), (s0, .inr (2, [.int wd0, .int rz0, .ref n0])), (s1, .inr (2, [.int wd1, .int rz1, .ref n1])), (s2, .inr (2, [.int wd2, .int rz2, .ref n2])), (s3, .inr (2, [.int wd3, .int rz3, .ref n3])), (n0, .inl (cJ0, 60, .inr (.inl g0))), (n1, .inl (cJ1, 60, .inr (.inl g1))), (n2, .inl (cJ2, 60, .inr (.inl g2))), (n3, .inl (cJ3, 60, .inr (.inl g3)))]) [0, 1, 2, 3, 4, 5, 6, 7, 8, 9] (by decide) rfl
              have hK9 := hK.sub (tys' := [(cS, .object RX3), (cJ0, .long), (cJ1, .long), (cJ2, .long), (cJ3, .long)]) [0, 1, 2, 3, 4] rfl
              exact W.iret (v := (-6)) hx hb hr (fun t ht hW => ⟨⟨(-6), (), rfl, (rg_w (by decide : (-6 : Int) ≤ ((-6) : Int32).toInt ∧ ((-6) : Int32).toInt ≤ -6) (by decide) (by decide)), g0, g1, g2, g3, by rw [ht]; exact hP9, va_K.moved hW.alike hK9, hD9⟩, hS.F ht⟩) hS.2.2 dX9_paste_53
        ·
          obtain rfl : a3 = 1 := Int32.toInt_inj.mp (h_470.trans (by decide))
          refine va_aldq hx hb hK hP 1 0 rfl rfl (vp_in_b (by decide : (1 : Int) ≤ (1 : Int32).toInt ∧ (1 : Int32).toInt ≤ 1) (by decide) (by decide)) dX9_paste_32 ?_
          refine W.eq (g2 := F0 m 33 ls (.ref s1 :: [])) (congrArg (fun v => F0 m 33 ls (va_rf v :: [])) (sf4_1 s0 s1 s2 s3)) ?_
          refine lv_astore (lv' := [(7, .ref s1), (6, .ref s3), (0, .ref h0), (1, .int 3), (2, .int a2), (3, .int 1), (4, .int a4), (5, .int a5)]) hx hb dX9_paste_33 hl (by decide) rfl (fun ls hl => ?_)
          refine lv_aload hx hb dX9_paste_35 (lv_at hl 1 rfl) ?_
          refine vp_callSi (W.runV (As := []) (rest := []) ⟨hx, hb, hml, hown, hts⟩ (kX3_stands l dC dI s3 wd3 rz3 n3 b_wd3 b_rz3) (cwV 0 hts gX9_paste__X3_stands_V270 rfl rfl rfl hd_yX3_stands ⟨lel 1 2 rfl, lel 20 88 rfl⟩) ⟨pw_fb, rcv_X3 hK hP (q0 := 5) rfl, (pw_use hP hK hN [5] rfl [] rfl)⟩ rfl rfl hl.1 rfl (lv_room (Nat.le_of_ble_eq_true rfl)) dX9_paste_37 ⟨lel 0 0 rfl, lel 0 0 rfl⟩) (fun r_487 h_r_487 => ?_)
          obtain ⟨b_r_487, nz_r_487⟩ := h_r_487
          have b_r_487 : (0 : Int) ≤ r_487.toInt ∧ r_487.toInt ≤ 1 := b_r_487
          refine lv_if_eq (tgt := 51) hx hb dX9_paste_40 (by decide) (fun c_488 => ?_) (fun c_488 => ?_)
          ·
            have n_c_488 : (r_487.toInt : Int) = 0 := c_eq rfl (by decide) c_488
            have b_r_487 : (0 : Int) ≤ r_487.toInt ∧ r_487.toInt ≤ 0 := r_eq1 b_r_487 (by decide : (0 : Int) ≤ (0 : Int32).toInt ∧ (0 : Int32).toInt ≤ 0) n_c_488 (by decide)
            refine lv_bipush (v := (-6)) hx hb dX9_paste_51 (by decide) ?_
            have hP9 := hP.sub (ws' := [(h0, .inr (7, [.ref tp, .ref sc, .ref rd, .ref cu, .ref im, .ref ig, .ref sl, .ref se, .ref sm, .ref fc])), (sl, .inl (cS, 4, .inr (.inr (.inr (.inr (sf4 s0 s1 s2 s3)))))), (s0, .inr (2, [.int wd0, .int rz0, .ref n0])), (s1, .inr (2, [.int wd1, .int rz1, .ref n1])), (s2, .inr (2, [.int wd2, .int rz2, .ref n2])), (s3, .inr (2, [.int wd3, .int rz3, .ref n3])), (n0, .inl (cJ0, 60, .inr (.inl g0))), (n1, .inl (cJ1, 60, .inr (.inl g1))), (n2, .inl (cJ2, 60, .inr (.inl g2))), (n3, .inl (cJ3, 60, .inr (.inl g3)))]) [0, 1, 2, 3, 4, 5, 6, 7, 8, 9] rfl
            have hD9 := hD.sub (ws' := [(h0, .inr (7, [.ref tp, .ref sc, .ref rd, .ref cu, .ref im, .ref ig, .ref sl, .ref se, .ref sm, .ref fc])), (sl, .inl (cS, 4, .inr (.inr (.inr (.inr (sf4 s0 s1 s2 s3)))))), (s0, .inr (2, [.int wd0, .int rz0, .ref n0])), (s1, .inr (2, [.int wd1, .int rz1, .ref n1])), (s2, .inr (2, [.int wd2, .int rz2, .ref n2])), (s3, .inr (2, [.int wd3, .int rz3, .ref n3])), (n0, .inl (cJ0, 60, .inr (.inl g0))), (n1, .inl (cJ1, 60, .inr (.inl g1))), (n2, .inl (cJ2, 60, .inr (.inl g2))), (n3, .inl (cJ3, 60, .inr (.inl g3)))]) [0, 1, 2, 3, 4, 5, 6, 7, 8, 9] (by decide) rfl
            have hK9 := hK.sub (tys' := [(cS, .object RX3), (cJ0, .long), (cJ1, .long), (cJ2, .long), (cJ3, .long)]) [0, 1, 2, 3, 4] rfl
            exact W.iret (v := (-6)) hx hb hr (fun t ht hW => ⟨⟨(-6), (), rfl, (rg_w (by decide : (-6 : Int) ≤ ((-6) : Int32).toInt ∧ ((-6) : Int32).toInt ≤ -6) (by decide) (by decide)), g0, g1, g2, g3, by rw [ht]; exact hP9, va_K.moved hW.alike hK9, hD9⟩, hS.F ht⟩) hS.2.2 dX9_paste_53
          ·
            have n_c_488 : (r_487.toInt : Int) ≠ 0 := c_ne rfl (by decide) c_488
            have b_r_487 : (1 : Int) ≤ r_487.toInt ∧ r_487.toInt ≤ 1 := r_ne1 b_r_487 (by decide : (0 : Int) ≤ (0 : Int32).toInt ∧ (0 : Int32).toInt ≤ 0) n_c_488 (by decide)
            obtain ⟨b_wd3, g_489⟩ := nz_r_487 c_488
            refine lv_aload hx hb dX9_paste_43 (lv_at hl 0 rfl) ?_
            refine vp_callSi (W.runV (As := []) (rest := []) ⟨hx, hb, hml, hown, hts⟩ (kX3_stands l dC dI s1 wd1 rz1 n1 b_wd1 b_rz1) (cwV 0 hts gX9_paste__X3_stands_V270 rfl rfl rfl hd_yX3_stands ⟨lel 1 2 rfl, lel 20 88 rfl⟩) ⟨pw_fb, rcv_X3 hK hP (q0 := 3) rfl, (pw_use hP hK hN [3] rfl [] rfl)⟩ rfl rfl hl.1 rfl (lv_room (Nat.le_of_ble_eq_true rfl)) dX9_paste_45 ⟨lel 0 0 rfl, lel 0 0 rfl⟩) (fun r_490 h_r_490 => ?_)
            obtain ⟨b_r_490, nz_r_490⟩ := h_r_490
            have b_r_490 : (0 : Int) ≤ r_490.toInt ∧ r_490.toInt ≤ 1 := b_r_490
            refine lv_if_ne (tgt := 54) hx hb dX9_paste_48 (by decide) (fun c_491 => ?_) (fun c_491 => ?_)
            ·
              have n_c_491 : (r_490.toInt : Int) ≠ 0 := c_ne rfl (by decide) c_491
              have b_r_490 : (1 : Int) ≤ r_490.toInt ∧ r_490.toInt ≤ 1 := r_ne1 b_r_490 (by decide : (0 : Int) ≤ (0 : Int32).toInt ∧ (0 : Int32).toInt ≤ 0) n_c_491 (by decide)
              obtain ⟨b_wd1, g_492⟩ := nz_r_490 c_491
              refine lv_aload hx hb dX9_paste_54 (lv_at hl 1 rfl) ?_
              refine va_getN (own := RX9) (index := 350) (ref := RX3) (host := RX9) (D := (dC, dI)) (ci := 2) (v := .int wd3) (C := RX3) (T := TX3) (N := 3) hx hb hts iX9_paste_X3 hown hK hP 5 rfl rfl 0 (by decide) (va_Nw.use rfl (hN _ (List.mem_of_getElem? (i := 21) rfl))) (fun _ h9 => h9) rfl dX9_paste_56 ?_
              refine lv_aload hx hb dX9_paste_59 (lv_at hl 0 rfl) ?_
              refine va_getN (own := RX9) (index := 350) (ref := RX3) (host := RX9) (D := (dC, dI)) (ci := 2) (v := .int wd1) (C := RX3) (T := TX3) (N := 3) hx hb hts iX9_paste_X3 hown hK hP 3 rfl rfl 0 (by decide) (va_Nw.use rfl (hN _ (List.mem_of_getElem? (i := 21) rfl))) (fun _ h9 => h9) rfl dX9_paste_61 ?_
              refine lv_icmp_eq (tgt := 70) hx hb dX9_paste_64 (by decide) (fun c_493 => ?_) (fun c_493 => ?_)
              ·
                have n_c_493 : (wd3.toInt : Int) = wd1.toInt := c_eq rfl rfl c_493
                refine lv_aload hx hb dX9_paste_70 (lv_at hl 1 rfl) ?_
                refine lv_iload_n hx hb dX9_paste_72 rfl (lv_at hl 4 rfl) ?_
                refine lv_iload hx hb dX9_paste_73 (lv_at hl 7 rfl) ?_
                refine vp_callSi (W.runV (As := [.int a2, .int a5]) (rest := []) ⟨hx, hb, hml, hown, hts⟩ (kX3_hasStretch l dC dI s3 wd3 rz3 n3 a2 a5 (rg_w b_wd3 (by decide) (by decide)) b_rz3) (cwV 2 hts gX9_paste__X3_hasStretch_V343 rfl rfl rfl hd_yX3_hasStretch ⟨lel 1 2 rfl, lel 22 88 rfl⟩) ⟨pw_fb, rcv_X3 hK hP (q0 := 5) rfl, (pw_use hP hK hN [5] rfl [] rfl)⟩ rfl rfl hl.1 rfl (lv_room (Nat.le_of_ble_eq_true rfl)) dX9_paste_75 ⟨lel 0 0 rfl, lel 0 0 rfl⟩) (fun r_494 h_r_494 => ?_)
                obtain ⟨b_r_494, nz_r_494⟩ := h_r_494
                have b_r_494 : (0 : Int) ≤ r_494.toInt ∧ r_494.toInt ≤ 1 := b_r_494
                refine lv_if_eq (tgt := 93) hx hb dX9_paste_78 (by decide) (fun c_495 => ?_) (fun c_495 => ?_)
                ·
                  have n_c_495 : (r_494.toInt : Int) = 0 := c_eq rfl (by decide) c_495
                  have b_r_494 : (0 : Int) ≤ r_494.toInt ∧ r_494.toInt ≤ 0 := r_eq1 b_r_494 (by decide : (0 : Int) ≤ (0 : Int32).toInt ∧ (0 : Int32).toInt ≤ 0) n_c_495 (by decide)
                  refine lv_bipush (v := (-7)) hx hb dX9_paste_93 (by decide) ?_
                  have hP9 := hP.sub (ws' := [(h0, .inr (7, [.ref tp, .ref sc, .ref rd, .ref cu, .ref im, .ref ig, .ref sl, .ref se, .ref sm, .ref fc])), (sl, .inl (cS, 4, .inr (.inr (.inr (.inr (sf4 s0 s1 s2 s3)))))), (s0, .inr (2, [.int wd0, .int rz0, .ref n0])), (s1, .inr (2, [.int wd1, .int rz1, .ref n1])), (s2, .inr (2, [.int wd2, .int rz2, .ref n2])), (s3, .inr (2, [.int wd3, .int rz3, .ref n3])), (n0, .inl (cJ0, 60, .inr (.inl g0))), (n1, .inl (cJ1, 60, .inr (.inl g1))), (n2, .inl (cJ2, 60, .inr (.inl g2))), (n3, .inl (cJ3, 60, .inr (.inl g3)))]) [0, 1, 2, 3, 4, 5, 6, 7, 8, 9] rfl
                  have hD9 := hD.sub (ws' := [(h0, .inr (7, [.ref tp, .ref sc, .ref rd, .ref cu, .ref im, .ref ig, .ref sl, .ref se, .ref sm, .ref fc])), (sl, .inl (cS, 4, .inr (.inr (.inr (.inr (sf4 s0 s1 s2 s3)))))), (s0, .inr (2, [.int wd0, .int rz0, .ref n0])), (s1, .inr (2, [.int wd1, .int rz1, .ref n1])), (s2, .inr (2, [.int wd2, .int rz2, .ref n2])), (s3, .inr (2, [.int wd3, .int rz3, .ref n3])), (n0, .inl (cJ0, 60, .inr (.inl g0))), (n1, .inl (cJ1, 60, .inr (.inl g1))), (n2, .inl (cJ2, 60, .inr (.inl g2))), (n3, .inl (cJ3, 60, .inr (.inl g3)))]) [0, 1, 2, 3, 4, 5, 6, 7, 8, 9] (by decide) rfl
                  have hK9 := hK.sub (tys' := [(cS, .object RX3), (cJ0, .long), (cJ1, .long), (cJ2, .long), (cJ3, .long)]) [0, 1, 2, 3, 4] rfl
                  exact W.iret (v := (-7)) hx hb hr (fun t ht hW => ⟨⟨(-7), (), rfl, (rg_w (by decide : (-7 : Int) ≤ ((-7) : Int32).toInt ∧ ((-7) : Int32).toInt ≤ -7) (by decide) (by decide)), g0, g1, g2, g3, by rw [ht]; exact hP9, va_K.moved hW.alike hK9, hD9⟩, hS.F ht⟩) hS.2.2 dX9_paste_95
                ·
                  have n_c_495 : (r_494.toInt : Int) ≠ 0 := c_ne rfl (by decide) c_495
                  have b_r_494 : (1 : Int) ≤ r_494.toInt ∧ r_494.toInt ≤ 1 := r_ne1 b_r_494 (by decide : (0 : Int) ≤ (0 : Int32).toInt ∧ (0 : Int32).toInt ≤ 0) n_c_495 (by decide)
                  obtain ⟨b_a2, b_a5, g_496⟩ := nz_r_494 c_495
                  refine lv_aload hx hb dX9_paste_81 (lv_at hl 0 rfl) ?_
                  refine lv_iload hx hb dX9_paste_83 (lv_at hl 6 rfl) ?_
                  refine lv_iload hx hb dX9_paste_85 (lv_at hl 7 rfl) ?_
                  refine vp_callSi (W.runV (As := [.int a4, .int a5]) (rest := []) ⟨hx, hb, hml, hown, hts⟩ (kX3_hasStretch l dC dI s1 wd1 rz1 n1 a4 a5 (rg_w b_wd1 (by decide) (by decide)) b_rz1) (cwV 2 hts gX9_paste__X3_hasStretch_V343 rfl rfl rfl hd_yX3_hasStretch ⟨lel 1 2 rfl, lel 22 88 rfl⟩) ⟨pw_fb, rcv_X3 hK hP (q0 := 3) rfl, (pw_use hP hK hN [3] rfl [] rfl)⟩ rfl rfl hl.1 rfl (lv_room (Nat.le_of_ble_eq_true rfl)) dX9_paste_87 ⟨lel 0 0 rfl, lel 0 0 rfl⟩) (fun r_497 h_r_497 => ?_)
                  obtain ⟨b_r_497, nz_r_497⟩ := h_r_497
                  have b_r_497 : (0 : Int) ≤ r_497.toInt ∧ r_497.toInt ≤ 1 := b_r_497
                  refine lv_if_ne (tgt := 96) hx hb dX9_paste_90 (by decide) (fun c_498 => ?_) (fun c_498 => ?_)
                  ·
                    have n_c_498 : (r_497.toInt : Int) ≠ 0 := c_ne rfl (by decide) c_498
                    have b_r_497 : (1 : Int) ≤ r_497.toInt ∧ r_497.toInt ≤ 1 := r_ne1 b_r_497 (by decide : (0 : Int) ≤ (0 : Int32).toInt ∧ (0 : Int32).toInt ≤ 0) n_c_498 (by decide)
                    obtain ⟨b_a4, b_a5, g_499⟩ := nz_r_497 c_498
                    refine lv_aload hx hb dX9_paste_96 (lv_at hl 0 rfl) ?_
                    refine lv_iload hx hb dX9_paste_98 (lv_at hl 6 rfl) ?_
                    refine lv_aload hx hb dX9_paste_100 (lv_at hl 1 rfl) ?_
                    refine lv_iload_n hx hb dX9_paste_102 rfl (lv_at hl 4 rfl) ?_
                    refine lv_iload hx hb dX9_paste_103 (lv_at hl 7 rfl) ?_
                    have hFc := va_free (wc := [(s1, .inr (2, [.int wd1, .int rz1, .ref n1])), (n1, .inl (cJ1, 60, .inr (.inl g1))), (s3, .inr (2, [.int wd3, .int rz3, .ref n3])), (n3, .inl (cJ3, 60, .inr (.inl g3)))]) hD hS hA [3, 7, 5, 9] rfl
                    refine va_callv (va_runV (As := [.int a4, .ref s3, .int a2, .int a5]) (rest := []) ⟨hx, hb, hml, hown, hts⟩ (kX3_take l dC dI s1 wd1 rz1 n1 cJ1 g1 s3 wd3 rz3 n3 cJ3 g3 a4 a2 a5 (s.heap.size) (rg_w b_wd1 (by decide) (by decide)) b_rz1 (rg_w b_wd3 (by decide) (by decide)) b_rz3) (cwV 4 hts gX9_paste__X3_take_V353 rfl rfl rfl hd_yX3_take ⟨lel 2 2 rfl, lel 88 88 rfl⟩) ⟨hw_fb, rcv_X3 hK hP (q0 := 3) rfl, (hw_use hP hD hK hN [3, 7, 5, 9] rfl (by decide) rfl [2, 4] rfl)⟩ rfl rfl hl.1 rfl (lv_room (Nat.le_of_ble_eq_true rfl)) dX9_paste_105 ⟨lel 0 0 rfl, lel 0 0 rfl⟩) hS (fun q _ h => hFc q h) hFc (fun u_501 t H1 locs ht hvm hw_r_500 hB hz1 hk1 hS => ?_)
                    obtain ⟨o0_502, hP1, hK1, hD1⟩ := hB
                    rw [ht] at hP1
                    have hK1 := va_K.moved hvm.symm hK1
                    obtain ⟨hP, hD⟩ := va_join (wr := [(h0, .inr (7, [.ref tp, .ref sc, .ref rd, .ref cu, .ref im, .ref ig, .ref sl, .ref se, .ref sm, .ref fc])), (sl, .inl (cS, 4, .inr (.inr (.inr (.inr (sf4 s0 s1 s2 s3)))))), (s0, .inr (2, [.int wd0, .int rz0, .ref n0])), (s2, .inr (2, [.int wd2, .int rz2, .ref n2])), (n0, .inl (cJ0, 60, .inr (.inl g0))), (n2, .inl (cJ2, 60, .inr (.inl g2)))]) (w1 := [(s1, .inr (2, [.int wd1, .int rz1, .ref n1])), (n1, .inl (cJ1, 60, .inr (.inl o0_502))), (s3, .inr (2, [.int wd3, .int rz3, .ref n3])), (n3, .inl (cJ3, 60, .inr (.inl g3)))]) hP hD [3, 7, 5, 9] [0, 1, 2, 4, 6, 8] rfl rfl (by decide) (by decide) hk1 hFc hP1 hD1
                    have hK := (hK.sub (tys' := [(cS, .object RX3), (cJ0, .long), (cJ2, .long)]) [0, 1, 3] rfl).app hK1
                    generalize H1 = H at hP hS ⊢
                    have hP := hP.sub (ws' := [(h0, .inr (7, [.ref tp, .ref sc, .ref rd, .ref cu, .ref im, .ref ig, .ref sl, .ref se, .ref sm, .ref fc])), (sl, .inl (cS, 4, .inr (.inr (.inr (.inr (sf4 s0 s1 s2 s3)))))), (s0, .inr (2, [.int wd0, .int rz0, .ref n0])), (s1, .inr (2, [.int wd1, .int rz1, .ref n1])), (s2, .inr (2, [.int wd2, .int rz2, .ref n2])), (s3, .inr (2, [.int wd3, .int rz3, .ref n3])), (n0, .inl (cJ0, 60, .inr (.inl g0))), (n1, .inl (cJ1, 60, .inr (.inl o0_502))), (n2, .inl (cJ2, 60, .inr (.inl g2))), (n3, .inl (cJ3, 60, .inr (.inl g3)))]) [0, 1, 2, 6, 3, 8, 4, 7, 5, 9] rfl
                    have hD := hD.sub (ws' := [(h0, .inr (7, [.ref tp, .ref sc, .ref rd, .ref cu, .ref im, .ref ig, .ref sl, .ref se, .ref sm, .ref fc])), (sl, .inl (cS, 4, .inr (.inr (.inr (.inr (sf4 s0 s1 s2 s3)))))), (s0, .inr (2, [.int wd0, .int rz0, .ref n0])), (s1, .inr (2, [.int wd1, .int rz1, .ref n1])), (s2, .inr (2, [.int wd2, .int rz2, .ref n2])), (s3, .inr (2, [.int wd3, .int rz3, .ref n3])), (n0, .inl (cJ0, 60, .inr (.inl g0))), (n1, .inl (cJ1, 60, .inr (.inl o0_502))), (n2, .inl (cJ2, 60, .inr (.inl g2))), (n3, .inl (cJ3, 60, .inr (.inl g3)))]) [0, 1, 2, 6, 3, 8, 4, 7, 5, 9] (by decide) rfl
                    have hK := hK.sub (tys' := [(cS, .object RX3), (cJ0, .long), (cJ1, .long), (cJ2, .long), (cJ3, .long)]) [0, 1, 3, 2, 4] rfl
                    have hP : va_P (dC, dI) vwCl [(h0, .inr (7, [.ref tp, .ref sc, .ref rd, .ref cu, .ref im, .ref ig, .ref sl, .ref se, .ref sm, .ref fc])), (sl, .inl (cS, 4, .inr (.inr (.inr (.inr (sf4 s0 s1 s2 s3)))))), (s0, .inr (2, [.int wd0, .int rz0, .ref n0])), (s1, .inr (2, [.int wd1, .int rz1, .ref n1])), (s2, .inr (2, [.int wd2, .int rz2, .ref n2])), (s3, .inr (2, [.int wd3, .int rz3, .ref n3])), (n0, .inl (cJ0, 60, .inr (.inl g0))), (n1, .inl (cJ1, 60, .inr (.inl o0_502))), (n2, .inl (cJ2, 60, .inr (.inl g2))), (n3, .inl (cJ3, 60, .inr (.inl g3)))] H := hP
                    have hD : va_D A [(h0, .inr (7, [.ref tp, .ref sc, .ref rd, .ref cu, .ref im, .ref ig, .ref sl, .ref se, .ref sm, .ref fc])), (sl, .inl (cS, 4, .inr (.inr (.inr (.inr (sf4 s0 s1 s2 s3)))))), (s0, .inr (2, [.int wd0, .int rz0, .ref n0])), (s1, .inr (2, [.int wd1, .int rz1, .ref n1])), (s2, .inr (2, [.int wd2, .int rz2, .ref n2])), (s3, .inr (2, [.int wd3, .int rz3, .ref n3])), (n0, .inl (cJ0, 60, .inr (.inl g0))), (n1, .inl (cJ1, 60, .inr (.inl o0_502))), (n2, .inl (cJ2, 60, .inr (.inl g2))), (n3, .inl (cJ3, 60, .inr (.inl g3)))] := hD
                    have hK : va_K (dC, dI) vwCl [(cS, .object RX3), (cJ0, .long), (cJ1, .long), (cJ2, .long), (cJ3, .long)] s := hK
                    refine lv_iconst (v := 0) hx hb dX9_paste_108 (by decide) ?_
                    have hP9 := hP.sub (ws' := [(h0, .inr (7, [.ref tp, .ref sc, .ref rd, .ref cu, .ref im, .ref ig, .ref sl, .ref se, .ref sm, .ref fc])), (sl, .inl (cS, 4, .inr (.inr (.inr (.inr (sf4 s0 s1 s2 s3)))))), (s0, .inr (2, [.int wd0, .int rz0, .ref n0])), (s1, .inr (2, [.int wd1, .int rz1, .ref n1])), (s2, .inr (2, [.int wd2, .int rz2, .ref n2])), (s3, .inr (2, [.int wd3, .int rz3, .ref n3])), (n0, .inl (cJ0, 60, .inr (.inl g0))), (n1, .inl (cJ1, 60, .inr (.inl o0_502))), (n2, .inl (cJ2, 60, .inr (.inl g2))), (n3, .inl (cJ3, 60, .inr (.inl g3)))]) [0, 1, 2, 3, 4, 5, 6, 7, 8, 9] rfl
                    have hD9 := hD.sub (ws' := [(h0, .inr (7, [.ref tp, .ref sc, .ref rd, .ref cu, .ref im, .ref ig, .ref sl, .ref se, .ref sm, .ref fc])), (sl, .inl (cS, 4, .inr (.inr (.inr (.inr (sf4 s0 s1 s2 s3)))))), (s0, .inr (2, [.int wd0, .int rz0, .ref n0])), (s1, .inr (2, [.int wd1, .int rz1, .ref n1])), (s2, .inr (2, [.int wd2, .int rz2, .ref n2])), (s3, .inr (2, [.int wd3, .int rz3, .ref n3])), (n0, .inl (cJ0, 60, .inr (.inl g0))), (n1, .inl (cJ1, 60, .inr (.inl o0_502))), (n2, .inl (cJ2, 60, .inr (.inl g2))), (n3, .inl (cJ3, 60, .inr (.inl g3)))]) [0, 1, 2, 3, 4, 5, 6, 7, 8, 9] (by decide) rfl
                    have hK9 := hK.sub (tys' := [(cS, .object RX3), (cJ0, .long), (cJ1, .long), (cJ2, .long), (cJ3, .long)]) [0, 1, 2, 3, 4] rfl
                    exact W.iret (v := 0) hx hb hr (fun t ht hW => ⟨⟨0, (), rfl, (rg_w (by decide : (0 : Int) ≤ (0 : Int32).toInt ∧ (0 : Int32).toInt ≤ 0) (by decide) (by decide)), g0, o0_502, g2, g3, by rw [ht]; exact hP9, va_K.moved hW.alike hK9, hD9⟩, hS.F ht⟩) hS.2.2 dX9_paste_109
                  ·
                    have n_c_498 : (r_497.toInt : Int) = 0 := c_eq rfl (by decide) c_498
                    have b_r_497 : (0 : Int) ≤ r_497.toInt ∧ r_497.toInt ≤ 0 := r_eq1 b_r_497 (by decide : (0 : Int) ≤ (0 : Int32).toInt ∧ (0 : Int32).toInt ≤ 0) n_c_498 (by decide)
                    refine lv_bipush (v := (-7)) hx hb dX9_paste_93 (by decide) ?_
                    have hP9 := hP.sub (ws' := [(h0, .inr (7, [.ref tp, .ref sc, .ref rd, .ref cu, .ref im, .ref ig, .ref sl, .ref se, .ref sm, .ref fc])), (sl, .inl (cS, 4, .inr (.inr (.inr (.inr (sf4 s0 s1 s2 s3)))))), (s0, .inr (2, [.int wd0, .int rz0, .ref n0])), (s1, .inr (2, [.int wd1, .int rz1, .ref n1])), (s2, .inr (2, [.int wd2, .int rz2, .ref n2])), (s3, .inr (2, [.int wd3, .int rz3, .ref n3])), (n0, .inl (cJ0, 60, .inr (.inl g0))), (n1, .inl (cJ1, 60, .inr (.inl g1))), (n2, .inl (cJ2, 60, .inr (.inl g2))), (n3, .inl (cJ3, 60, .inr (.inl g3)))]) [0, 1, 2, 3, 4, 5, 6, 7, 8, 9] rfl
                    have hD9 := hD.sub (ws' := [(h0, .inr (7, [.ref tp, .ref sc, .ref rd, .ref cu, .ref im, .ref ig, .ref sl, .ref se, .ref sm, .ref fc])), (sl, .inl (cS, 4, .inr (.inr (.inr (.inr (sf4 s0 s1 s2 s3)))))), (s0, .inr (2, [.int wd0, .int rz0, .ref n0])), (s1, .inr (2, [.int wd1, .int rz1, .ref n1])), (s2, .inr (2, [.int wd2, .int rz2, .ref n2])), (s3, .inr (2, [.int wd3, .int rz3, .ref n3])), (n0, .inl (cJ0, 60, .inr (.inl g0))), (n1, .inl (cJ1, 60, .inr (.inl g1))), (n2, .inl (cJ2, 60, .inr (.inl g2))), (n3, .inl (cJ3, 60, .inr (.inl g3)))]) [0, 1, 2, 3, 4, 5, 6, 7, 8, 9] (by decide) rfl
                    have hK9 := hK.sub (tys' := [(cS, .object RX3), (cJ0, .long), (cJ1, .long), (cJ2, .long), (cJ3, .long)]) [0, 1, 2, 3, 4] rfl
                    exact W.iret (v := (-7)) hx hb hr (fun t ht hW => ⟨⟨(-7), (), rfl, (rg_w (by decide : (-7 : Int) ≤ ((-7) : Int32).toInt ∧ ((-7) : Int32).toInt ≤ -7) (by decide) (by decide)), g0, g1, g2, g3, by rw [ht]; exact hP9, va_K.moved hW.alike hK9, hD9⟩, hS.F ht⟩) hS.2.2 dX9_paste_95
              ·
                have n_c_493 : (wd3.toInt : Int) ≠ wd1.toInt := c_ne rfl rfl c_493
                refine lv_bipush (v := (-8)) hx hb dX9_paste_67 (by decide) ?_
                have hP9 := hP.sub (ws' := [(h0, .inr (7, [.ref tp, .ref sc, .ref rd, .ref cu, .ref im, .ref ig, .ref sl, .ref se, .ref sm, .ref fc])), (sl, .inl (cS, 4, .inr (.inr (.inr (.inr (sf4 s0 s1 s2 s3)))))), (s0, .inr (2, [.int wd0, .int rz0, .ref n0])), (s1, .inr (2, [.int wd1, .int rz1, .ref n1])), (s2, .inr (2, [.int wd2, .int rz2, .ref n2])), (s3, .inr (2, [.int wd3, .int rz3, .ref n3])), (n0, .inl (cJ0, 60, .inr (.inl g0))), (n1, .inl (cJ1, 60, .inr (.inl g1))), (n2, .inl (cJ2, 60, .inr (.inl g2))), (n3, .inl (cJ3, 60, .inr (.inl g3)))]) [0, 1, 2, 3, 4, 5, 6, 7, 8, 9] rfl
                have hD9 := hD.sub (ws' := [(h0, .inr (7, [.ref tp, .ref sc, .ref rd, .ref cu, .ref im, .ref ig, .ref sl, .ref se, .ref sm, .ref fc])), (sl, .inl (cS, 4, .inr (.inr (.inr (.inr (sf4 s0 s1 s2 s3)))))), (s0, .inr (2, [.int wd0, .int rz0, .ref n0])), (s1, .inr (2, [.int wd1, .int rz1, .ref n1])), (s2, .inr (2, [.int wd2, .int rz2, .ref n2])), (s3, .inr (2, [.int wd3, .int rz3, .ref n3])), (n0, .inl (cJ0, 60, .inr (.inl g0))), (n1, .inl (cJ1, 60, .inr (.inl g1))), (n2, .inl (cJ2, 60, .inr (.inl g2))), (n3, .inl (cJ3, 60, .inr (.inl g3)))]) [0, 1, 2, 3, 4, 5, 6, 7, 8, 9] (by decide) rfl
                have hK9 := hK.sub (tys' := [(cS, .object RX3), (cJ0, .long), (cJ1, .long), (cJ2, .long), (cJ3, .long)]) [0, 1, 2, 3, 4] rfl
                exact W.iret (v := (-8)) hx hb hr (fun t ht hW => ⟨⟨(-8), (), rfl, (rg_w (by decide : (-8 : Int) ≤ ((-8) : Int32).toInt ∧ ((-8) : Int32).toInt ≤ -8) (by decide) (by decide)), g0, g1, g2, g3, by rw [ht]; exact hP9, va_K.moved hW.alike hK9, hD9⟩, hS.F ht⟩) hS.2.2 dX9_paste_69
            ·
              have n_c_491 : (r_490.toInt : Int) = 0 := c_eq rfl (by decide) c_491
              have b_r_490 : (0 : Int) ≤ r_490.toInt ∧ r_490.toInt ≤ 0 := r_eq1 b_r_490 (by decide : (0 : Int) ≤ (0 : Int32).toInt ∧ (0 : Int32).toInt ≤ 0) n_c_491 (by decide)
              refine lv_bipush (v := (-6)) hx hb dX9_paste_51 (by decide) ?_
              have hP9 := hP.sub (ws' := [(h0, .inr (7, [.ref tp, .ref sc, .ref rd, .ref cu, .ref im, .ref ig, .ref sl, .ref se, .ref sm, .ref fc])), (sl, .inl (cS, 4, .inr (.inr (.inr (.inr (sf4 s0 s1 s2 s3)))))), (s0, .inr (2, [.int wd0, .int rz0, .ref n0])), (s1, .inr (2, [.int wd1, .int rz1, .ref n1])), (s2, .inr (2, [.int wd2, .int rz2, .ref n2])), (s3, .inr (2, [.int wd3, .int rz3, .ref n3])), (n0, .inl (cJ0, 60, .inr (.inl g0))), (n1, .inl (cJ1, 60, .inr (.inl g1))), (n2, .inl (cJ2, 60, .inr (.inl g2))), (n3, .inl (cJ3, 60, .inr (.inl g3)))]) [0, 1, 2, 3, 4, 5, 6, 7, 8, 9] rfl
              have hD9 := hD.sub (ws' := [(h0, .inr (7, [.ref tp, .ref sc, .ref rd, .ref cu, .ref im, .ref ig, .ref sl, .ref se, .ref sm, .ref fc])), (sl, .inl (cS, 4, .inr (.inr (.inr (.inr (sf4 s0 s1 s2 s3)))))), (s0, .inr (2, [.int wd0, .int rz0, .ref n0])), (s1, .inr (2, [.int wd1, .int rz1, .ref n1])), (s2, .inr (2, [.int wd2, .int rz2, .ref n2])), (s3, .inr (2, [.int wd3, .int rz3, .ref n3])), (n0, .inl (cJ0, 60, .inr (.inl g0))), (n1, .inl (cJ1, 60, .inr (.inl g1))), (n2, .inl (cJ2, 60, .inr (.inl g2))), (n3, .inl (cJ3, 60, .inr (.inl g3)))]) [0, 1, 2, 3, 4, 5, 6, 7, 8, 9] (by decide) rfl
              have hK9 := hK.sub (tys' := [(cS, .object RX3), (cJ0, .long), (cJ1, .long), (cJ2, .long), (cJ3, .long)]) [0, 1, 2, 3, 4] rfl
              exact W.iret (v := (-6)) hx hb hr (fun t ht hW => ⟨⟨(-6), (), rfl, (rg_w (by decide : (-6 : Int) ≤ ((-6) : Int32).toInt ∧ ((-6) : Int32).toInt ≤ -6) (by decide) (by decide)), g0, g1, g2, g3, by rw [ht]; exact hP9, va_K.moved hW.alike hK9, hD9⟩, hS.F ht⟩) hS.2.2 dX9_paste_53
        ·
          obtain rfl : a3 = 2 := Int32.toInt_inj.mp (h_470.trans (by decide))
          refine va_aldq hx hb hK hP 1 0 rfl rfl (vp_in_b (by decide : (2 : Int) ≤ (2 : Int32).toInt ∧ (2 : Int32).toInt ≤ 2) (by decide) (by decide)) dX9_paste_32 ?_
          refine W.eq (g2 := F0 m 33 ls (.ref s2 :: [])) (congrArg (fun v => F0 m 33 ls (va_rf v :: [])) (sf4_2 s0 s1 s2 s3)) ?_
          refine lv_astore (lv' := [(7, .ref s2), (6, .ref s3), (0, .ref h0), (1, .int 3), (2, .int a2), (3, .int 2), (4, .int a4), (5, .int a5)]) hx hb dX9_paste_33 hl (by decide) rfl (fun ls hl => ?_)
          refine lv_aload hx hb dX9_paste_35 (lv_at hl 1 rfl) ?_
          refine vp_callSi (W.runV (As := []) (rest := []) ⟨hx, hb, hml, hown, hts⟩ (kX3_stands l dC dI s3 wd3 rz3 n3 b_wd3 b_rz3) (cwV 0 hts gX9_paste__X3_stands_V270 rfl rfl rfl hd_yX3_stands ⟨lel 1 2 rfl, lel 20 88 rfl⟩) ⟨pw_fb, rcv_X3 hK hP (q0 := 5) rfl, (pw_use hP hK hN [5] rfl [] rfl)⟩ rfl rfl hl.1 rfl (lv_room (Nat.le_of_ble_eq_true rfl)) dX9_paste_37 ⟨lel 0 0 rfl, lel 0 0 rfl⟩) (fun r_503 h_r_503 => ?_)
          obtain ⟨b_r_503, nz_r_503⟩ := h_r_503
          have b_r_503 : (0 : Int) ≤ r_503.toInt ∧ r_503.toInt ≤ 1 := b_r_503
          refine lv_if_eq (tgt := 51) hx hb dX9_paste_40 (by decide) (fun c_504 => ?_) (fun c_504 => ?_)
          ·
            have n_c_504 : (r_503.toInt : Int) = 0 := c_eq rfl (by decide) c_504
            have b_r_503 : (0 : Int) ≤ r_503.toInt ∧ r_503.toInt ≤ 0 := r_eq1 b_r_503 (by decide : (0 : Int) ≤ (0 : Int32).toInt ∧ (0 : Int32).toInt ≤ 0) n_c_504 (by decide)
            refine lv_bipush (v := (-6)) hx hb dX9_paste_51 (by decide) ?_
            have hP9 := hP.sub (ws' := [(h0, .inr (7, [.ref tp, .ref sc, .ref rd, .ref cu, .ref im, .ref ig, .ref sl, .ref se, .ref sm, .ref fc])), (sl, .inl (cS, 4, .inr (.inr (.inr (.inr (sf4 s0 s1 s2 s3)))))), (s0, .inr (2, [.int wd0, .int rz0, .ref n0])), (s1, .inr (2, [.int wd1, .int rz1, .ref n1])), (s2, .inr (2, [.int wd2, .int rz2, .ref n2])), (s3, .inr (2, [.int wd3, .int rz3, .ref n3])), (n0, .inl (cJ0, 60, .inr (.inl g0))), (n1, .inl (cJ1, 60, .inr (.inl g1))), (n2, .inl (cJ2, 60, .inr (.inl g2))), (n3, .inl (cJ3, 60, .inr (.inl g3)))]) [0, 1, 2, 3, 4, 5, 6, 7, 8, 9] rfl
            have hD9 := hD.sub (ws' := [(h0, .inr (7, [.ref tp, .ref sc, .ref rd, .ref cu, .ref im, .ref ig, .ref sl, .ref se, .ref sm, .ref fc])), (sl, .inl (cS, 4, .inr (.inr (.inr (.inr (sf4 s0 s1 s2 s3)))))), (s0, .inr (2, [.int wd0, .int rz0, .ref n0])), (s1, .inr (2, [.int wd1, .int rz1, .ref n1])), (s2, .inr (2, [.int wd2, .int rz2, .ref n2])), (s3, .inr (2, [.int wd3, .int rz3, .ref n3])), (n0, .inl (cJ0, 60, .inr (.inl g0))), (n1, .inl (cJ1, 60, .inr (.inl g1))), (n2, .inl (cJ2, 60, .inr (.inl g2))), (n3, .inl (cJ3, 60, .inr (.inl g3)))]) [0, 1, 2, 3, 4, 5, 6, 7, 8, 9] (by decide) rfl
            have hK9 := hK.sub (tys' := [(cS, .object RX3), (cJ0, .long), (cJ1, .long), (cJ2, .long), (cJ3, .long)]) [0, 1, 2, 3, 4] rfl
            exact W.iret (v := (-6)) hx hb hr (fun t ht hW => ⟨⟨(-6), (), rfl, (rg_w (by decide : (-6 : Int) ≤ ((-6) : Int32).toInt ∧ ((-6) : Int32).toInt ≤ -6) (by decide) (by decide)), g0, g1, g2, g3, by rw [ht]; exact hP9, va_K.moved hW.alike hK9, hD9⟩, hS.F ht⟩) hS.2.2 dX9_paste_53
          ·
            have n_c_504 : (r_503.toInt : Int) ≠ 0 := c_ne rfl (by decide) c_504
            have b_r_503 : (1 : Int) ≤ r_503.toInt ∧ r_503.toInt ≤ 1 := r_ne1 b_r_503 (by decide : (0 : Int) ≤ (0 : Int32).toInt ∧ (0 : Int32).toInt ≤ 0) n_c_504 (by decide)
            obtain ⟨b_wd3, g_505⟩ := nz_r_503 c_504
            refine lv_aload hx hb dX9_paste_43 (lv_at hl 0 rfl) ?_
            refine vp_callSi (W.runV (As := []) (rest := []) ⟨hx, hb, hml, hown, hts⟩ (kX3_stands l dC dI s2 wd2 rz2 n2 b_wd2 b_rz2) (cwV 0 hts gX9_paste__X3_stands_V270 rfl rfl rfl hd_yX3_stands ⟨lel 1 2 rfl, lel 20 88 rfl⟩) ⟨pw_fb, rcv_X3 hK hP (q0 := 4) rfl, (pw_use hP hK hN [4] rfl [] rfl)⟩ rfl rfl hl.1 rfl (lv_room (Nat.le_of_ble_eq_true rfl)) dX9_paste_45 ⟨lel 0 0 rfl, lel 0 0 rfl⟩) (fun r_506 h_r_506 => ?_)
            obtain ⟨b_r_506, nz_r_506⟩ := h_r_506
            have b_r_506 : (0 : Int) ≤ r_506.toInt ∧ r_506.toInt ≤ 1 := b_r_506
            refine lv_if_ne (tgt := 54) hx hb dX9_paste_48 (by decide) (fun c_507 => ?_) (fun c_507 => ?_)
            ·
              have n_c_507 : (r_506.toInt : Int) ≠ 0 := c_ne rfl (by decide) c_507
              have b_r_506 : (1 : Int) ≤ r_506.toInt ∧ r_506.toInt ≤ 1 := r_ne1 b_r_506 (by decide : (0 : Int) ≤ (0 : Int32).toInt ∧ (0 : Int32).toInt ≤ 0) n_c_507 (by decide)
              obtain ⟨b_wd2, g_508⟩ := nz_r_506 c_507
              refine lv_aload hx hb dX9_paste_54 (lv_at hl 1 rfl) ?_
              refine va_getN (own := RX9) (index := 350) (ref := RX3) (host := RX9) (D := (dC, dI)) (ci := 2) (v := .int wd3) (C := RX3) (T := TX3) (N := 3) hx hb hts iX9_paste_X3 hown hK hP 5 rfl rfl 0 (by decide) (va_Nw.use rfl (hN _ (List.mem_of_getElem? (i := 21) rfl))) (fun _ h9 => h9) rfl dX9_paste_56 ?_
              refine lv_aload hx hb dX9_paste_59 (lv_at hl 0 rfl) ?_
              refine va_getN (own := RX9) (index := 350) (ref := RX3) (host := RX9) (D := (dC, dI)) (ci := 2) (v := .int wd2) (C := RX3) (T := TX3) (N := 3) hx hb hts iX9_paste_X3 hown hK hP 4 rfl rfl 0 (by decide) (va_Nw.use rfl (hN _ (List.mem_of_getElem? (i := 21) rfl))) (fun _ h9 => h9) rfl dX9_paste_61 ?_
              refine lv_icmp_eq (tgt := 70) hx hb dX9_paste_64 (by decide) (fun c_509 => ?_) (fun c_509 => ?_)
              ·
                have n_c_509 : (wd3.toInt : Int) = wd2.toInt := c_eq rfl rfl c_509
                refine lv_aload hx hb dX9_paste_70 (lv_at hl 1 rfl) ?_
                refine lv_iload_n hx hb dX9_paste_72 rfl (lv_at hl 4 rfl) ?_
                refine lv_iload hx hb dX9_paste_73 (lv_at hl 7 rfl) ?_
                refine vp_callSi (W.runV (As := [.int a2, .int a5]) (rest := []) ⟨hx, hb, hml, hown, hts⟩ (kX3_hasStretch l dC dI s3 wd3 rz3 n3 a2 a5 (rg_w b_wd3 (by decide) (by decide)) b_rz3) (cwV 2 hts gX9_paste__X3_hasStretch_V343 rfl rfl rfl hd_yX3_hasStretch ⟨lel 1 2 rfl, lel 22 88 rfl⟩) ⟨pw_fb, rcv_X3 hK hP (q0 := 5) rfl, (pw_use hP hK hN [5] rfl [] rfl)⟩ rfl rfl hl.1 rfl (lv_room (Nat.le_of_ble_eq_true rfl)) dX9_paste_75 ⟨lel 0 0 rfl, lel 0 0 rfl⟩) (fun r_510 h_r_510 => ?_)
                obtain ⟨b_r_510, nz_r_510⟩ := h_r_510
                have b_r_510 : (0 : Int) ≤ r_510.toInt ∧ r_510.toInt ≤ 1 := b_r_510
                refine lv_if_eq (tgt := 93) hx hb dX9_paste_78 (by decide) (fun c_511 => ?_) (fun c_511 => ?_)
                ·
                  have n_c_511 : (r_510.toInt : Int) = 0 := c_eq rfl (by decide) c_511
                  have b_r_510 : (0 : Int) ≤ r_510.toInt ∧ r_510.toInt ≤ 0 := r_eq1 b_r_510 (by decide : (0 : Int) ≤ (0 : Int32).toInt ∧ (0 : Int32).toInt ≤ 0) n_c_511 (by decide)
                  refine lv_bipush (v := (-7)) hx hb dX9_paste_93 (by decide) ?_
                  have hP9 := hP.sub (ws' := [(h0, .inr (7, [.ref tp, .ref sc, .ref rd, .ref cu, .ref im, .ref ig, .ref sl, .ref se, .ref sm, .ref fc])), (sl, .inl (cS, 4, .inr (.inr (.inr (.inr (sf4 s0 s1 s2 s3)))))), (s0, .inr (2, [.int wd0, .int rz0, .ref n0])), (s1, .inr (2, [.int wd1, .int rz1, .ref n1])), (s2, .inr (2, [.int wd2, .int rz2, .ref n2])), (s3, .inr (2, [.int wd3, .int rz3, .ref n3])), (n0, .inl (cJ0, 60, .inr (.inl g0))), (n1, .inl (cJ1, 60, .inr (.inl g1))), (n2, .inl (cJ2, 60, .inr (.inl g2))), (n3, .inl (cJ3, 60, .inr (.inl g3)))]) [0, 1, 2, 3, 4, 5, 6, 7, 8, 9] rfl
                  have hD9 := hD.sub (ws' := [(h0, .inr (7, [.ref tp, .ref sc, .ref rd, .ref cu, .ref im, .ref ig, .ref sl, .ref se, .ref sm, .ref fc])), (sl, .inl (cS, 4, .inr (.inr (.inr (.inr (sf4 s0 s1 s2 s3)))))), (s0, .inr (2, [.int wd0, .int rz0, .ref n0])), (s1, .inr (2, [.int wd1, .int rz1, .ref n1])), (s2, .inr (2, [.int wd2, .int rz2, .ref n2])), (s3, .inr (2, [.int wd3, .int rz3, .ref n3])), (n0, .inl (cJ0, 60, .inr (.inl g0))), (n1, .inl (cJ1, 60, .inr (.inl g1))), (n2, .inl (cJ2, 60, .inr (.inl g2))), (n3, .inl (cJ3, 60, .inr (.inl g3)))]) [0, 1, 2, 3, 4, 5, 6, 7, 8, 9] (by decide) rfl
                  have hK9 := hK.sub (tys' := [(cS, .object RX3), (cJ0, .long), (cJ1, .long), (cJ2, .long), (cJ3, .long)]) [0, 1, 2, 3, 4] rfl
                  exact W.iret (v := (-7)) hx hb hr (fun t ht hW => ⟨⟨(-7), (), rfl, (rg_w (by decide : (-7 : Int) ≤ ((-7) : Int32).toInt ∧ ((-7) : Int32).toInt ≤ -7) (by decide) (by decide)), g0, g1, g2, g3, by rw [ht]; exact hP9, va_K.moved hW.alike hK9, hD9⟩, hS.F ht⟩) hS.2.2 dX9_paste_95
                ·
                  have n_c_511 : (r_510.toInt : Int) ≠ 0 := c_ne rfl (by decide) c_511
                  have b_r_510 : (1 : Int) ≤ r_510.toInt ∧ r_510.toInt ≤ 1 := r_ne1 b_r_510 (by decide : (0 : Int) ≤ (0 : Int32).toInt ∧ (0 : Int32).toInt ≤ 0) n_c_511 (by decide)
                  obtain ⟨b_a2, b_a5, g_512⟩ := nz_r_510 c_511
                  refine lv_aload hx hb dX9_paste_81 (lv_at hl 0 rfl) ?_
                  refine lv_iload hx hb dX9_paste_83 (lv_at hl 6 rfl) ?_
                  refine lv_iload hx hb dX9_paste_85 (lv_at hl 7 rfl) ?_
                  refine vp_callSi (W.runV (As := [.int a4, .int a5]) (rest := []) ⟨hx, hb, hml, hown, hts⟩ (kX3_hasStretch l dC dI s2 wd2 rz2 n2 a4 a5 (rg_w b_wd2 (by decide) (by decide)) b_rz2) (cwV 2 hts gX9_paste__X3_hasStretch_V343 rfl rfl rfl hd_yX3_hasStretch ⟨lel 1 2 rfl, lel 22 88 rfl⟩) ⟨pw_fb, rcv_X3 hK hP (q0 := 4) rfl, (pw_use hP hK hN [4] rfl [] rfl)⟩ rfl rfl hl.1 rfl (lv_room (Nat.le_of_ble_eq_true rfl)) dX9_paste_87 ⟨lel 0 0 rfl, lel 0 0 rfl⟩) (fun r_513 h_r_513 => ?_)
                  obtain ⟨b_r_513, nz_r_513⟩ := h_r_513
                  have b_r_513 : (0 : Int) ≤ r_513.toInt ∧ r_513.toInt ≤ 1 := b_r_513
                  refine lv_if_ne (tgt := 96) hx hb dX9_paste_90 (by decide) (fun c_514 => ?_) (fun c_514 => ?_)
                  ·
                    have n_c_514 : (r_513.toInt : Int) ≠ 0 := c_ne rfl (by decide) c_514
                    have b_r_513 : (1 : Int) ≤ r_513.toInt ∧ r_513.toInt ≤ 1 := r_ne1 b_r_513 (by decide : (0 : Int) ≤ (0 : Int32).toInt ∧ (0 : Int32).toInt ≤ 0) n_c_514 (by decide)
                    obtain ⟨b_a4, b_a5, g_515⟩ := nz_r_513 c_514
                    refine lv_aload hx hb dX9_paste_96 (lv_at hl 0 rfl) ?_
                    refine lv_iload hx hb dX9_paste_98 (lv_at hl 6 rfl) ?_
                    refine lv_aload hx hb dX9_paste_100 (lv_at hl 1 rfl) ?_
                    refine lv_iload_n hx hb dX9_paste_102 rfl (lv_at hl 4 rfl) ?_
                    refine lv_iload hx hb dX9_paste_103 (lv_at hl 7 rfl) ?_
                    have hFc := va_free (wc := [(s2, .inr (2, [.int wd2, .int rz2, .ref n2])), (n2, .inl (cJ2, 60, .inr (.inl g2))), (s3, .inr (2, [.int wd3, .int rz3, .ref n3])), (n3, .inl (cJ3, 60, .inr (.inl g3)))]) hD hS hA [4, 8, 5, 9] rfl
                    refine va_callv (va_runV (As := [.int a4, .ref s3, .int a2, .int a5]) (rest := []) ⟨hx, hb, hml, hown, hts⟩ (kX3_take l dC dI s2 wd2 rz2 n2 cJ2 g2 s3 wd3 rz3 n3 cJ3 g3 a4 a2 a5 (s.heap.size) (rg_w b_wd2 (by decide) (by decide)) b_rz2 (rg_w b_wd3 (by decide) (by decide)) b_rz3) (cwV 4 hts gX9_paste__X3_take_V353 rfl rfl rfl hd_yX3_take ⟨lel 2 2 rfl, lel 88 88 rfl⟩) ⟨hw_fb, rcv_X3 hK hP (q0 := 4) rfl, (hw_use hP hD hK hN [4, 8, 5, 9] rfl (by decide) rfl [3, 4] rfl)⟩ rfl rfl hl.1 rfl (lv_room (Nat.le_of_ble_eq_true rfl)) dX9_paste_105 ⟨lel 0 0 rfl, lel 0 0 rfl⟩) hS (fun q _ h => hFc q h) hFc (fun u_517 t H1 locs ht hvm hw_r_516 hB hz1 hk1 hS => ?_)
                    obtain ⟨o0_518, hP1, hK1, hD1⟩ := hB
                    rw [ht] at hP1
                    have hK1 := va_K.moved hvm.symm hK1
                    obtain ⟨hP, hD⟩ := va_join (wr := [(h0, .inr (7, [.ref tp, .ref sc, .ref rd, .ref cu, .ref im, .ref ig, .ref sl, .ref se, .ref sm, .ref fc])), (sl, .inl (cS, 4, .inr (.inr (.inr (.inr (sf4 s0 s1 s2 s3)))))), (s0, .inr (2, [.int wd0, .int rz0, .ref n0])), (s1, .inr (2, [.int wd1, .int rz1, .ref n1])), (n0, .inl (cJ0, 60, .inr (.inl g0))), (n1, .inl (cJ1, 60, .inr (.inl g1)))]) (w1 := [(s2, .inr (2, [.int wd2, .int rz2, .ref n2])), (n2, .inl (cJ2, 60, .inr (.inl o0_518))), (s3, .inr (2, [.int wd3, .int rz3, .ref n3])), (n3, .inl (cJ3, 60, .inr (.inl g3)))]) hP hD [4, 8, 5, 9] [0, 1, 2, 3, 6, 7] rfl rfl (by decide) (by decide) hk1 hFc hP1 hD1
                    have hK := (hK.sub (tys' := [(cS, .object RX3), (cJ0, .long), (cJ1, .long)]) [0, 1, 2] rfl).app hK1
                    generalize H1 = H at hP hS ⊢
                    have hP := hP.sub (ws' := [(h0, .inr (7, [.ref tp, .ref sc, .ref rd, .ref cu, .ref im, .ref ig, .ref sl, .ref se, .ref sm, .ref fc])), (sl, .inl (cS, 4, .inr (.inr (.inr (.inr (sf4 s0 s1 s2 s3)))))), (s0, .inr (2, [.int wd0, .int rz0, .ref n0])), (s1, .inr (2, [.int wd1, .int rz1, .ref n1])), (s2, .inr (2, [.int wd2, .int rz2, .ref n2])), (s3, .inr (2, [.int wd3, .int rz3, .ref n3])), (n0, .inl (cJ0, 60, .inr (.inl g0))), (n1, .inl (cJ1, 60, .inr (.inl g1))), (n2, .inl (cJ2, 60, .inr (.inl o0_518))), (n3, .inl (cJ3, 60, .inr (.inl g3)))]) [0, 1, 2, 3, 6, 8, 4, 5, 7, 9] rfl
                    have hD := hD.sub (ws' := [(h0, .inr (7, [.ref tp, .ref sc, .ref rd, .ref cu, .ref im, .ref ig, .ref sl, .ref se, .ref sm, .ref fc])), (sl, .inl (cS, 4, .inr (.inr (.inr (.inr (sf4 s0 s1 s2 s3)))))), (s0, .inr (2, [.int wd0, .int rz0, .ref n0])), (s1, .inr (2, [.int wd1, .int rz1, .ref n1])), (s2, .inr (2, [.int wd2, .int rz2, .ref n2])), (s3, .inr (2, [.int wd3, .int rz3, .ref n3])), (n0, .inl (cJ0, 60, .inr (.inl g0))), (n1, .inl (cJ1, 60, .inr (.inl g1))), (n2, .inl (cJ2, 60, .inr (.inl o0_518))), (n3, .inl (cJ3, 60, .inr (.inl g3)))]) [0, 1, 2, 3, 6, 8, 4, 5, 7, 9] (by decide) rfl
                    have hP : va_P (dC, dI) vwCl [(h0, .inr (7, [.ref tp, .ref sc, .ref rd, .ref cu, .ref im, .ref ig, .ref sl, .ref se, .ref sm, .ref fc])), (sl, .inl (cS, 4, .inr (.inr (.inr (.inr (sf4 s0 s1 s2 s3)))))), (s0, .inr (2, [.int wd0, .int rz0, .ref n0])), (s1, .inr (2, [.int wd1, .int rz1, .ref n1])), (s2, .inr (2, [.int wd2, .int rz2, .ref n2])), (s3, .inr (2, [.int wd3, .int rz3, .ref n3])), (n0, .inl (cJ0, 60, .inr (.inl g0))), (n1, .inl (cJ1, 60, .inr (.inl g1))), (n2, .inl (cJ2, 60, .inr (.inl o0_518))), (n3, .inl (cJ3, 60, .inr (.inl g3)))] H := hP
                    have hD : va_D A [(h0, .inr (7, [.ref tp, .ref sc, .ref rd, .ref cu, .ref im, .ref ig, .ref sl, .ref se, .ref sm, .ref fc])), (sl, .inl (cS, 4, .inr (.inr (.inr (.inr (sf4 s0 s1 s2 s3)))))), (s0, .inr (2, [.int wd0, .int rz0, .ref n0])), (s1, .inr (2, [.int wd1, .int rz1, .ref n1])), (s2, .inr (2, [.int wd2, .int rz2, .ref n2])), (s3, .inr (2, [.int wd3, .int rz3, .ref n3])), (n0, .inl (cJ0, 60, .inr (.inl g0))), (n1, .inl (cJ1, 60, .inr (.inl g1))), (n2, .inl (cJ2, 60, .inr (.inl o0_518))), (n3, .inl (cJ3, 60, .inr (.inl g3)))] := hD
                    have hK : va_K (dC, dI) vwCl [(cS, .object RX3), (cJ0, .long), (cJ1, .long), (cJ2, .long), (cJ3, .long)] s := hK
                    refine lv_iconst (v := 0) hx hb dX9_paste_108 (by decide) ?_
                    have hP9 := hP.sub (ws' := [(h0, .inr (7, [.ref tp, .ref sc, .ref rd, .ref cu, .ref im, .ref ig, .ref sl, .ref se, .ref sm, .ref fc])), (sl, .inl (cS, 4, .inr (.inr (.inr (.inr (sf4 s0 s1 s2 s3)))))), (s0, .inr (2, [.int wd0, .int rz0, .ref n0])), (s1, .inr (2, [.int wd1, .int rz1, .ref n1])), (s2, .inr (2, [.int wd2, .int rz2, .ref n2])), (s3, .inr (2, [.int wd3, .int rz3, .ref n3])), (n0, .inl (cJ0, 60, .inr (.inl g0))), (n1, .inl (cJ1, 60, .inr (.inl g1))), (n2, .inl (cJ2, 60, .inr (.inl o0_518))), (n3, .inl (cJ3, 60, .inr (.inl g3)))]) [0, 1, 2, 3, 4, 5, 6, 7, 8, 9] rfl
                    have hD9 := hD.sub (ws' := [(h0, .inr (7, [.ref tp, .ref sc, .ref rd, .ref cu, .ref im, .ref ig, .ref sl, .ref se, .ref sm, .ref fc])), (sl, .inl (cS, 4, .inr (.inr (.inr (.inr (sf4 s0 s1 s2 s3)))))), (s0, .inr (2, [.int wd0, .int rz0, .ref n0])), (s1, .inr (2, [.int wd1, .int rz1, .ref n1])), (s2, .inr (2, [.int wd2, .int rz2, .ref n2])), (s3, .inr (2, [.int wd3, .int rz3, .ref n3])), (n0, .inl (cJ0, 60, .inr (.inl g0))), (n1, .inl (cJ1, 60, .inr (.inl g1))), (n2, .inl (cJ2, 60, .inr (.inl o0_518))), (n3, .inl (cJ3, 60, .inr (.inl g3)))]) [0, 1, 2, 3, 4, 5, 6, 7, 8, 9] (by decide) rfl
                    have hK9 := hK.sub (tys' := [(cS, .object RX3), (cJ0, .long), (cJ1, .long), (cJ2, .long), (cJ3, .long)]) [0, 1, 2, 3, 4] rfl
                    exact W.iret (v := 0) hx hb hr (fun t ht hW => ⟨⟨0, (), rfl, (rg_w (by decide : (0 : Int) ≤ (0 : Int32).toInt ∧ (0 : Int32).toInt ≤ 0) (by decide) (by decide)), g0, g1, o0_518, g3, by rw [ht]; exact hP9, va_K.moved hW.alike hK9, hD9⟩, hS.F ht⟩) hS.2.2 dX9_paste_109
                  ·
                    have n_c_514 : (r_513.toInt : Int) = 0 := c_eq rfl (by decide) c_514
                    have b_r_513 : (0 : Int) ≤ r_513.toInt ∧ r_513.toInt ≤ 0 := r_eq1 b_r_513 (by decide : (0 : Int) ≤ (0 : Int32).toInt ∧ (0 : Int32).toInt ≤ 0) n_c_514 (by decide)
                    refine lv_bipush (v := (-7)) hx hb dX9_paste_93 (by decide) ?_
                    have hP9 := hP.sub (ws' := [(h0, .inr (7, [.ref tp, .ref sc, .ref rd, .ref cu, .ref im, .ref ig, .ref sl, .ref se, .ref sm, .ref fc])), (sl, .inl (cS, 4, .inr (.inr (.inr (.inr (sf4 s0 s1 s2 s3)))))), (s0, .inr (2, [.int wd0, .int rz0, .ref n0])), (s1, .inr (2, [.int wd1, .int rz1, .ref n1])), (s2, .inr (2, [.int wd2, .int rz2, .ref n2])), (s3, .inr (2, [.int wd3, .int rz3, .ref n3])), (n0, .inl (cJ0, 60, .inr (.inl g0))), (n1, .inl (cJ1, 60, .inr (.inl g1))), (n2, .inl (cJ2, 60, .inr (.inl g2))), (n3, .inl (cJ3, 60, .inr (.inl g3)))]) [0, 1, 2, 3, 4, 5, 6, 7, 8, 9] rfl
                    have hD9 := hD.sub (ws' := [(h0, .inr (7, [.ref tp, .ref sc, .ref rd, .ref cu, .ref im, .ref ig, .ref sl, .ref se, .ref sm, .ref fc])), (sl, .inl (cS, 4, .inr (.inr (.inr (.inr (sf4 s0 s1 s2 s3)))))), (s0, .inr (2, [.int wd0, .int rz0, .ref n0])), (s1, .inr (2, [.int wd1, .int rz1, .ref n1])), (s2, .inr (2, [.int wd2, .int rz2, .ref n2])), (s3, .inr (2, [.int wd3, .int rz3, .ref n3])), (n0, .inl (cJ0, 60, .inr (.inl g0))), (n1, .inl (cJ1, 60, .inr (.inl g1))), (n2, .inl (cJ2, 60, .inr (.inl g2))), (n3, .inl (cJ3, 60, .inr (.inl g3)))]) [0, 1, 2, 3, 4, 5, 6, 7, 8, 9] (by decide) rfl
                    have hK9 := hK.sub (tys' := [(cS, .object RX3), (cJ0, .long), (cJ1, .long), (cJ2, .long), (cJ3, .long)]) [0, 1, 2, 3, 4] rfl
                    exact W.iret (v := (-7)) hx hb hr (fun t ht hW => ⟨⟨(-7), (), rfl, (rg_w (by decide : (-7 : Int) ≤ ((-7) : Int32).toInt ∧ ((-7) : Int32).toInt ≤ -7) (by decide) (by decide)), g0, g1, g2, g3, by rw [ht]; exact hP9, va_K.moved hW.alike hK9, hD9⟩, hS.F ht⟩) hS.2.2 dX9_paste_95
              ·
                have n_c_509 : (wd3.toInt : Int) ≠ wd2.toInt := c_ne rfl rfl c_509
                refine lv_bipush (v := (-8)) hx hb dX9_paste_67 (by decide) ?_
                have hP9 := hP.sub (ws' := [(h0, .inr (7, [.ref tp, .ref sc, .ref rd, .ref cu, .ref im, .ref ig, .ref sl, .ref se, .ref sm, .ref fc])), (sl, .inl (cS, 4, .inr (.inr (.inr (.inr (sf4 s0 s1 s2 s3)))))), (s0, .inr (2, [.int wd0, .int rz0, .ref n0])), (s1, .inr (2, [.int wd1, .int rz1, .ref n1])), (s2, .inr (2, [.int wd2, .int rz2, .ref n2])), (s3, .inr (2, [.int wd3, .int rz3, .ref n3])), (n0, .inl (cJ0, 60, .inr (.inl g0))), (n1, .inl (cJ1, 60, .inr (.inl g1))), (n2, .inl (cJ2, 60, .inr (.inl g2))), (n3, .inl (cJ3, 60, .inr (.inl g3)))]) [0, 1, 2, 3, 4, 5, 6, 7, 8, 9] rfl
                have hD9 := hD.sub (ws' := [(h0, .inr (7, [.ref tp, .ref sc, .ref rd, .ref cu, .ref im, .ref ig, .ref sl, .ref se, .ref sm, .ref fc])), (sl, .inl (cS, 4, .inr (.inr (.inr (.inr (sf4 s0 s1 s2 s3)))))), (s0, .inr (2, [.int wd0, .int rz0, .ref n0])), (s1, .inr (2, [.int wd1, .int rz1, .ref n1])), (s2, .inr (2, [.int wd2, .int rz2, .ref n2])), (s3, .inr (2, [.int wd3, .int rz3, .ref n3])), (n0, .inl (cJ0, 60, .inr (.inl g0))), (n1, .inl (cJ1, 60, .inr (.inl g1))), (n2, .inl (cJ2, 60, .inr (.inl g2))), (n3, .inl (cJ3, 60, .inr (.inl g3)))]) [0, 1, 2, 3, 4, 5, 6, 7, 8, 9] (by decide) rfl
                have hK9 := hK.sub (tys' := [(cS, .object RX3), (cJ0, .long), (cJ1, .long), (cJ2, .long), (cJ3, .long)]) [0, 1, 2, 3, 4] rfl
                exact W.iret (v := (-8)) hx hb hr (fun t ht hW => ⟨⟨(-8), (), rfl, (rg_w (by decide : (-8 : Int) ≤ ((-8) : Int32).toInt ∧ ((-8) : Int32).toInt ≤ -8) (by decide) (by decide)), g0, g1, g2, g3, by rw [ht]; exact hP9, va_K.moved hW.alike hK9, hD9⟩, hS.F ht⟩) hS.2.2 dX9_paste_69
            ·
              have n_c_507 : (r_506.toInt : Int) = 0 := c_eq rfl (by decide) c_507
              have b_r_506 : (0 : Int) ≤ r_506.toInt ∧ r_506.toInt ≤ 0 := r_eq1 b_r_506 (by decide : (0 : Int) ≤ (0 : Int32).toInt ∧ (0 : Int32).toInt ≤ 0) n_c_507 (by decide)
              refine lv_bipush (v := (-6)) hx hb dX9_paste_51 (by decide) ?_
              have hP9 := hP.sub (ws' := [(h0, .inr (7, [.ref tp, .ref sc, .ref rd, .ref cu, .ref im, .ref ig, .ref sl, .ref se, .ref sm, .ref fc])), (sl, .inl (cS, 4, .inr (.inr (.inr (.inr (sf4 s0 s1 s2 s3)))))), (s0, .inr (2, [.int wd0, .int rz0, .ref n0])), (s1, .inr (2, [.int wd1, .int rz1, .ref n1])), (s2, .inr (2, [.int wd2, .int rz2, .ref n2])), (s3, .inr (2, [.int wd3, .int rz3, .ref n3])), (n0, .inl (cJ0, 60, .inr (.inl g0))), (n1, .inl (cJ1, 60, .inr (.inl g1))), (n2, .inl (cJ2, 60, .inr (.inl g2))), (n3, .inl (cJ3, 60, .inr (.inl g3)))]) [0, 1, 2, 3, 4, 5, 6, 7, 8, 9] rfl
              have hD9 := hD.sub (ws' := [(h0, .inr (7, [.ref tp, .ref sc, .ref rd, .ref cu, .ref im, .ref ig, .ref sl, .ref se, .ref sm, .ref fc])), (sl, .inl (cS, 4, .inr (.inr (.inr (.inr (sf4 s0 s1 s2 s3)))))), (s0, .inr (2, [.int wd0, .int rz0, .ref n0])), (s1, .inr (2, [.int wd1, .int rz1, .ref n1])), (s2, .inr (2, [.int wd2, .int rz2, .ref n2])), (s3, .inr (2, [.int wd3, .int rz3, .ref n3])), (n0, .inl (cJ0, 60, .inr (.inl g0))), (n1, .inl (cJ1, 60, .inr (.inl g1))), (n2, .inl (cJ2, 60, .inr (.inl g2))), (n3, .inl (cJ3, 60, .inr (.inl g3)))]) [0, 1, 2, 3, 4, 5, 6, 7, 8, 9] (by decide) rfl
              have hK9 := hK.sub (tys' := [(cS, .object RX3), (cJ0, .long), (cJ1, .long), (cJ2, .long), (cJ3, .long)]) [0, 1, 2, 3, 4] rfl
              exact W.iret (v := (-6)) hx hb hr (fun t ht hW => ⟨⟨(-6), (), rfl, (rg_w (by decide : (-6 : Int) ≤ ((-6) : Int32).toInt ∧ ((-6) : Int32).toInt ≤ -6) (by decide) (by decide)), g0, g1, g2, g3, by rw [ht]; exact hP9, va_K.moved hW.alike hK9, hD9⟩, hS.F ht⟩) hS.2.2 dX9_paste_53
        ·
          obtain rfl : a3 = 3 := Int32.toInt_inj.mp (h_470.trans (by decide))
          refine va_aldq hx hb hK hP 1 0 rfl rfl (vp_in_b (by decide : (3 : Int) ≤ (3 : Int32).toInt ∧ (3 : Int32).toInt ≤ 3) (by decide) (by decide)) dX9_paste_32 ?_
          refine W.eq (g2 := F0 m 33 ls (.ref s3 :: [])) (congrArg (fun v => F0 m 33 ls (va_rf v :: [])) (sf4_3 s0 s1 s2 s3)) ?_
          refine lv_astore (lv' := [(7, .ref s3), (6, .ref s3), (0, .ref h0), (1, .int 3), (2, .int a2), (3, .int 3), (4, .int a4), (5, .int a5)]) hx hb dX9_paste_33 hl (by decide) rfl (fun ls hl => ?_)
          refine lv_aload hx hb dX9_paste_35 (lv_at hl 1 rfl) ?_
          refine vp_callSi (W.runV (As := []) (rest := []) ⟨hx, hb, hml, hown, hts⟩ (kX3_stands l dC dI s3 wd3 rz3 n3 b_wd3 b_rz3) (cwV 0 hts gX9_paste__X3_stands_V270 rfl rfl rfl hd_yX3_stands ⟨lel 1 2 rfl, lel 20 88 rfl⟩) ⟨pw_fb, rcv_X3 hK hP (q0 := 5) rfl, (pw_use hP hK hN [5] rfl [] rfl)⟩ rfl rfl hl.1 rfl (lv_room (Nat.le_of_ble_eq_true rfl)) dX9_paste_37 ⟨lel 0 0 rfl, lel 0 0 rfl⟩) (fun r_519 h_r_519 => ?_)
          obtain ⟨b_r_519, nz_r_519⟩ := h_r_519
          have b_r_519 : (0 : Int) ≤ r_519.toInt ∧ r_519.toInt ≤ 1 := b_r_519
          refine lv_if_eq (tgt := 51) hx hb dX9_paste_40 (by decide) (fun c_520 => ?_) (fun c_520 => ?_)
          ·
            have n_c_520 : (r_519.toInt : Int) = 0 := c_eq rfl (by decide) c_520
            have b_r_519 : (0 : Int) ≤ r_519.toInt ∧ r_519.toInt ≤ 0 := r_eq1 b_r_519 (by decide : (0 : Int) ≤ (0 : Int32).toInt ∧ (0 : Int32).toInt ≤ 0) n_c_520 (by decide)
            refine lv_bipush (v := (-6)) hx hb dX9_paste_51 (by decide) ?_
            have hP9 := hP.sub (ws' := [(h0, .inr (7, [.ref tp, .ref sc, .ref rd, .ref cu, .ref im, .ref ig, .ref sl, .ref se, .ref sm, .ref fc])), (sl, .inl (cS, 4, .inr (.inr (.inr (.inr (sf4 s0 s1 s2 s3)))))), (s0, .inr (2, [.int wd0, .int rz0, .ref n0])), (s1, .inr (2, [.int wd1, .int rz1, .ref n1])), (s2, .inr (2, [.int wd2, .int rz2, .ref n2])), (s3, .inr (2, [.int wd3, .int rz3, .ref n3])), (n0, .inl (cJ0, 60, .inr (.inl g0))), (n1, .inl (cJ1, 60, .inr (.inl g1))), (n2, .inl (cJ2, 60, .inr (.inl g2))), (n3, .inl (cJ3, 60, .inr (.inl g3)))]) [0, 1, 2, 3, 4, 5, 6, 7, 8, 9] rfl
            have hD9 := hD.sub (ws' := [(h0, .inr (7, [.ref tp, .ref sc, .ref rd, .ref cu, .ref im, .ref ig, .ref sl, .ref se, .ref sm, .ref fc])), (sl, .inl (cS, 4, .inr (.inr (.inr (.inr (sf4 s0 s1 s2 s3)))))), (s0, .inr (2, [.int wd0, .int rz0, .ref n0])), (s1, .inr (2, [.int wd1, .int rz1, .ref n1])), (s2, .inr (2, [.int wd2, .int rz2, .ref n2])), (s3, .inr (2, [.int wd3, .int rz3, .ref n3])), (n0, .inl (cJ0, 60, .inr (.inl g0))), (n1, .inl (cJ1, 60, .inr (.inl g1))), (n2, .inl (cJ2, 60, .inr (.inl g2))), (n3, .inl (cJ3, 60, .inr (.inl g3)))]) [0, 1, 2, 3, 4, 5, 6, 7, 8, 9] (by decide) rfl
            have hK9 := hK.sub (tys' := [(cS, .object RX3), (cJ0, .long), (cJ1, .long), (cJ2, .long), (cJ3, .long)]) [0, 1, 2, 3, 4] rfl
            exact W.iret (v := (-6)) hx hb hr (fun t ht hW => ⟨⟨(-6), (), rfl, (rg_w (by decide : (-6 : Int) ≤ ((-6) : Int32).toInt ∧ ((-6) : Int32).toInt ≤ -6) (by decide) (by decide)), g0, g1, g2, g3, by rw [ht]; exact hP9, va_K.moved hW.alike hK9, hD9⟩, hS.F ht⟩) hS.2.2 dX9_paste_53
          ·
            have n_c_520 : (r_519.toInt : Int) ≠ 0 := c_ne rfl (by decide) c_520
            have b_r_519 : (1 : Int) ≤ r_519.toInt ∧ r_519.toInt ≤ 1 := r_ne1 b_r_519 (by decide : (0 : Int) ≤ (0 : Int32).toInt ∧ (0 : Int32).toInt ≤ 0) n_c_520 (by decide)
            obtain ⟨b_wd3, g_521⟩ := nz_r_519 c_520
            refine lv_aload hx hb dX9_paste_43 (lv_at hl 0 rfl) ?_
            refine vp_callSi (W.runV (As := []) (rest := []) ⟨hx, hb, hml, hown, hts⟩ (kX3_stands l dC dI s3 wd3 rz3 n3 (rg_w b_wd3 (by decide) (by decide)) b_rz3) (cwV 0 hts gX9_paste__X3_stands_V270 rfl rfl rfl hd_yX3_stands ⟨lel 1 2 rfl, lel 20 88 rfl⟩) ⟨pw_fb, rcv_X3 hK hP (q0 := 5) rfl, (pw_use hP hK hN [5] rfl [] rfl)⟩ rfl rfl hl.1 rfl (lv_room (Nat.le_of_ble_eq_true rfl)) dX9_paste_45 ⟨lel 0 0 rfl, lel 0 0 rfl⟩) (fun r_522 h_r_522 => ?_)
            obtain ⟨b_r_522, nz_r_522⟩ := h_r_522
            have b_r_522 : (0 : Int) ≤ r_522.toInt ∧ r_522.toInt ≤ 1 := b_r_522
            refine lv_if_ne (tgt := 54) hx hb dX9_paste_48 (by decide) (fun c_523 => ?_) (fun c_523 => ?_)
            ·
              have n_c_523 : (r_522.toInt : Int) ≠ 0 := c_ne rfl (by decide) c_523
              have b_r_522 : (1 : Int) ≤ r_522.toInt ∧ r_522.toInt ≤ 1 := r_ne1 b_r_522 (by decide : (0 : Int) ≤ (0 : Int32).toInt ∧ (0 : Int32).toInt ≤ 0) n_c_523 (by decide)
              obtain ⟨b_wd3, g_524⟩ := nz_r_522 c_523
              refine lv_aload hx hb dX9_paste_54 (lv_at hl 1 rfl) ?_
              refine va_getN (own := RX9) (index := 350) (ref := RX3) (host := RX9) (D := (dC, dI)) (ci := 2) (v := .int wd3) (C := RX3) (T := TX3) (N := 3) hx hb hts iX9_paste_X3 hown hK hP 5 rfl rfl 0 (by decide) (va_Nw.use rfl (hN _ (List.mem_of_getElem? (i := 21) rfl))) (fun _ h9 => h9) rfl dX9_paste_56 ?_
              refine lv_aload hx hb dX9_paste_59 (lv_at hl 0 rfl) ?_
              refine va_getN (own := RX9) (index := 350) (ref := RX3) (host := RX9) (D := (dC, dI)) (ci := 2) (v := .int wd3) (C := RX3) (T := TX3) (N := 3) hx hb hts iX9_paste_X3 hown hK hP 5 rfl rfl 0 (by decide) (va_Nw.use rfl (hN _ (List.mem_of_getElem? (i := 21) rfl))) (fun _ h9 => h9) rfl dX9_paste_61 ?_
              refine lv_icmp_eq (tgt := 70) hx hb dX9_paste_64 (by decide) (fun c_525 => ?_) (fun c_525 => ?_)
              ·
                have n_c_525 : (wd3.toInt : Int) = wd3.toInt := c_eq rfl rfl c_525
                refine lv_aload hx hb dX9_paste_70 (lv_at hl 1 rfl) ?_
                refine lv_iload_n hx hb dX9_paste_72 rfl (lv_at hl 4 rfl) ?_
                refine lv_iload hx hb dX9_paste_73 (lv_at hl 7 rfl) ?_
                refine vp_callSi (W.runV (As := [.int a2, .int a5]) (rest := []) ⟨hx, hb, hml, hown, hts⟩ (kX3_hasStretch l dC dI s3 wd3 rz3 n3 a2 a5 (rg_w b_wd3 (by decide) (by decide)) b_rz3) (cwV 2 hts gX9_paste__X3_hasStretch_V343 rfl rfl rfl hd_yX3_hasStretch ⟨lel 1 2 rfl, lel 22 88 rfl⟩) ⟨pw_fb, rcv_X3 hK hP (q0 := 5) rfl, (pw_use hP hK hN [5] rfl [] rfl)⟩ rfl rfl hl.1 rfl (lv_room (Nat.le_of_ble_eq_true rfl)) dX9_paste_75 ⟨lel 0 0 rfl, lel 0 0 rfl⟩) (fun r_526 h_r_526 => ?_)
                obtain ⟨b_r_526, nz_r_526⟩ := h_r_526
                have b_r_526 : (0 : Int) ≤ r_526.toInt ∧ r_526.toInt ≤ 1 := b_r_526
                refine lv_if_eq (tgt := 93) hx hb dX9_paste_78 (by decide) (fun c_527 => ?_) (fun c_527 => ?_)
                ·
                  have n_c_527 : (r_526.toInt : Int) = 0 := c_eq rfl (by decide) c_527
                  have b_r_526 : (0 : Int) ≤ r_526.toInt ∧ r_526.toInt ≤ 0 := r_eq1 b_r_526 (by decide : (0 : Int) ≤ (0 : Int32).toInt ∧ (0 : Int32).toInt ≤ 0) n_c_527 (by decide)
                  refine lv_bipush (v := (-7)) hx hb dX9_paste_93 (by decide) ?_
                  have hP9 := hP.sub (ws' := [(h0, .inr (7, [.ref tp, .ref sc, .ref rd, .ref cu, .ref im, .ref ig, .ref sl, .ref se, .ref sm, .ref fc])), (sl, .inl (cS, 4, .inr (.inr (.inr (.inr (sf4 s0 s1 s2 s3)))))), (s0, .inr (2, [.int wd0, .int rz0, .ref n0])), (s1, .inr (2, [.int wd1, .int rz1, .ref n1])), (s2, .inr (2, [.int wd2, .int rz2, .ref n2])), (s3, .inr (2, [.int wd3, .int rz3, .ref n3])), (n0, .inl (cJ0, 60, .inr (.inl g0))), (n1, .inl (cJ1, 60, .inr (.inl g1))), (n2, .inl (cJ2, 60, .inr (.inl g2))), (n3, .inl (cJ3, 60, .inr (.inl g3)))]) [0, 1, 2, 3, 4, 5, 6, 7, 8, 9] rfl
                  have hD9 := hD.sub (ws' := [(h0, .inr (7, [.ref tp, .ref sc, .ref rd, .ref cu, .ref im, .ref ig, .ref sl, .ref se, .ref sm, .ref fc])), (sl, .inl (cS, 4, .inr (.inr (.inr (.inr (sf4 s0 s1 s2 s3)))))), (s0, .inr (2, [.int wd0, .int rz0, .ref n0])), (s1, .inr (2, [.int wd1, .int rz1, .ref n1])), (s2, .inr (2, [.int wd2, .int rz2, .ref n2])), (s3, .inr (2, [.int wd3, .int rz3, .ref n3])), (n0, .inl (cJ0, 60, .inr (.inl g0))), (n1, .inl (cJ1, 60, .inr (.inl g1))), (n2, .inl (cJ2, 60, .inr (.inl g2))), (n3, .inl (cJ3, 60, .inr (.inl g3)))]) [0, 1, 2, 3, 4, 5, 6, 7, 8, 9] (by decide) rfl
                  have hK9 := hK.sub (tys' := [(cS, .object RX3), (cJ0, .long), (cJ1, .long), (cJ2, .long), (cJ3, .long)]) [0, 1, 2, 3, 4] rfl
                  exact W.iret (v := (-7)) hx hb hr (fun t ht hW => ⟨⟨(-7), (), rfl, (rg_w (by decide : (-7 : Int) ≤ ((-7) : Int32).toInt ∧ ((-7) : Int32).toInt ≤ -7) (by decide) (by decide)), g0, g1, g2, g3, by rw [ht]; exact hP9, va_K.moved hW.alike hK9, hD9⟩, hS.F ht⟩) hS.2.2 dX9_paste_95
                ·
                  have n_c_527 : (r_526.toInt : Int) ≠ 0 := c_ne rfl (by decide) c_527
                  have b_r_526 : (1 : Int) ≤ r_526.toInt ∧ r_526.toInt ≤ 1 := r_ne1 b_r_526 (by decide : (0 : Int) ≤ (0 : Int32).toInt ∧ (0 : Int32).toInt ≤ 0) n_c_527 (by decide)
                  obtain ⟨b_a2, b_a5, g_528⟩ := nz_r_526 c_527
                  refine lv_aload hx hb dX9_paste_81 (lv_at hl 0 rfl) ?_
                  refine lv_iload hx hb dX9_paste_83 (lv_at hl 6 rfl) ?_
                  refine lv_iload hx hb dX9_paste_85 (lv_at hl 7 rfl) ?_
                  refine vp_callSi (W.runV (As := [.int a4, .int a5]) (rest := []) ⟨hx, hb, hml, hown, hts⟩ (kX3_hasStretch l dC dI s3 wd3 rz3 n3 a4 a5 (rg_w b_wd3 (by decide) (by decide)) b_rz3) (cwV 2 hts gX9_paste__X3_hasStretch_V343 rfl rfl rfl hd_yX3_hasStretch ⟨lel 1 2 rfl, lel 22 88 rfl⟩) ⟨pw_fb, rcv_X3 hK hP (q0 := 5) rfl, (pw_use hP hK hN [5] rfl [] rfl)⟩ rfl rfl hl.1 rfl (lv_room (Nat.le_of_ble_eq_true rfl)) dX9_paste_87 ⟨lel 0 0 rfl, lel 0 0 rfl⟩) (fun r_529 h_r_529 => ?_)
                  obtain ⟨b_r_529, nz_r_529⟩ := h_r_529
                  have b_r_529 : (0 : Int) ≤ r_529.toInt ∧ r_529.toInt ≤ 1 := b_r_529
                  refine lv_if_ne (tgt := 96) hx hb dX9_paste_90 (by decide) (fun c_530 => ?_) (fun c_530 => ?_)
                  ·
                    have n_c_530 : (r_529.toInt : Int) ≠ 0 := c_ne rfl (by decide) c_530
                    have b_r_529 : (1 : Int) ≤ r_529.toInt ∧ r_529.toInt ≤ 1 := r_ne1 b_r_529 (by decide : (0 : Int) ≤ (0 : Int32).toInt ∧ (0 : Int32).toInt ≤ 0) n_c_530 (by decide)
                    obtain ⟨b_a4, b_a5, g_531⟩ := nz_r_529 c_530
                    refine lv_aload hx hb dX9_paste_96 (lv_at hl 0 rfl) ?_
                    refine lv_iload hx hb dX9_paste_98 (lv_at hl 6 rfl) ?_
                    refine lv_aload hx hb dX9_paste_100 (lv_at hl 1 rfl) ?_
                    refine lv_iload_n hx hb dX9_paste_102 rfl (lv_at hl 4 rfl) ?_
                    refine lv_iload hx hb dX9_paste_103 (lv_at hl 7 rfl) ?_
                    have hFc := va_free (wc := [(s3, .inr (2, [.int wd3, .int rz3, .ref n3])), (n3, .inl (cJ3, 60, .inr (.inl g3)))]) hD hS hA [5, 9] rfl
                    refine va_callv (va_runV (As := [.int a4, .ref s3, .int a2, .int a5]) (rest := []) ⟨hx, hb, hml, hown, hts⟩ (kX3_takeS l dC dI s3 wd3 rz3 n3 cJ3 g3 a4 a2 a5 (s.heap.size) (rg_w b_wd3 (by decide) (by decide)) b_rz3) (cwV 4 hts gX9_paste__X3_takeS_V353 rfl rfl rfl hd_yX3_take ⟨lel 2 2 rfl, lel 88 88 rfl⟩) ⟨hw_fb, rcv_X3 hK hP (q0 := 5) rfl, (hw_use hP hD hK hN [5, 9] rfl (by decide) rfl [4] rfl)⟩ rfl rfl hl.1 rfl (lv_room (Nat.le_of_ble_eq_true rfl)) dX9_paste_105 ⟨lel 0 0 rfl, lel 0 0 rfl⟩) hS (fun q _ h => hFc q h) hFc (fun u_533 t H1 locs ht hvm hw_r_532 hB hz1 hk1 hS => ?_)
                    obtain ⟨o0_534, hP1, hK1, hD1⟩ := hB
                    rw [ht] at hP1
                    have hK1 := va_K.moved hvm.symm hK1
                    obtain ⟨hP, hD⟩ := va_join (wr := [(h0, .inr (7, [.ref tp, .ref sc, .ref rd, .ref cu, .ref im, .ref ig, .ref sl, .ref se, .ref sm, .ref fc])), (sl, .inl (cS, 4, .inr (.inr (.inr (.inr (sf4 s0 s1 s2 s3)))))), (s0, .inr (2, [.int wd0, .int rz0, .ref n0])), (s1, .inr (2, [.int wd1, .int rz1, .ref n1])), (s2, .inr (2, [.int wd2, .int rz2, .ref n2])), (n0, .inl (cJ0, 60, .inr (.inl g0))), (n1, .inl (cJ1, 60, .inr (.inl g1))), (n2, .inl (cJ2, 60, .inr (.inl g2)))]) (w1 := [(s3, .inr (2, [.int wd3, .int rz3, .ref n3])), (n3, .inl (cJ3, 60, .inr (.inl o0_534)))]) hP hD [5, 9] [0, 1, 2, 3, 4, 6, 7, 8] rfl rfl (by decide) (by decide) hk1 hFc hP1 hD1
                    have hK := (hK.sub (tys' := [(cS, .object RX3), (cJ0, .long), (cJ1, .long), (cJ2, .long)]) [0, 1, 2, 3] rfl).app hK1
                    generalize H1 = H at hP hS ⊢
                    have hP := hP.sub (ws' := [(h0, .inr (7, [.ref tp, .ref sc, .ref rd, .ref cu, .ref im, .ref ig, .ref sl, .ref se, .ref sm, .ref fc])), (sl, .inl (cS, 4, .inr (.inr (.inr (.inr (sf4 s0 s1 s2 s3)))))), (s0, .inr (2, [.int wd0, .int rz0, .ref n0])), (s1, .inr (2, [.int wd1, .int rz1, .ref n1])), (s2, .inr (2, [.int wd2, .int rz2, .ref n2])), (s3, .inr (2, [.int wd3, .int rz3, .ref n3])), (n0, .inl (cJ0, 60, .inr (.inl g0))), (n1, .inl (cJ1, 60, .inr (.inl g1))), (n2, .inl (cJ2, 60, .inr (.inl g2))), (n3, .inl (cJ3, 60, .inr (.inl o0_534)))]) [0, 1, 2, 3, 4, 8, 5, 6, 7, 9] rfl
                    have hD := hD.sub (ws' := [(h0, .inr (7, [.ref tp, .ref sc, .ref rd, .ref cu, .ref im, .ref ig, .ref sl, .ref se, .ref sm, .ref fc])), (sl, .inl (cS, 4, .inr (.inr (.inr (.inr (sf4 s0 s1 s2 s3)))))), (s0, .inr (2, [.int wd0, .int rz0, .ref n0])), (s1, .inr (2, [.int wd1, .int rz1, .ref n1])), (s2, .inr (2, [.int wd2, .int rz2, .ref n2])), (s3, .inr (2, [.int wd3, .int rz3, .ref n3])), (n0, .inl (cJ0, 60, .inr (.inl g0))), (n1, .inl (cJ1, 60, .inr (.inl g1))), (n2, .inl (cJ2, 60, .inr (.inl g2))), (n3, .inl (cJ3, 60, .inr (.inl o0_534)))]) [0, 1, 2, 3, 4, 8, 5, 6, 7, 9] (by decide) rfl
                    have hP : va_P (dC, dI) vwCl [(h0, .inr (7, [.ref tp, .ref sc, .ref rd, .ref cu, .ref im, .ref ig, .ref sl, .ref se, .ref sm, .ref fc])), (sl, .inl (cS, 4, .inr (.inr (.inr (.inr (sf4 s0 s1 s2 s3)))))), (s0, .inr (2, [.int wd0, .int rz0, .ref n0])), (s1, .inr (2, [.int wd1, .int rz1, .ref n1])), (s2, .inr (2, [.int wd2, .int rz2, .ref n2])), (s3, .inr (2, [.int wd3, .int rz3, .ref n3])), (n0, .inl (cJ0, 60, .inr (.inl g0))), (n1, .inl (cJ1, 60, .inr (.inl g1))), (n2, .inl (cJ2, 60, .inr (.inl g2))), (n3, .inl (cJ3, 60, .inr (.inl o0_534)))] H := hP
                    have hD : va_D A [(h0, .inr (7, [.ref tp, .ref sc, .ref rd, .ref cu, .ref im, .ref ig, .ref sl, .ref se, .ref sm, .ref fc])), (sl, .inl (cS, 4, .inr (.inr (.inr (.inr (sf4 s0 s1 s2 s3)))))), (s0, .inr (2, [.int wd0, .int rz0, .ref n0])), (s1, .inr (2, [.int wd1, .int rz1, .ref n1])), (s2, .inr (2, [.int wd2, .int rz2, .ref n2])), (s3, .inr (2, [.int wd3, .int rz3, .ref n3])), (n0, .inl (cJ0, 60, .inr (.inl g0))), (n1, .inl (cJ1, 60, .inr (.inl g1))), (n2, .inl (cJ2, 60, .inr (.inl g2))), (n3, .inl (cJ3, 60, .inr (.inl o0_534)))] := hD
                    have hK : va_K (dC, dI) vwCl [(cS, .object RX3), (cJ0, .long), (cJ1, .long), (cJ2, .long), (cJ3, .long)] s := hK
                    refine lv_iconst (v := 0) hx hb dX9_paste_108 (by decide) ?_
                    have hP9 := hP.sub (ws' := [(h0, .inr (7, [.ref tp, .ref sc, .ref rd, .ref cu, .ref im, .ref ig, .ref sl, .ref se, .ref sm, .ref fc])), (sl, .inl (cS, 4, .inr (.inr (.inr (.inr (sf4 s0 s1 s2 s3)))))), (s0, .inr (2, [.int wd0, .int rz0, .ref n0])), (s1, .inr (2, [.int wd1, .int rz1, .ref n1])), (s2, .inr (2, [.int wd2, .int rz2, .ref n2])), (s3, .inr (2, [.int wd3, .int rz3, .ref n3])), (n0, .inl (cJ0, 60, .inr (.inl g0))), (n1, .inl (cJ1, 60, .inr (.inl g1))), (n2, .inl (cJ2, 60, .inr (.inl g2))), (n3, .inl (cJ3, 60, .inr (.inl o0_534)))]) [0, 1, 2, 3, 4, 5, 6, 7, 8, 9] rfl
                    have hD9 := hD.sub (ws' := [(h0, .inr (7, [.ref tp, .ref sc, .ref rd, .ref cu, .ref im, .ref ig, .ref sl, .ref se, .ref sm, .ref fc])), (sl, .inl (cS, 4, .inr (.inr (.inr (.inr (sf4 s0 s1 s2 s3)))))), (s0, .inr (2, [.int wd0, .int rz0, .ref n0])), (s1, .inr (2, [.int wd1, .int rz1, .ref n1])), (s2, .inr (2, [.int wd2, .int rz2, .ref n2])), (s3, .inr (2, [.int wd3, .int rz3, .ref n3])), (n0, .inl (cJ0, 60, .inr (.inl g0))), (n1, .inl (cJ1, 60, .inr (.inl g1))), (n2, .inl (cJ2, 60, .inr (.inl g2))), (n3, .inl (cJ3, 60, .inr (.inl o0_534)))]) [0, 1, 2, 3, 4, 5, 6, 7, 8, 9] (by decide) rfl
                    have hK9 := hK.sub (tys' := [(cS, .object RX3), (cJ0, .long), (cJ1, .long), (cJ2, .long), (cJ3, .long)]) [0, 1, 2, 3, 4] rfl
                    exact W.iret (v := 0) hx hb hr (fun t ht hW => ⟨⟨0, (), rfl, (rg_w (by decide : (0 : Int) ≤ (0 : Int32).toInt ∧ (0 : Int32).toInt ≤ 0) (by decide) (by decide)), g0, g1, g2, o0_534, by rw [ht]; exact hP9, va_K.moved hW.alike hK9, hD9⟩, hS.F ht⟩) hS.2.2 dX9_paste_109
                  ·
                    have n_c_530 : (r_529.toInt : Int) = 0 := c_eq rfl (by decide) c_530
                    have b_r_529 : (0 : Int) ≤ r_529.toInt ∧ r_529.toInt ≤ 0 := r_eq1 b_r_529 (by decide : (0 : Int) ≤ (0 : Int32).toInt ∧ (0 : Int32).toInt ≤ 0) n_c_530 (by decide)
                    refine lv_bipush (v := (-7)) hx hb dX9_paste_93 (by decide) ?_
                    have hP9 := hP.sub (ws' := [(h0, .inr (7, [.ref tp, .ref sc, .ref rd, .ref cu, .ref im, .ref ig, .ref sl, .ref se, .ref sm, .ref fc])), (sl, .inl (cS, 4, .inr (.inr (.inr (.inr (sf4 s0 s1 s2 s3)))))), (s0, .inr (2, [.int wd0, .int rz0, .ref n0])), (s1, .inr (2, [.int wd1, .int rz1, .ref n1])), (s2, .inr (2, [.int wd2, .int rz2, .ref n2])), (s3, .inr (2, [.int wd3, .int rz3, .ref n3])), (n0, .inl (cJ0, 60, .inr (.inl g0))), (n1, .inl (cJ1, 60, .inr (.inl g1))), (n2, .inl (cJ2, 60, .inr (.inl g2))), (n3, .inl (cJ3, 60, .inr (.inl g3)))]) [0, 1, 2, 3, 4, 5, 6, 7, 8, 9] rfl
                    have hD9 := hD.sub (ws' := [(h0, .inr (7, [.ref tp, .ref sc, .ref rd, .ref cu, .ref im, .ref ig, .ref sl, .ref se, .ref sm, .ref fc])), (sl, .inl (cS, 4, .inr (.inr (.inr (.inr (sf4 s0 s1 s2 s3)))))), (s0, .inr (2, [.int wd0, .int rz0, .ref n0])), (s1, .inr (2, [.int wd1, .int rz1, .ref n1])), (s2, .inr (2, [.int wd2, .int rz2, .ref n2])), (s3, .inr (2, [.int wd3, .int rz3, .ref n3])), (n0, .inl (cJ0, 60, .inr (.inl g0))), (n1, .inl (cJ1, 60, .inr (.inl g1))), (n2, .inl (cJ2, 60, .inr (.inl g2))), (n3, .inl (cJ3, 60, .inr (.inl g3)))]) [0, 1, 2, 3, 4, 5, 6, 7, 8, 9] (by decide) rfl
                    have hK9 := hK.sub (tys' := [(cS, .object RX3), (cJ0, .long), (cJ1, .long), (cJ2, .long), (cJ3, .long)]) [0, 1, 2, 3, 4] rfl
                    exact W.iret (v := (-7)) hx hb hr (fun t ht hW => ⟨⟨(-7), (), rfl, (rg_w (by decide : (-7 : Int) ≤ ((-7) : Int32).toInt ∧ ((-7) : Int32).toInt ≤ -7) (by decide) (by decide)), g0, g1, g2, g3, by rw [ht]; exact hP9, va_K.moved hW.alike hK9, hD9⟩, hS.F ht⟩) hS.2.2 dX9_paste_95
              ·
                have n_c_525 : (wd3.toInt : Int) ≠ wd3.toInt := c_ne rfl rfl c_525
                refine lv_bipush (v := (-8)) hx hb dX9_paste_67 (by decide) ?_
                have hP9 := hP.sub (ws' := [(h0, .inr (7, [.ref tp, .ref sc, .ref rd, .ref cu, .ref im, .ref ig, .ref sl, .ref se, .ref sm, .ref fc])), (sl, .inl (cS, 4, .inr (.inr (.inr (.inr (sf4 s0 s1 s2 s3)))))), (s0, .inr (2, [.int wd0, .int rz0, .ref n0])), (s1, .inr (2, [.int wd1, .int rz1, .ref n1])), (s2, .inr (2, [.int wd2, .int rz2, .ref n2])), (s3, .inr (2, [.int wd3, .int rz3, .ref n3])), (n0, .inl (cJ0, 60, .inr (.inl g0))), (n1, .inl (cJ1, 60, .inr (.inl g1))), (n2, .inl (cJ2, 60, .inr (.inl g2))), (n3, .inl (cJ3, 60, .inr (.inl g3)))]) [0, 1, 2, 3, 4, 5, 6, 7, 8, 9] rfl
                have hD9 := hD.sub (ws' := [(h0, .inr (7, [.ref tp, .ref sc, .ref rd, .ref cu, .ref im, .ref ig, .ref sl, .ref se, .ref sm, .ref fc])), (sl, .inl (cS, 4, .inr (.inr (.inr (.inr (sf4 s0 s1 s2 s3)))))), (s0, .inr (2, [.int wd0, .int rz0, .ref n0])), (s1, .inr (2, [.int wd1, .int rz1, .ref n1])), (s2, .inr (2, [.int wd2, .int rz2, .ref n2])), (s3, .inr (2, [.int wd3, .int rz3, .ref n3])), (n0, .inl (cJ0, 60, .inr (.inl g0))), (n1, .inl (cJ1, 60, .inr (.inl g1))), (n2, .inl (cJ2, 60, .inr (.inl g2))), (n3, .inl (cJ3, 60, .inr (.inl g3)))]) [0, 1, 2, 3, 4, 5, 6, 7, 8, 9] (by decide) rfl
                have hK9 := hK.sub (tys' := [(cS, .object RX3), (cJ0, .long), (cJ1, .long), (cJ2, .long), (cJ3, .long)]) [0, 1, 2, 3, 4] rfl
                exact W.iret (v := (-8)) hx hb hr (fun t ht hW => ⟨⟨(-8), (), rfl, (rg_w (by decide : (-8 : Int) ≤ ((-8) : Int32).toInt ∧ ((-8) : Int32).toInt ≤ -8) (by decide) (by decide)), g0, g1, g2, g3, by rw [ht]; exact hP9, va_K.moved hW.alike hK9, hD9⟩, hS.F ht⟩) hS.2.2 dX9_paste_69
            ·
              have n_c_523 : (r_522.toInt : Int) = 0 := c_eq rfl (by decide) c_523
              have b_r_522 : (0 : Int) ≤ r_522.toInt ∧ r_522.toInt ≤ 0 := r_eq1 b_r_522 (by decide : (0 : Int) ≤ (0 : Int32).toInt ∧ (0 : Int32).toInt ≤ 0) n_c_523 (by decide)
              refine lv_bipush (v := (-6)) hx hb dX9_paste_51 (by decide) ?_
              have hP9 := hP.sub (ws' := [(h0, .inr (7, [.ref tp, .ref sc, .ref rd, .ref cu, .ref im, .ref ig, .ref sl, .ref se, .ref sm, .ref fc])), (sl, .inl (cS, 4, .inr (.inr (.inr (.inr (sf4 s0 s1 s2 s3)))))), (s0, .inr (2, [.int wd0, .int rz0, .ref n0])), (s1, .inr (2, [.int wd1, .int rz1, .ref n1])), (s2, .inr (2, [.int wd2, .int rz2, .ref n2])), (s3, .inr (2, [.int wd3, .int rz3, .ref n3])), (n0, .inl (cJ0, 60, .inr (.inl g0))), (n1, .inl (cJ1, 60, .inr (.inl g1))), (n2, .inl (cJ2, 60, .inr (.inl g2))), (n3, .inl (cJ3, 60, .inr (.inl g3)))]) [0, 1, 2, 3, 4, 5, 6, 7, 8, 9] rfl
              have hD9 := hD.sub (ws' := [(h0, .inr (7, [.ref tp, .ref sc, .ref rd, .ref cu, .ref im, .ref ig, .ref sl, .ref se, .ref sm, .ref fc])), (sl, .inl (cS, 4, .inr (.inr (.inr (.inr (sf4 s0 s1 s2 s3)))))), (s0, .inr (2, [.int wd0, .int rz0, .ref n0])), (s1, .inr (2, [.int wd1, .int rz1, .ref n1])), (s2, .inr (2, [.int wd2, .int rz2, .ref n2])), (s3, .inr (2, [.int wd3, .int rz3, .ref n3])), (n0, .inl (cJ0, 60, .inr (.inl g0))), (n1, .inl (cJ1, 60, .inr (.inl g1))), (n2, .inl (cJ2, 60, .inr (.inl g2))), (n3, .inl (cJ3, 60, .inr (.inl g3)))]) [0, 1, 2, 3, 4, 5, 6, 7, 8, 9] (by decide) rfl
              have hK9 := hK.sub (tys' := [(cS, .object RX3), (cJ0, .long), (cJ1, .long), (cJ2, .long), (cJ3, .long)]) [0, 1, 2, 3, 4] rfl
              exact W.iret (v := (-6)) hx hb hr (fun t ht hW => ⟨⟨(-6), (), rfl, (rg_w (by decide : (-6 : Int) ≤ ((-6) : Int32).toInt ∧ ((-6) : Int32).toInt ≤ -6) (by decide) (by decide)), g0, g1, g2, g3, by rw [ht]; exact hP9, va_K.moved hW.alike hK9, hD9⟩, hS.F ht⟩) hS.2.2 dX9_paste_53
    ·
      have n_c_272 : (r_271.toInt : Int) = 0 := c_eq rfl (by decide) c_272
      have b_r_271 : (0 : Int) ≤ r_271.toInt ∧ r_271.toInt ≤ 0 := r_eq1 b_r_271 (by decide : (0 : Int) ≤ (0 : Int32).toInt ∧ (0 : Int32).toInt ≤ 0) n_c_272 (by decide)
      refine lv_bipush (v := (-2)) hx hb dX9_paste_16 (by decide) ?_
      have hP9 := hP.sub (ws' := [(h0, .inr (7, [.ref tp, .ref sc, .ref rd, .ref cu, .ref im, .ref ig, .ref sl, .ref se, .ref sm, .ref fc])), (sl, .inl (cS, 4, .inr (.inr (.inr (.inr (sf4 s0 s1 s2 s3)))))), (s0, .inr (2, [.int wd0, .int rz0, .ref n0])), (s1, .inr (2, [.int wd1, .int rz1, .ref n1])), (s2, .inr (2, [.int wd2, .int rz2, .ref n2])), (s3, .inr (2, [.int wd3, .int rz3, .ref n3])), (n0, .inl (cJ0, 60, .inr (.inl g0))), (n1, .inl (cJ1, 60, .inr (.inl g1))), (n2, .inl (cJ2, 60, .inr (.inl g2))), (n3, .inl (cJ3, 60, .inr (.inl g3)))]) [0, 1, 2, 3, 4, 5, 6, 7, 8, 9] rfl
      have hD9 := hD.sub (ws' := [(h0, .inr (7, [.ref tp, .ref sc, .ref rd, .ref cu, .ref im, .ref ig, .ref sl, .ref se, .ref sm, .ref fc])), (sl, .inl (cS, 4, .inr (.inr (.inr (.inr (sf4 s0 s1 s2 s3)))))), (s0, .inr (2, [.int wd0, .int rz0, .ref n0])), (s1, .inr (2, [.int wd1, .int rz1, .ref n1])), (s2, .inr (2, [.int wd2, .int rz2, .ref n2])), (s3, .inr (2, [.int wd3, .int rz3, .ref n3])), (n0, .inl (cJ0, 60, .inr (.inl g0))), (n1, .inl (cJ1, 60, .inr (.inl g1))), (n2, .inl (cJ2, 60, .inr (.inl g2))), (n3, .inl (cJ3, 60, .inr (.inl g3)))]) [0, 1, 2, 3, 4, 5, 6, 7, 8, 9] (by decide) rfl
      have hK9 := hK.sub (tys' := [(cS, .object RX3), (cJ0, .long), (cJ1, .long), (cJ2, .long), (cJ3, .long)]) [0, 1, 2, 3, 4] rfl
      exact W.iret (v := (-2)) hx hb hr (fun t ht hW => ⟨⟨(-2), (), rfl, (rg_w (by decide : (-2 : Int) ≤ ((-2) : Int32).toInt ∧ ((-2) : Int32).toInt ≤ -2) (by decide) (by decide)), g0, g1, g2, g3, by rw [ht]; exact hP9, va_K.moved hW.alike hK9, hD9⟩, hS.F ht⟩) hS.2.2 dX9_paste_18
