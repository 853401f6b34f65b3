theorem dX2_makeRoom_0 : decode cX2_makeRoom 0 = .ok (.aload_n 0, 1) := by decide +kernel
theorem dX2_makeRoom_1 : decode cX2_makeRoom 1 = .ok (.getfield 9, 3) := by decide +kernel
theorem dX2_makeRoom_4 : decode cX2_makeRoom 4 = .ok (.arraylength, 1) := by decide +kernel
theorem dX2_makeRoom_5 : decode cX2_makeRoom 5 = .ok (.iload_n 1, 1) := by decide +kernel
theorem dX2_makeRoom_6 : decode cX2_makeRoom 6 = .ok (.if_icmp .ge 17, 3) := by decide +kernel
theorem dX2_makeRoom_9 : decode cX2_makeRoom 9 = .ok (.aload_n 0, 1) := by decide +kernel
theorem dX2_makeRoom_10 : decode cX2_makeRoom 10 = .ok (.iload_n 1, 1) := by decide +kernel
theorem dX2_makeRoom_11 : decode cX2_makeRoom 11 = .ok (.newarray .long, 2) := by decide +kernel
theorem dX2_makeRoom_13 : decode cX2_makeRoom 13 = .ok (.putfield 9, 3) := by decide +kernel
theorem dX2_makeRoom_16 : decode cX2_makeRoom 16 = .ok (.aload_n 0, 1) := by decide +kernel
theorem dX2_makeRoom_17 : decode cX2_makeRoom 17 = .ok (.iload_n 1, 1) := by decide +kernel
theorem dX2_makeRoom_18 : decode cX2_makeRoom 18 = .ok (.newarray .int, 2) := by decide +kernel
theorem dX2_makeRoom_20 : decode cX2_makeRoom 20 = .ok (.putfield 15, 3) := by decide +kernel
theorem dX2_makeRoom_23 : decode cX2_makeRoom 23 = .ok (.return_, 1) := by decide +kernel
theorem hd_yX2_makeRoom : yX2_makeRoom.cls = RX2 ∧ yX2_makeRoom.cls ≠ "java/lang/invoke/MethodHandle" ∧ yX2_makeRoom.cls ≠ "java/lang/invoke/VarHandle" ∧ (parseMethodDescriptor yX2_makeRoom.desc).map (fun d => d.parameters.length) = some 1 := by decide +kernel
def uX2_makeRoom : List Cond := List.cons (.code yX2_makeRoom cX2_makeRoom 2 none) (HAppend.hAppend ([.fieldLink RX2 9 "LuckyTicket$Roll" "faces" "[J", .arrayClass .long, .arrayClass .int, .fieldLink RX2 15 "LuckyTicket$Roll" "luck" "[I"] : List Cond) wsX20)
theorem iX2_makeRoom_X2 : ∀ w ∈ wsX20, w ∈ uX2_makeRoom := fun _ h => (List.mem_cons_of_mem _ (List.mem_append_right _ h))
theorem guX2_makeRoom : GU uX2_makeRoom := gu_cons (gu_app (by decide +kernel) gws_X2)
set_option maxHeartbeats 4000000 in
set_option maxRecDepth 100000 in
theorem kX2_makeRoom (l : Launch) (dC : Nat → ClassId) (dI : Nat → Nat → Nat) (cu : Nat) (ln : Int32) (bs : Int32) (tk : Int32) (lw : Int32) (li : Int32) (fa : Nat) (lu : Nat) (cF : ClassId) (nf : Nat) (ff : Nat → Int64) (cL : ClassId) (nl : Nat) (fl : Nat → Int32) (a1 : Int32) (cc : Nat) (sz : Nat) (b_ln : (0 : Int) ≤ ln.toInt ∧ ln.toInt ≤ 12) (b_bs : (0 : Int) ≤ bs.toInt ∧ bs.toInt ≤ 16) (b_tk : (0 : Int) ≤ tk.toInt ∧ tk.toInt ≤ 320000) (b_lw : (0 : Int) ≤ lw.toInt ∧ lw.toInt ≤ 9) (b_a1 : (0 : Int) ≤ a1.toInt ∧ a1.toInt ≤ 20000) (hnl : nl = nf) (hnm : nf ≤ 20000) (his : isz a1) : Met l yX2_makeRoom uX2_makeRoom ({ frames := 0, cells := 2, slots := 40000, locals := 0 }) (va_Pc [.ref cu, .int a1] (hg (dC, dI) vwCl [(cu, .inr (1, [.int ln, .int bs, .int tk, .int lw, .int li, .ref fa, .ref lu])), (fa, .inl (cF, nf, .inr (.inl ff))), (lu, .inl (cL, nl, .inl fl))] [(cF, .long), (cL, .int)] sz cc (2 * pot nf))) (va_Qv (fun (_ : Unit) => True) (fun (_ : Unit) t => ∃ (o0_ : Nat) (o1_ : ClassId) (o2_ : Nat) (o3_ : Nat → Int64) (o4_ : Nat) (o5_ : ClassId) (o6_ : Nat) (o7_ : Nat → Int32), (o6_ = o2_) ∧ (o2_ ≤ 20000) ∧ (a1.toInt ≤ (o2_ : Int)) ∧ (nf ≤ o2_) ∧ (tot t.heap + (2 * pot o2_) ≤ cc) ∧ va_P (dC, dI) vwCl [(cu, .inr (1, [.int ln, .int bs, .int tk, .int lw, .int li, .ref o0_, .ref o4_])), (o0_, .inl (o1_, o2_, .inr (.inl o3_))), (o4_, .inl (o5_, o6_, .inl o7_))] t.heap ∧ va_K (dC, dI) vwCl [(o1_, .long), (o5_, .int)] t ∧ va_D (va_A [(cu, .inr (1, [.int ln, .int bs, .int tk, .int lw, .int li, .ref fa, .ref lu])), (fa, .inl (cF, nf, .inr (.inl ff))), (lu, .inl (cL, nl, .inl fl))] sz) [(cu, .inr (1, [.int ln, .int bs, .int tk, .int lw, .int li, .ref o0_, .ref o4_])), (o0_, .inl (o1_, o2_, .inr (.inl o3_))), (o4_, .inl (o5_, o6_, .inl o7_))]) (va_A [(cu, .inr (1, [.int ln, .int bs, .int tk, .int lw, .int li, .ref fa, .ref lu])), (fa, .inl (cF, nf, .inr (.inl ff))), (lu, .inl (cL, nl, .inl fl))] sz)) 2 40000 (va_A [(cu, .inr (1, [.int ln, .int bs, .int tk, .int lw, .int li, .ref fa, .ref lu])), (fa, .inl (cF, nf, .inr (.inl ff))), (lu, .inl (cL, nl, .inl fl))] sz) := by
  refine Met.ofW (cc := cX2_makeRoom) (maxL := 2) (ret := none) pn_X2 rfl ?_
  intro p e s m args below meth c s₁ B hml hv
  obtain ⟨rfl, ⟨hsz, hP, hK, hD0, hN⟩, htot⟩ := hv
  have hx := B.exec
  have hb := B.bytes
  have hr := B.returns
  have hts := atoms_spec (ws := uX2_makeRoom) B.pre
  have hown : s.vm.findClass RX2 = some m.cls := hown_of B.named rfl
  have hlocks := B.notSynchronized
  subst hsz
  have hD := hD0.self (sz := s.heap.size)
  generalize hAe : va_A [(cu, .inr (1, [.int ln, .int bs, .int tk, .int lw, .int li, .ref fa, .ref lu])), (fa, .inl (cF, nf, .inr (.inl ff))), (lu, .inl (cL, nl, .inl fl))] s.heap.size = A at hD ⊢
  have hA : ∀ q : Nat, s.heap.size ≤ q → A q := fun q h => by rw [← hAe]; exact Or.inr h
  have hS : va_S A s.heap s.heap [] := va_S.rf
  have hP : va_P (dC, dI) vwCl [(cu, .inr (1, [.int ln, .int bs, .int tk, .int lw, .int li, .ref fa, .ref lu])), (fa, .inl (cF, nf, .inr (.inl ff))), (lu, .inl (cL, nl, .inl fl))] s.heap := hP
  have hl := lv_entry ([.ref cu, .int a1]) (n := 2) (Nat.le_of_ble_eq_true rfl)
  rw [lg_entry_eq]
  generalize (lg_sl ([.ref cu, .int a1]) ++ List.replicate (2 - (lg_sl ([.ref cu, .int a1])).length) Slot.unset).toArray = ls at hl ⊢
  have hl : lv_has ls 2 [(0, .ref cu), (1, .int a1)] := hl
  refine lv_aload_n hx hb dX2_makeRoom_0 rfl (lv_at hl 0 rfl) ?_
  refine va_get (D := (dC, dI)) (ci := 1) (v := .ref fa) (C := RX2) (T := TX2) (N := 7) hx hb hts iX2_makeRoom_X2 hown hK hP 0 rfl rfl 5 (by decide) (hts (.fieldLink RX2 9 "LuckyTicket$Roll" "faces" "[J") (List.mem_of_getElem? (i := 1) rfl)) (fun _ h9 => h9) rfl dX2_makeRoom_1 ?_
  obtain ⟨z_7, e_z_7⟩ : ∃ y : Int32, y = Int32.ofNat nf := ⟨_, rfl⟩
  refine va_alen (v := z_7) hx hb hK hP 1 0 rfl rfl e_z_7.symm dX2_makeRoom_4 ?_
  obtain ⟨q_z_7, b_z_7⟩ := ti_len (hi := 20000) e_z_7 (by omega) (by decide)
  refine lv_iload_n hx hb dX2_makeRoom_5 rfl (lv_at hl 1 rfl) ?_
  refine lv_icmp_ge (tgt := 23) hx hb dX2_makeRoom_6 (by decide) (fun c_8 => ?_) (fun c_8 => ?_)
  ·
    have n_c_8 : (a1.toInt : Int) ≤ z_7.toInt := c_ge rfl rfl c_8
    have hP9 := hP.sub (ws' := [(cu, .inr (1, [.int ln, .int bs, .int tk, .int lw, .int li, .ref fa, .ref lu])), (fa, .inl (cF, nf, .inr (.inl ff))), (lu, .inl (cL, nl, .inl fl))]) [0, 1, 2] rfl
    have hD9 := hD.sub (ws' := [(cu, .inr (1, [.int ln, .int bs, .int tk, .int lw, .int li, .ref fa, .ref lu])), (fa, .inl (cF, nf, .inr (.inl ff))), (lu, .inl (cL, nl, .inl fl))]) [0, 1, 2] (by decide) rfl
    have hK9 := hK.sub (tys' := [(cF, .long), (cL, .int)]) [0, 1] rfl
    refine W.know (fun hkn => ?_)
    have htt9 : tot s.heap + (2 * pot nf) ≤ cc := by omega
    refine W.widen (k := 2) (n := 40000) (lel _ _ rfl) (by omega) ?_
    exact W.vret hx hb hr (fun t ht hW => ⟨⟨(), rfl, trivial, fa, cF, nf, ff, lu, cL, nl, fl, (by omega), (by omega), (by omega), (by omega), (by rw [ht]; exact htt9), by rw [ht]; exact hP9, va_K.moved hW.alike hK9, hD9⟩, hS.F ht⟩) hS.2.2 dX2_makeRoom_23
  ·
    have n_c_8 : (z_7.toInt : Int) < a1.toInt := c_nge rfl rfl c_8
    have b_z_7 : (0 : Int) ≤ z_7.toInt ∧ z_7.toInt ≤ 19999 := r_lt1 b_z_7 b_a1 n_c_8 (by decide)
    have b_a1 : (1 : Int) ≤ a1.toInt ∧ a1.toInt ≤ 20000 := r_lt2 b_z_7 b_a1 n_c_8 (by decide)
    refine lv_aload_n hx hb dX2_makeRoom_9 rfl (lv_at hl 0 rfl) ?_
    refine lv_iload_n hx hb dX2_makeRoom_10 rfl (lv_at hl 1 rfl) ?_
    have hcl_q_9 : ((a1.toNatClampNeg : Nat) : Int) = a1.toInt := cl_nn (by have q0 := b_a1; omega)
    have hcm_q_9 : a1.toNatClampNeg ≤ 20000 := by have q0 := b_a1; omega
    refine va_newa (atype := .long) (ty := .long) (a0 := (a1.toNatClampNeg, .inr (.inl (fun _ => 0)))) (N' := a1.toNatClampNeg) hx hb (hts (.arrayClass .long) (List.mem_of_getElem? (i := 2) rfl)) rfl hK hP hD hS hA (fun cA => na2_long cA _) (ti_nn (by have q0 := b_a1; omega)) rfl (show a1.toNatClampNeg * 8 ≤ 536870912 from by omega) (lel 1 2 rfl) (show 0 + a1.toNatClampNeg ≤ (40000 : Nat) from by omega) dX2_makeRoom_11 (fun q_9 cA_10 H hK hP hD hS => ?_)
    have hP : va_P (dC, dI) vwCl [(cu, .inr (1, [.int ln, .int bs, .int tk, .int lw, .int li, .ref fa, .ref lu])), (fa, .inl (cF, nf, .inr (.inl ff))), (lu, .inl (cL, nl, .inl fl)), (q_9, .inl (cA_10, a1.toNatClampNeg, .inr (.inl (fun _ => 0))))] H := hP
    have hD : va_D A [(cu, .inr (1, [.int ln, .int bs, .int tk, .int lw, .int li, .ref fa, .ref lu])), (fa, .inl (cF, nf, .inr (.inl ff))), (lu, .inl (cL, nl, .inl fl)), (q_9, .inl (cA_10, a1.toNatClampNeg, .inr (.inl (fun _ => 0))))] := hD
    have hK : va_K (dC, dI) vwCl [(cF, .long), (cL, .int), (cA_10, .long)] s := hK
    refine va_put (D := (dC, dI)) (ci := 1) (v := .ref q_9) (ty := .array .long) (C := RX2) (T := TX2) (N := 7) hx hb hts iX2_makeRoom_X2 tyX2 tyX2_ok nmX2 hown hK hP hD hS 0 rfl rfl 5 (by decide) (hts (.fieldLink RX2 9 "LuckyTicket$Roll" "faces" "[J") (List.mem_of_getElem? (i := 1) rfl)) (fun _ h9 => h9) rfl (by decide +kernel) rfl rfl (Nat.le_of_ble_eq_true rfl) dX2_makeRoom_13 (fun H locs hP hD hS => ?_)
    have hP : va_P (dC, dI) vwCl [(cu, .inr (1, [.int ln, .int bs, .int tk, .int lw, .int li, .ref q_9, .ref lu])), (fa, .inl (cF, nf, .inr (.inl ff))), (lu, .inl (cL, nl, .inl fl)), (q_9, .inl (cA_10, a1.toNatClampNeg, .inr (.inl (fun _ => 0))))] H := hP
    have hD : va_D A [(cu, .inr (1, [.int ln, .int bs, .int tk, .int lw, .int li, .ref q_9, .ref lu])), (fa, .inl (cF, nf, .inr (.inl ff))), (lu, .inl (cL, nl, .inl fl)), (q_9, .inl (cA_10, a1.toNatClampNeg, .inr (.inl (fun _ => 0))))] := hD
    refine lv_aload_n hx hb dX2_makeRoom_16 rfl (lv_at hl 0 rfl) ?_
    refine lv_iload_n hx hb dX2_makeRoom_17 rfl (lv_at hl 1 rfl) ?_
    have hcl_q_11 : ((a1.toNatClampNeg : Nat) : Int) = a1.toInt := cl_nn (by have q0 := b_a1; omega)
    have hcm_q_11 : a1.toNatClampNeg ≤ 20000 := by have q0 := b_a1; omega
    refine va_newa (atype := .int) (ty := .int) (a0 := (a1.toNatClampNeg, .inl (fun _ => 0))) (N' := a1.toNatClampNeg) hx hb (hts (.arrayClass .int) (List.mem_of_getElem? (i := 3) rfl)) rfl hK hP hD hS hA (fun cA => na2_int cA _) (ti_nn (by have q0 := b_a1; omega)) rfl (show a1.toNatClampNeg * 4 ≤ 536870912 from by omega) (lel 2 2 rfl) (show 0 + a1.toNatClampNeg + a1.toNatClampNeg ≤ (40000 : Nat) from by omega) dX2_makeRoom_18 (fun q_11 cA_12 H hK hP hD hS => ?_)
    have hP : va_P (dC, dI) vwCl [(cu, .inr (1, [.int ln, .int bs, .int tk, .int lw, .int li, .ref q_9, .ref lu])), (fa, .inl (cF, nf, .inr (.inl ff))), (lu, .inl (cL, nl, .inl fl)), (q_9, .inl (cA_10, a1.toNatClampNeg, .inr (.inl (fun _ => 0)))), (q_11, .inl (cA_12, a1.toNatClampNeg, .inl (fun _ => 0)))] H := hP
    have hD : va_D A [(cu, .inr (1, [.int ln, .int bs, .int tk, .int lw, .int li, .ref q_9, .ref lu])), (fa, .inl (cF, nf, .inr (.inl ff))), (lu, .inl (cL, nl, .inl fl)), (q_9, .inl (cA_10, a1.toNatClampNeg, .inr (.inl (fun _ => 0)))), (q_11, .inl (cA_12, a1.toNatClampNeg, .inl (fun _ => 0)))] := hD
    have hK : va_K (dC, dI) vwCl [(cF, .long), (cL, .int), (cA_10, .long), (cA_12, .int)] s := hK
    refine va_put (D := (dC, dI)) (ci := 1) (v := .ref q_11) (ty := .array .int) (C := RX2) (T := TX2) (N := 7) hx hb hts iX2_makeRoom_X2 tyX2 tyX2_ok nmX2 hown hK hP hD hS 0 rfl rfl 6 (by decide) (hts (.fieldLink RX2 15 "LuckyTicket$Roll" "luck" "[I") (List.mem_of_getElem? (i := 4) rfl)) (fun _ h9 => h9) rfl (by decide +kernel) rfl rfl (Nat.le_of_ble_eq_true rfl) dX2_makeRoom_20 (fun H locs hP hD hS => ?_)
    have hP : va_P (dC, dI) vwCl [(cu, .inr (1, [.int ln, .int bs, .int tk, .int lw, .int li, .ref q_9, .ref q_11])), (fa, .inl (cF, nf, .inr (.inl ff))), (lu, .inl (cL, nl, .inl fl)), (q_9, .inl (cA_10, a1.toNatClampNeg, .inr (.inl (fun _ => 0)))), (q_11, .inl (cA_12, a1.toNatClampNeg, .inl (fun _ => 0)))] H := hP
    have hD : va_D A [(cu, .inr (1, [.int ln, .int bs, .int tk, .int lw, .int li, .ref q_9, .ref q_11])), (fa, .inl (cF, nf, .inr (.inl ff))), (lu, .inl (cL, nl, .inl fl)), (q_9, .inl (cA_10, a1.toNatClampNeg, .inr (.inl (fun _ => 0)))), (q_11, .inl (cA_12, a1.toNatClampNeg, .inl (fun _ => 0)))] := hD
    have hP9 := hP.sub (ws' := [(cu, .inr (1, [.int ln, .int bs, .int tk, .int lw, .int li, .ref q_9, .ref q_11])), (q_9, .inl (cA_10, a1.toNatClampNeg, .inr (.inl (fun _ => 0)))), (q_11, .inl (cA_12, a1.toNatClampNeg, .inl (fun _ => 0)))]) [0, 3, 4] rfl
    have hD9 := hD.sub (ws' := [(cu, .inr (1, [.int ln, .int bs, .int tk, .int lw, .int li, .ref q_9, .ref q_11])), (q_9, .inl (cA_10, a1.toNatClampNeg, .inr (.inl (fun _ => 0)))), (q_11, .inl (cA_12, a1.toNatClampNeg, .inl (fun _ => 0)))]) [0, 3, 4] (by decide) rfl
    have hK9 := hK.sub (tys' := [(cA_10, .long), (cA_12, .int)]) [2, 3] rfl
    refine W.know (fun hkn => ?_)
    have hpg := pot_grow his (show (nf : Int) < a1.toInt from by omega)
    have htt9 : tot H + (2 * pot a1.toNatClampNeg) ≤ cc := by omega
    refine W.widen (k := 2) (n := 40000) (lel _ _ rfl) (by omega) ?_
    exact W.vret hx hb hr (fun t ht hW => ⟨⟨(), rfl, trivial, q_9, cA_10, a1.toNatClampNeg, (fun _ => 0), q_11, cA_12, a1.toNatClampNeg, (fun _ => 0), (by omega), (by omega), (by omega), (by omega), (by rw [ht]; exact htt9), by rw [ht]; exact hP9, va_K.moved hW.alike hK9, hD9⟩, hS.F ht⟩) hS.2.2 dX2_makeRoom_23
theorem dX2_buildFrom_0 : decode cX2_buildFrom 0 = .ok (.aload_n 0, 1) := by decide +kernel
theorem dX2_buildFrom_1 : decode cX2_buildFrom 1 = .ok (.aload_n 1, 1) := by decide +kernel
theorem dX2_buildFrom_2 : decode cX2_buildFrom 2 = .ok (.getfield 19, 3) := by decide +kernel
theorem dX2_buildFrom_5 : decode cX2_buildFrom 5 = .ok (.putfield 25, 3) := by decide +kernel
theorem dX2_buildFrom_8 : decode cX2_buildFrom 8 = .ok (.aload_n 0, 1) := by decide +kernel
theorem dX2_buildFrom_9 : decode cX2_buildFrom 9 = .ok (.aload_n 1, 1) := by decide +kernel
theorem dX2_buildFrom_10 : decode cX2_buildFrom 10 = .ok (.getfield 26, 3) := by decide +kernel
theorem dX2_buildFrom_13 : decode cX2_buildFrom 13 = .ok (.putfield 29, 3) := by decide +kernel
theorem dX2_buildFrom_16 : decode cX2_buildFrom 16 = .ok (.aload_n 0, 1) := by decide +kernel
theorem dX2_buildFrom_17 : decode cX2_buildFrom 17 = .ok (.aload_n 1, 1) := by decide +kernel
theorem dX2_buildFrom_18 : decode cX2_buildFrom 18 = .ok (.getfield 30, 3) := by decide +kernel
theorem dX2_buildFrom_21 : decode cX2_buildFrom 21 = .ok (.putfield 33, 3) := by decide +kernel
theorem dX2_buildFrom_24 : decode cX2_buildFrom 24 = .ok (.aload_n 0, 1) := by decide +kernel
theorem dX2_buildFrom_25 : decode cX2_buildFrom 25 = .ok (.aload_n 1, 1) := by decide +kernel
theorem dX2_buildFrom_26 : decode cX2_buildFrom 26 = .ok (.getfield 34, 3) := by decide +kernel
theorem dX2_buildFrom_29 : decode cX2_buildFrom 29 = .ok (.putfield 37, 3) := by decide +kernel
theorem dX2_buildFrom_32 : decode cX2_buildFrom 32 = .ok (.aload_n 0, 1) := by decide +kernel
theorem dX2_buildFrom_33 : decode cX2_buildFrom 33 = .ok (.aload_n 0, 1) := by decide +kernel
theorem dX2_buildFrom_34 : decode cX2_buildFrom 34 = .ok (.getfield 37, 3) := by decide +kernel
theorem dX2_buildFrom_37 : decode cX2_buildFrom 37 = .ok (.ifCond .ne 7, 3) := by decide +kernel
theorem dX2_buildFrom_40 : decode cX2_buildFrom 40 = .ok (.iconst 0, 1) := by decide +kernel
theorem dX2_buildFrom_41 : decode cX2_buildFrom 41 = .ok (.goto 14, 3) := by decide +kernel
theorem dX2_buildFrom_44 : decode cX2_buildFrom 44 = .ok (.aload_n 0, 1) := by decide +kernel
theorem dX2_buildFrom_45 : decode cX2_buildFrom 45 = .ok (.getfield 29, 3) := by decide +kernel
theorem dX2_buildFrom_48 : decode cX2_buildFrom 48 = .ok (.aload_n 0, 1) := by decide +kernel
theorem dX2_buildFrom_49 : decode cX2_buildFrom 49 = .ok (.getfield 25, 3) := by decide +kernel
theorem dX2_buildFrom_52 : decode cX2_buildFrom 52 = .ok (.invokestatic 38, 3) := by decide +kernel
theorem dX2_buildFrom_55 : decode cX2_buildFrom 55 = .ok (.putfield 42, 3) := by decide +kernel
theorem dX2_buildFrom_58 : decode cX2_buildFrom 58 = .ok (.aload_n 0, 1) := by decide +kernel
theorem dX2_buildFrom_59 : decode cX2_buildFrom 59 = .ok (.aload_n 0, 1) := by decide +kernel
theorem dX2_buildFrom_60 : decode cX2_buildFrom 60 = .ok (.getfield 42, 3) := by decide +kernel
theorem dX2_buildFrom_63 : decode cX2_buildFrom 63 = .ok (.invokevirtual 45, 3) := by decide +kernel
theorem dX2_buildFrom_66 : decode cX2_buildFrom 66 = .ok (.iconst 0, 1) := by decide +kernel
theorem dX2_buildFrom_67 : decode cX2_buildFrom 67 = .ok (.istore_n 2, 1) := by decide +kernel
theorem dX2_buildFrom_68 : decode cX2_buildFrom 68 = .ok (.iload_n 2, 1) := by decide +kernel
theorem dX2_buildFrom_69 : decode cX2_buildFrom 69 = .ok (.aload_n 0, 1) := by decide +kernel
theorem dX2_buildFrom_70 : decode cX2_buildFrom 70 = .ok (.getfield 42, 3) := by decide +kernel
theorem dX2_buildFrom_73 : decode cX2_buildFrom 73 = .ok (.if_icmp .ge 60, 3) := by decide +kernel
theorem dX2_buildFrom_76 : decode cX2_buildFrom 76 = .ok (.aload_n 0, 1) := by decide +kernel
theorem dX2_buildFrom_77 : decode cX2_buildFrom 77 = .ok (.getfield 29, 3) := by decide +kernel
theorem dX2_buildFrom_80 : decode cX2_buildFrom 80 = .ok (.iconst 1, 1) := by decide +kernel
theorem dX2_buildFrom_81 : decode cX2_buildFrom 81 = .ok (.if_icmp .le 52, 3) := by decide +kernel
theorem dX2_buildFrom_84 : decode cX2_buildFrom 84 = .ok (.aload_n 0, 1) := by decide +kernel
theorem dX2_buildFrom_85 : decode cX2_buildFrom 85 = .ok (.getfield 9, 3) := by decide +kernel
theorem dX2_buildFrom_88 : decode cX2_buildFrom 88 = .ok (.iload_n 2, 1) := by decide +kernel
theorem dX2_buildFrom_89 : decode cX2_buildFrom 89 = .ok (.aload_n 0, 1) := by decide +kernel
theorem dX2_buildFrom_90 : decode cX2_buildFrom 90 = .ok (.getfield 9, 3) := by decide +kernel
theorem dX2_buildFrom_93 : decode cX2_buildFrom 93 = .ok (.iload_n 2, 1) := by decide +kernel
theorem dX2_buildFrom_94 : decode cX2_buildFrom 94 = .ok (.aload_n 0, 1) := by decide +kernel
theorem dX2_buildFrom_95 : decode cX2_buildFrom 95 = .ok (.getfield 29, 3) := by decide +kernel
theorem dX2_buildFrom_98 : decode cX2_buildFrom 98 = .ok (.idiv, 1) := by decide +kernel
theorem dX2_buildFrom_99 : decode cX2_buildFrom 99 = .ok (.laload, 1) := by decide +kernel
theorem dX2_buildFrom_100 : decode cX2_buildFrom 100 = .ok (.iconst 4, 1) := by decide +kernel
theorem dX2_buildFrom_101 : decode cX2_buildFrom 101 = .ok (.lshl, 1) := by decide +kernel
theorem dX2_buildFrom_102 : decode cX2_buildFrom 102 = .ok (.iload_n 2, 1) := by decide +kernel
theorem dX2_buildFrom_103 : decode cX2_buildFrom 103 = .ok (.aload_n 0, 1) := by decide +kernel
theorem dX2_buildFrom_104 : decode cX2_buildFrom 104 = .ok (.getfield 29, 3) := by decide +kernel
theorem dX2_buildFrom_107 : decode cX2_buildFrom 107 = .ok (.irem, 1) := by decide +kernel
theorem dX2_buildFrom_108 : decode cX2_buildFrom 108 = .ok (.i2l, 1) := by decide +kernel
theorem dX2_buildFrom_109 : decode cX2_buildFrom 109 = .ok (.lor, 1) := by decide +kernel
theorem dX2_buildFrom_110 : decode cX2_buildFrom 110 = .ok (.lastore, 1) := by decide +kernel
theorem dX2_buildFrom_111 : decode cX2_buildFrom 111 = .ok (.aload_n 0, 1) := by decide +kernel
theorem dX2_buildFrom_112 : decode cX2_buildFrom 112 = .ok (.getfield 15, 3) := by decide +kernel
theorem dX2_buildFrom_115 : decode cX2_buildFrom 115 = .ok (.iload_n 2, 1) := by decide +kernel
theorem dX2_buildFrom_116 : decode cX2_buildFrom 116 = .ok (.aload_n 1, 1) := by decide +kernel
theorem dX2_buildFrom_117 : decode cX2_buildFrom 117 = .ok (.aload_n 0, 1) := by decide +kernel
theorem dX2_buildFrom_118 : decode cX2_buildFrom 118 = .ok (.getfield 9, 3) := by decide +kernel
theorem dX2_buildFrom_121 : decode cX2_buildFrom 121 = .ok (.iload_n 2, 1) := by decide +kernel
theorem dX2_buildFrom_122 : decode cX2_buildFrom 122 = .ok (.laload, 1) := by decide +kernel
theorem dX2_buildFrom_123 : decode cX2_buildFrom 123 = .ok (.invokevirtual 49, 3) := by decide +kernel
theorem dX2_buildFrom_126 : decode cX2_buildFrom 126 = .ok (.iastore, 1) := by decide +kernel
theorem dX2_buildFrom_127 : decode cX2_buildFrom 127 = .ok (.iinc 2 1, 3) := by decide +kernel
theorem dX2_buildFrom_130 : decode cX2_buildFrom 130 = .ok (.goto (-62), 3) := by decide +kernel
theorem dX2_buildFrom_133 : decode cX2_buildFrom 133 = .ok (.return_, 1) := by decide +kernel
theorem hd_yX2_buildFrom : yX2_buildFrom.cls = RX2 ∧ yX2_buildFrom.cls ≠ "java/lang/invoke/MethodHandle" ∧ yX2_buildFrom.cls ≠ "java/lang/invoke/VarHandle" ∧ (parseMethodDescriptor yX2_buildFrom.desc).map (fun d => d.parameters.length) = some 1 := by decide +kernel
def uX2_buildFrom : List Cond := List.cons (.code yX2_buildFrom cX2_buildFrom 3 none) (HAppend.hAppend ([.fieldLink RX2 25 "LuckyTicket$Roll" "length" "I", .fieldLink RX2 29 "LuckyTicket$Roll" "base" "I", .fieldLink RX2 33 "LuckyTicket$Roll" "laws" "I", .fieldLink RX2 37 "LuckyTicket$Roll" "lines" "I", .static yX9_power, .initialized RX9, .fieldLink RX2 42 "LuckyTicket$Roll" "tickets" "I", .methodLink RX2 45 yX2_makeRoom, .instanceMethod yX2_makeRoom, .selects RX2 yX2_makeRoom yX2_makeRoom, .initialized RX2, .fieldLink RX2 9 "LuckyTicket$Roll" "faces" "[J", .fieldLink RX2 15 "LuckyTicket$Roll" "luck" "[I", .methodLink RX2 49 yX4_luckOf, .instanceMethod yX4_luckOf, .selects RX4 yX4_luckOf yX4_luckOf, .initialized RX4] : List Cond) (HAppend.hAppend uX9_powerF (HAppend.hAppend uX2_makeRoom (HAppend.hAppend uX4_luckOf (HAppend.hAppend wsX40 wsX20)))))
theorem iX2_buildFrom_X4 : ∀ w ∈ wsX40, w ∈ uX2_buildFrom := fun _ h => (List.mem_cons_of_mem _ (List.mem_append_right _ (List.mem_append_right _ (List.mem_append_right _ (List.mem_append_right _ (List.mem_append_left _ h))))))
theorem iX2_buildFrom_X2 : ∀ w ∈ wsX20, w ∈ uX2_buildFrom := fun _ h => (List.mem_cons_of_mem _ (List.mem_append_right _ (List.mem_append_right _ (List.mem_append_right _ (List.mem_append_right _ (List.mem_append_right _ h))))))
theorem guX2_buildFrom : GU uX2_buildFrom := gu_cons (gu_app (by decide +kernel) (gu_ap guX9_powerF (gu_ap guX2_makeRoom (gu_ap guX4_luckOf (gu_ap gws_X4 gws_X2)))))
theorem gX2_buildFrom__X9_powerF_N38 : GoodIn uX2_buildFrom (uX9_powerF) := gin_U  (fun _ h => (List.mem_cons_of_mem _ (List.mem_append_right _ (List.mem_append_left _ h)))) guX9_powerF
theorem gX2_buildFrom__X2_makeRoom_V45 : GoodIn uX2_buildFrom (wsV RX2 45 RX2 yX2_makeRoom uX2_makeRoom) := gin_V (List.mem_of_getElem? (i := 8) rfl) (List.mem_of_getElem? (i := 9) rfl) (List.mem_of_getElem? (i := 10) rfl) (List.mem_of_getElem? (i := 11) rfl) (fun _ h => (List.mem_cons_of_mem _ (List.mem_append_right _ (List.mem_append_right _ (List.mem_append_left _ h))))) guX2_makeRoom
theorem gX2_buildFrom__X4_luckOf_V49 : GoodIn uX2_buildFrom (wsV RX2 49 RX4 yX4_luckOf uX4_luckOf) := gin_V (List.mem_of_getElem? (i := 14) rfl) (List.mem_of_getElem? (i := 15) rfl) (List.mem_of_getElem? (i := 16) rfl) (List.mem_of_getElem? (i := 17) rfl) (fun _ h => (List.mem_cons_of_mem _ (List.mem_append_right _ (List.mem_append_right _ (List.mem_append_right _ (List.mem_append_left _ h)))))) guX4_luckOf
set_option maxHeartbeats 4000000 in
set_option maxRecDepth 100000 in
theorem kX2_buildFrom (l : Launch) (dC : Nat → ClassId) (dI : Nat → Nat → Nat) (cu : Nat) (ln : Int32) (bs : Int32) (tk : Int32) (lw : Int32) (li : Int32) (fa : Nat) (lu : Nat) (cF : ClassId) (nf : Nat) (ff : Nat → Int64) (cL : ClassId) (nl : Nat) (fl : Nat → Int32) (sc : Nat) (sn : Int32) (sb : Int32) (si : Int32) (sw : Int32) (ss : Int32) (en : Nat) (ki : Nat) (on : Nat) (ot : Nat) (cE : ClassId) (fe : Nat → Int32) (cK : ClassId) (fk : Nat → Int32) (cO : ClassId) (fo : Nat → Int64) (cT : ClassId) (ft : Nat → Int64) (cc : Nat) (sz : Nat) (b_ln : (0 : Int) ≤ ln.toInt ∧ ln.toInt ≤ 12) (b_bs : (0 : Int) ≤ bs.toInt ∧ bs.toInt ≤ 16) (b_tk : (0 : Int) ≤ tk.toInt ∧ tk.toInt ≤ 20000) (b_lw : (0 : Int) ≤ lw.toInt ∧ lw.toInt ≤ 9) (b_sn : (0 : Int) ≤ sn.toInt ∧ sn.toInt ≤ 12) (b_sb : (0 : Int) ≤ sb.toInt ∧ sb.toInt ≤ 16) (b_si : (0 : Int) ≤ si.toInt ∧ si.toInt ≤ 1300) (b_sw : (0 : Int) ≤ sw.toInt ∧ sw.toInt ≤ 9) (b_ss : (0 : Int) ≤ ss.toInt ∧ ss.toInt ≤ 600) (ha_en : rg fe 9 0 600) (hnl : nl = nf) (hnm : nf ≤ 20000) (hbf : si.toInt = 0 ∨ GM sn sb) : Met l yX2_buildFrom uX2_buildFrom ({ frames := 5, cells := 2, slots := 40000, locals := 130 }) (va_Pc [.ref cu, .ref sc] (hg (dC, dI) vwCl [(cu, .inr (1, [.int ln, .int bs, .int tk, .int lw, .int li, .ref fa, .ref lu])), (fa, .inl (cF, nf, .inr (.inl ff))), (lu, .inl (cL, nl, .inl fl)), (sc, .inr (3, [.int sn, .int sb, .int si, .int sw, .int ss, .ref en, .ref ki, .ref on, .ref ot])), (en, .inl (cE, 9, .inl fe)), (ki, .inl (cK, 600, .inl fk)), (on, .inl (cO, 600, .inr (.inl fo))), (ot, .inl (cT, 600, .inr (.inl ft)))] [(cF, .long), (cL, .int), (cE, .int), (cK, .int), (cO, .long), (cT, .long)] sz cc (2 * pot nf))) (va_Qv (fun (_ : Unit) => True) (fun (_ : Unit) t => ∃ (o0_ : Int32) (o1_ : Int32) (o2_ : Int32) (o3_ : Int32) (o4_ : Int32) (o5_ : Nat) (o6_ : ClassId) (o7_ : Nat) (o8_ : Nat → Int64) (o9_ : Nat) (o10_ : ClassId) (o11_ : Nat) (o12_ : Nat → Int32), ((0 : Int) ≤ o0_.toInt ∧ o0_.toInt ≤ 12) ∧ ((0 : Int) ≤ o1_.toInt ∧ o1_.toInt ≤ 16) ∧ ((0 : Int) ≤ o2_.toInt ∧ o2_.toInt ≤ 320000) ∧ ((0 : Int) ≤ o3_.toInt ∧ o3_.toInt ≤ 9) ∧ ((0 : Int) ≤ o4_.toInt ∧ o4_.toInt ≤ 1300) ∧ (o11_ = o7_) ∧ (o7_ ≤ 20000) ∧ (RK o0_ o1_ o2_) ∧ (o2_.toInt ≤ (o7_ : Int)) ∧ (rg fe 9 0 600) ∧ (tot t.heap + (2 * pot o7_) ≤ cc) ∧ va_P (dC, dI) vwCl [(cu, .inr (1, [.int o0_, .int o1_, .int o2_, .int o3_, .int o4_, .ref o5_, .ref o9_])), (o5_, .inl (o6_, o7_, .inr (.inl o8_))), (o9_, .inl (o10_, o11_, .inl o12_)), (sc, .inr (3, [.int sn, .int sb, .int si, .int sw, .int ss, .ref en, .ref ki, .ref on, .ref ot])), (en, .inl (cE, 9, .inl fe)), (ki, .inl (cK, 600, .inl fk)), (on, .inl (cO, 600, .inr (.inl fo))), (ot, .inl (cT, 600, .inr (.inl ft)))] t.heap ∧ va_K (dC, dI) vwCl [(o6_, .long), (o10_, .int), (cE, .int), (cK, .int), (cO, .long), (cT, .long)] t ∧ va_D (va_A [(cu, .inr (1, [.int ln, .int bs, .int tk, .int lw, .int li, .ref fa, .ref lu])), (fa, .inl (cF, nf, .inr (.inl ff))), (lu, .inl (cL, nl, .inl fl)), (sc, .inr (3, [.int sn, .int sb, .int si, .int sw, .int ss, .ref en, .ref ki, .ref on, .ref ot])), (en, .inl (cE, 9, .inl fe)), (ki, .inl (cK, 600, .inl fk)), (on, .inl (cO, 600, .inr (.inl fo))), (ot, .inl (cT, 600, .inr (.inl ft)))] sz) [(cu, .inr (1, [.int o0_, .int o1_, .int o2_, .int o3_, .int o4_, .ref o5_, .ref o9_])), (o5_, .inl (o6_, o7_, .inr (.inl o8_))), (o9_, .inl (o10_, o11_, .inl o12_)), (sc, .inr (3, [.int sn, .int sb, .int si, .int sw, .int ss, .ref en, .ref ki, .ref on, .ref ot])), (en, .inl (cE, 9, .inl fe)), (ki, .inl (cK, 600, .inl fk)), (on, .inl (cO, 600, .inr (.inl fo))), (ot, .inl (cT, 600, .inr (.inl ft)))]) (va_A [(cu, .inr (1, [.int ln, .int bs, .int tk, .int lw, .int li, .ref fa, .ref lu])), (fa, .inl (cF, nf, .inr (.inl ff))), (lu, .inl (cL, nl, .inl fl)), (sc, .inr (3, [.int sn, .int sb, .int si, .int sw, .int ss, .ref en, .ref ki, .ref on, .ref ot])), (en, .inl (cE, 9, .inl fe)), (ki, .inl (cK, 600, .inl fk)), (on, .inl (cO, 600, .inr (.inl fo))), (ot, .inl (cT, 600, .inr (.inl ft)))] sz)) 2 40000 (va_A [(cu, .inr (1, [.int ln, .int bs, .int tk, .int lw, .int li, .ref fa, .ref lu])), (fa, .inl (cF, nf, .inr (.inl ff))), (lu, .inl (cL, nl, .inl fl)), (sc, .inr (3, [.int sn, .int sb, .int si, .int sw, .int ss, .ref en, .ref ki, .ref on, .ref ot])), (en, .inl (cE, 9, .inl fe)), (ki, .inl (cK, 600, .inl fk)), (on, .inl (cO, 600, .inr (.inl fo))), (ot, .inl (cT, 600, .inr (.inl ft)))] sz) := by
  refine Met.ofW (cc := cX2_buildFrom) (maxL := 3) (ret := none) pn_X2 rfl ?_
  intro p e s m args below meth c s₁ B hml hv
  obtain ⟨rfl, ⟨hsz, hP, hK, hD0, hN⟩, htot⟩ := hv
  have hx := B.exec
  have hb := B.bytes
  have hr := B.returns
  have hts := atoms_spec (ws := uX2_buildFrom) B.pre
  have hown : s.vm.findClass RX2 = some m.cls := hown_of B.named rfl
  have hlocks := B.notSynchronized
  subst hsz
  have hD := hD0.self (sz := s.heap.size)
  generalize hAe : va_A [(cu, .inr (1, [.int ln, .int bs, .int tk, .int lw, .int li, .ref fa, .ref lu])), (fa, .inl (cF, nf, .inr (.inl ff))), (lu, .inl (cL, nl, .inl fl)), (sc, .inr (3, [.int sn, .int sb, .int si, .int sw, .int ss, .ref en, .ref ki, .ref on, .ref ot])), (en, .inl (cE, 9, .inl fe)), (ki, .inl (cK, 600, .inl fk)), (on, .inl (cO, 600, .inr (.inl fo))), (ot, .inl (cT, 600, .inr (.inl ft)))] s.heap.size = A at hD ⊢
  have hA : ∀ q : Nat, s.heap.size ≤ q → A q := fun q h => by rw [← hAe]; exact Or.inr h
  have hS : va_S A s.heap s.heap [] := va_S.rf
  have hP : va_P (dC, dI) vwCl [(cu, .inr (1, [.int ln, .int bs, .int tk, .int lw, .int li, .ref fa, .ref lu])), (fa, .inl (cF, nf, .inr (.inl ff))), (lu, .inl (cL, nl, .inl fl)), (sc, .inr (3, [.int sn, .int sb, .int si, .int sw, .int ss, .ref en, .ref ki, .ref on, .ref ot])), (en, .inl (cE, 9, .inl fe)), (ki, .inl (cK, 600, .inl fk)), (on, .inl (cO, 600, .inr (.inl fo))), (ot, .inl (cT, 600, .inr (.inl ft)))] s.heap := hP
  have hl := lv_entry ([.ref cu, .ref sc]) (n := 3) (Nat.le_of_ble_eq_true rfl)
  rw [lg_entry_eq]
  generalize (lg_sl ([.ref cu, .ref sc]) ++ List.replicate (3 - (lg_sl ([.ref cu, .ref sc])).length) Slot.unset).toArray = ls at hl ⊢
  have hl : lv_has ls 3 [(0, .ref cu), (1, .ref sc)] := hl
  refine lv_aload_n hx hb dX2_buildFrom_0 rfl (lv_at hl 0 rfl) ?_
  refine lv_aload_n hx hb dX2_buildFrom_1 rfl (lv_at hl 1 rfl) ?_
  refine va_getN (own := RX2) (index := 19) (ref := RX4) (host := RX9) (D := (dC, dI)) (ci := 3) (v := .int sn) (C := RX4) (T := TX4) (N := 9) hx hb hts iX2_buildFrom_X4 hown hK hP 3 rfl rfl 0 (by decide) (va_Nw.use rfl (hN _ (List.mem_of_getElem? (i := 3) rfl))) (fun _ h9 => h9) rfl dX2_buildFrom_2 ?_
  refine va_put (D := (dC, dI)) (ci := 1) (v := .int sn) (ty := .int) (C := RX2) (T := TX2) (N := 7) hx hb hts iX2_buildFrom_X2 tyX2 tyX2_ok nmX2 hown hK hP hD hS 0 rfl rfl 0 (by decide) (hts (.fieldLink RX2 25 "LuckyTicket$Roll" "length" "I") (List.mem_of_getElem? (i := 1) rfl)) (fun _ h9 => h9) rfl (by decide +kernel) rfl rfl (Nat.le_of_ble_eq_true rfl) dX2_buildFrom_5 (fun H locs hP hD hS => ?_)
  have hP : va_P (dC, dI) vwCl [(cu, .inr (1, [.int sn, .int bs, .int tk, .int lw, .int li, .ref fa, .ref lu])), (fa, .inl (cF, nf, .inr (.inl ff))), (lu, .inl (cL, nl, .inl fl)), (sc, .inr (3, [.int sn, .int sb, .int si, .int sw, .int ss, .ref en, .ref ki, .ref on, .ref ot])), (en, .inl (cE, 9, .inl fe)), (ki, .inl (cK, 600, .inl fk)), (on, .inl (cO, 600, .inr (.inl fo))), (ot, .inl (cT, 600, .inr (.inl ft)))] H := hP
  have hD : va_D A [(cu, .inr (1, [.int sn, .int bs, .int tk, .int lw, .int li, .ref fa, .ref lu])), (fa, .inl (cF, nf, .inr (.inl ff))), (lu, .inl (cL, nl, .inl fl)), (sc, .inr (3, [.int sn, .int sb, .int si, .int sw, .int ss, .ref en, .ref ki, .ref on, .ref ot])), (en, .inl (cE, 9, .inl fe)), (ki, .inl (cK, 600, .inl fk)), (on, .inl (cO, 600, .inr (.inl fo))), (ot, .inl (cT, 600, .inr (.inl ft)))] := hD
  refine lv_aload_n hx hb dX2_buildFrom_8 rfl (lv_at hl 0 rfl) ?_
  refine lv_aload_n hx hb dX2_buildFrom_9 rfl (lv_at hl 1 rfl) ?_
  refine va_getN (own := RX2) (index := 26) (ref := RX4) (host := RX9) (D := (dC, dI)) (ci := 3) (v := .int sb) (C := RX4) (T := TX4) (N := 9) hx hb hts iX2_buildFrom_X4 hown hK hP 3 rfl rfl 1 (by decide) (va_Nw.use rfl (hN _ (List.mem_of_getElem? (i := 5) rfl))) (fun _ h9 => h9) rfl dX2_buildFrom_10 ?_
  refine va_put (D := (dC, dI)) (ci := 1) (v := .int sb) (ty := .int) (C := RX2) (T := TX2) (N := 7) hx hb hts iX2_buildFrom_X2 tyX2 tyX2_ok nmX2 hown hK hP hD hS 0 rfl rfl 1 (by decide) (hts (.fieldLink RX2 29 "LuckyTicket$Roll" "base" "I") (List.mem_of_getElem? (i := 2) rfl)) (fun _ h9 => h9) rfl (by decide +kernel) rfl rfl (Nat.le_of_ble_eq_true rfl) dX2_buildFrom_13 (fun H locs hP hD hS => ?_)
  have hP : va_P (dC, dI) vwCl [(cu, .inr (1, [.int sn, .int sb, .int tk, .int lw, .int li, .ref fa, .ref lu])), (fa, .inl (cF, nf, .inr (.inl ff))), (lu, .inl (cL, nl, .inl fl)), (sc, .inr (3, [.int sn, .int sb, .int si, .int sw, .int ss, .ref en, .ref ki, .ref on, .ref ot])), (en, .inl (cE, 9, .inl fe)), (ki, .inl (cK, 600, .inl fk)), (on, .inl (cO, 600, .inr (.inl fo))), (ot, .inl (cT, 600, .inr (.inl ft)))] H := hP
  have hD : va_D A [(cu, .inr (1, [.int sn, .int sb, .int tk, .int lw, .int li, .ref fa, .ref lu])), (fa, .inl (cF, nf, .inr (.inl ff))), (lu, .inl (cL, nl, .inl fl)), (sc, .inr (3, [.int sn, .int sb, .int si, .int sw, .int ss, .ref en, .ref ki, .ref on, .ref ot])), (en, .inl (cE, 9, .inl fe)), (ki, .inl (cK, 600, .inl fk)), (on, .inl (cO, 600, .inr (.inl fo))), (ot, .inl (cT, 600, .inr (.inl ft)))] := hD
  refine lv_aload_n hx hb dX2_buildFrom_16 rfl (lv_at hl 0 rfl) ?_
  refine lv_aload_n hx hb dX2_buildFrom_17 rfl (lv_at hl 1 rfl) ?_
  refine va_getN (own := RX2) (index := 30) (ref := RX4) (host := RX9) (D := (dC, dI)) (ci := 3) (v := .int sw) (C := RX4) (T := TX4) (N := 9) hx hb hts iX2_buildFrom_X4 hown hK hP 3 rfl rfl 3 (by decide) (va_Nw.use rfl (hN _ (List.mem_of_getElem? (i := 9) rfl))) (fun _ h9 => h9) rfl dX2_buildFrom_18 ?_
  refine va_put (D := (dC, dI)) (ci := 1) (v := .int sw) (ty := .int) (C := RX2) (T := TX2) (N := 7) hx hb hts iX2_buildFrom_X2 tyX2 tyX2_ok nmX2 hown hK hP hD hS 0 rfl rfl 3 (by decide) (hts (.fieldLink RX2 33 "LuckyTicket$Roll" "laws" "I") (List.mem_of_getElem? (i := 3) rfl)) (fun _ h9 => h9) rfl (by decide +kernel) rfl rfl (Nat.le_of_ble_eq_true rfl) dX2_buildFrom_21 (fun H locs hP hD hS => ?_)
  have hP : va_P (dC, dI) vwCl [(cu, .inr (1, [.int sn, .int sb, .int tk, .int sw, .int li, .ref fa, .ref lu])), (fa, .inl (cF, nf, .inr (.inl ff))), (lu, .inl (cL, nl, .inl fl)), (sc, .inr (3, [.int sn, .int sb, .int si, .int sw, .int ss, .ref en, .ref ki, .ref on, .ref ot])), (en, .inl (cE, 9, .inl fe)), (ki, .inl (cK, 600, .inl fk)), (on, .inl (cO, 600, .inr (.inl fo))), (ot, .inl (cT, 600, .inr (.inl ft)))] H := hP
  have hD : va_D A [(cu, .inr (1, [.int sn, .int sb, .int tk, .int sw, .int li, .ref fa, .ref lu])), (fa, .inl (cF, nf, .inr (.inl ff))), (lu, .inl (cL, nl, .inl fl)), (sc, .inr (3, [.int sn, .int sb, .int si, .int sw, .int ss, .ref en, .ref ki, .ref on, .ref ot])), (en, .inl (cE, 9, .inl fe)), (ki, .inl (cK, 600, .inl fk)), (on, .inl (cO, 600, .inr (.inl fo))), (ot, .inl (cT, 600, .inr (.inl ft)))] := hD
  refine lv_aload_n hx hb dX2_buildFrom_24 rfl (lv_at hl 0 rfl) ?_
  refine lv_aload_n hx hb dX2_buildFrom_25 rfl (lv_at hl 1 rfl) ?_
  refine va_getN (own := RX2) (index := 34) (ref := RX4) (host := RX9) (D := (dC, dI)) (ci := 3) (v := .int si) (C := RX4) (T := TX4) (N := 9) hx hb hts iX2_buildFrom_X4 hown hK hP 3 rfl rfl 2 (by decide) (va_Nw.use rfl (hN _ (List.mem_of_getElem? (i := 7) rfl))) (fun _ h9 => h9) rfl dX2_buildFrom_26 ?_
  refine va_put (D := (dC, dI)) (ci := 1) (v := .int si) (ty := .int) (C := RX2) (T := TX2) (N := 7) hx hb hts iX2_buildFrom_X2 tyX2 tyX2_ok nmX2 hown hK hP hD hS 0 rfl rfl 4 (by decide) (hts (.fieldLink RX2 37 "LuckyTicket$Roll" "lines" "I") (List.mem_of_getElem? (i := 4) rfl)) (fun _ h9 => h9) rfl (by decide +kernel) rfl rfl (Nat.le_of_ble_eq_true rfl) dX2_buildFrom_29 (fun H locs hP hD hS => ?_)
  have hP : va_P (dC, dI) vwCl [(cu, .inr (1, [.int sn, .int sb, .int tk, .int sw, .int si, .ref fa, .ref lu])), (fa, .inl (cF, nf, .inr (.inl ff))), (lu, .inl (cL, nl, .inl fl)), (sc, .inr (3, [.int sn, .int sb, .int si, .int sw, .int ss, .ref en, .ref ki, .ref on, .ref ot])), (en, .inl (cE, 9, .inl fe)), (ki, .inl (cK, 600, .inl fk)), (on, .inl (cO, 600, .inr (.inl fo))), (ot, .inl (cT, 600, .inr (.inl ft)))] H := hP
  have hD : va_D A [(cu, .inr (1, [.int sn, .int sb, .int tk, .int sw, .int si, .ref fa, .ref lu])), (fa, .inl (cF, nf, .inr (.inl ff))), (lu, .inl (cL, nl, .inl fl)), (sc, .inr (3, [.int sn, .int sb, .int si, .int sw, .int ss, .ref en, .ref ki, .ref on, .ref ot])), (en, .inl (cE, 9, .inl fe)), (ki, .inl (cK, 600, .inl fk)), (on, .inl (cO, 600, .inr (.inl fo))), (ot, .inl (cT, 600, .inr (.inl ft)))] := hD
  refine lv_aload_n hx hb dX2_buildFrom_32 rfl (lv_at hl 0 rfl) ?_
  refine lv_aload_n hx hb dX2_buildFrom_33 rfl (lv_at hl 0 rfl) ?_
  refine va_get (D := (dC, dI)) (ci := 1) (v := .int si) (C := RX2) (T := TX2) (N := 7) hx hb hts iX2_buildFrom_X2 hown hK hP 0 rfl rfl 4 (by decide) (hts (.fieldLink RX2 37 "LuckyTicket$Roll" "lines" "I") (List.mem_of_getElem? (i := 4) rfl)) (fun _ h9 => h9) rfl dX2_buildFrom_34 ?_
  refine cutW (σ := Int32) (pc2 := 55) (st2 := fun v => [.int v, .ref cu]) (cells2 := 0) (slots2 := 0) (fun v H locs ls => ((0 : Int) ≤ v.toInt ∧ v.toInt ≤ 320000) ∧ (RK sn sb v ∧ v.toInt ≤ 20000) ∧ va_P (dC, dI) vwCl [(cu, .inr (1, [.int sn, .int sb, .int tk, .int sw, .int si, .ref fa, .ref lu])), (fa, .inl (cF, nf, .inr (.inl ff))), (lu, .inl (cL, nl, .inl fl)), (sc, .inr (3, [.int sn, .int sb, .int si, .int sw, .int ss, .ref en, .ref ki, .ref on, .ref ot])), (en, .inl (cE, 9, .inl fe)), (ki, .inl (cK, 600, .inl fk)), (on, .inl (cO, 600, .inr (.inl fo))), (ot, .inl (cT, 600, .inr (.inl ft)))] H ∧ va_D A [(cu, .inr (1, [.int sn, .int sb, .int tk, .int sw, .int si, .ref fa, .ref lu])), (fa, .inl (cF, nf, .inr (.inl ff))), (lu, .inl (cL, nl, .inl fl)), (sc, .inr (3, [.int sn, .int sb, .int si, .int sw, .int ss, .ref en, .ref ki, .ref on, .ref ot])), (en, .inl (cE, 9, .inl fe)), (ki, .inl (cK, 600, .inl fk)), (on, .inl (cO, 600, .inr (.inl fo))), (ot, .inl (cT, 600, .inr (.inl ft)))] ∧ va_S A s.heap H locs ∧ lv_has ls 3 [(0, .ref cu), (1, .ref sc)]) (fun v H locs ls hI => ?_) (fun hj_55_233 => ?_)
  ·
    obtain ⟨y_233, rfl⟩ : ∃ z, z = v := ⟨_, rfl⟩
    obtain ⟨b_y_233, hrk, hP, hD, hS, hl⟩ := hI
    have b_y_233 : (0 : Int) ≤ y_233.toInt ∧ y_233.toInt ≤ 320000 := b_y_233
    have hrk : RK sn sb y_233 ∧ y_233.toInt ≤ 20000 := hrk
    have hP : va_P (dC, dI) vwCl [(cu, .inr (1, [.int sn, .int sb, .int tk, .int sw, .int si, .ref fa, .ref lu])), (fa, .inl (cF, nf, .inr (.inl ff))), (lu, .inl (cL, nl, .inl fl)), (sc, .inr (3, [.int sn, .int sb, .int si, .int sw, .int ss, .ref en, .ref ki, .ref on, .ref ot])), (en, .inl (cE, 9, .inl fe)), (ki, .inl (cK, 600, .inl fk)), (on, .inl (cO, 600, .inr (.inl fo))), (ot, .inl (cT, 600, .inr (.inl ft)))] H := hP
    have hD : va_D A [(cu, .inr (1, [.int sn, .int sb, .int tk, .int sw, .int si, .ref fa, .ref lu])), (fa, .inl (cF, nf, .inr (.inl ff))), (lu, .inl (cL, nl, .inl fl)), (sc, .inr (3, [.int sn, .int sb, .int si, .int sw, .int ss, .ref en, .ref ki, .ref on, .ref ot])), (en, .inl (cE, 9, .inl fe)), (ki, .inl (cK, 600, .inl fk)), (on, .inl (cO, 600, .inr (.inl fo))), (ot, .inl (cT, 600, .inr (.inl ft)))] := hD
    have hl : lv_has ls 3 [(0, .ref cu), (1, .ref sc)] := hl
    refine va_put (D := (dC, dI)) (ci := 1) (v := .int y_233) (ty := .int) (C := RX2) (T := TX2) (N := 7) hx hb hts iX2_buildFrom_X2 tyX2 tyX2_ok nmX2 hown hK hP hD hS 0 rfl rfl 2 (by decide) (hts (.fieldLink RX2 42 "LuckyTicket$Roll" "tickets" "I") (List.mem_of_getElem? (i := 7) rfl)) (fun _ h9 => h9) rfl (by decide +kernel) rfl rfl (Nat.le_of_ble_eq_true rfl) dX2_buildFrom_55 (fun H locs hP hD hS => ?_)
    have hP : va_P (dC, dI) vwCl [(cu, .inr (1, [.int sn, .int sb, .int y_233, .int sw, .int si, .ref fa, .ref lu])), (fa, .inl (cF, nf, .inr (.inl ff))), (lu, .inl (cL, nl, .inl fl)), (sc, .inr (3, [.int sn, .int sb, .int si, .int sw, .int ss, .ref en, .ref ki, .ref on, .ref ot])), (en, .inl (cE, 9, .inl fe)), (ki, .inl (cK, 600, .inl fk)), (on, .inl (cO, 600, .inr (.inl fo))), (ot, .inl (cT, 600, .inr (.inl ft)))] H := hP
    have hD : va_D A [(cu, .inr (1, [.int sn, .int sb, .int y_233, .int sw, .int si, .ref fa, .ref lu])), (fa, .inl (cF, nf, .inr (.inl ff))), (lu, .inl (cL, nl, .inl fl)), (sc, .inr (3, [.int sn, .int sb, .int si, .int sw, .int ss, .ref en, .ref ki, .ref on, .ref ot])), (en, .inl (cE, 9, .inl fe)), (ki, .inl (cK, 600, .inl fk)), (on, .inl (cO, 600, .inr (.inl fo))), (ot, .inl (cT, 600, .inr (.inl ft)))] := hD
    refine lv_aload_n hx hb dX2_buildFrom_58 rfl (lv_at hl 0 rfl) ?_
    refine lv_aload_n hx hb dX2_buildFrom_59 rfl (lv_at hl 0 rfl) ?_
    refine va_get (D := (dC, dI)) (ci := 1) (v := .int y_233) (C := RX2) (T := TX2) (N := 7) hx hb hts iX2_buildFrom_X2 hown hK hP 0 rfl rfl 2 (by decide) (hts (.fieldLink RX2 42 "LuckyTicket$Roll" "tickets" "I") (List.mem_of_getElem? (i := 7) rfl)) (fun _ h9 => h9) rfl dX2_buildFrom_60 ?_
    have hFc := va_free (wc := [(cu, .inr (1, [.int sn, .int sb, .int y_233, .int sw, .int si, .ref fa, .ref lu])), (fa, .inl (cF, nf, .inr (.inl ff))), (lu, .inl (cL, nl, .inl fl))]) hD hS hA [0, 1, 2] rfl
    refine W.know (fun hkn => ?_)
    refine va_callv (va_runV (As := [.int y_233]) (rest := []) ⟨hx, hb, hml, hown, hts⟩ (kX2_makeRoom l dC dI cu sn sb y_233 sw si fa lu cF nf ff cL nl fl y_233 ((cc)) (H.size) b_sn b_sb b_y_233 b_sw ⟨by omega, by omega⟩ (by omega) (by omega) (hrk.1.sz)) (cwV 1 hts gX2_buildFrom__X2_makeRoom_V45 rfl rfl rfl hd_yX2_makeRoom ⟨lel 1 5 rfl, lel 21 130 rfl⟩) ⟨hg_fb, rcv_X2 hK hP (q0 := 0) rfl, (hg_use hP hD hK hN [0, 1, 2] rfl (by decide) rfl [0, 1] rfl (by omega))⟩ rfl rfl hl.1 rfl (lv_room (Nat.le_of_ble_eq_true rfl)) dX2_buildFrom_63 ⟨lel 2 2 rfl, lel 40000 40000 rfl⟩) hS (fun q _ h => hFc q h) hFc (fun u_235 t H1 locs ht hvm hw_r_234 hB hz1 hk1 hS => ?_)
    obtain ⟨o0_236, o1_237, o2_238, o3_239, o4_240, o5_241, o6_242, o7_243, hf_244, hf_245, hf_246, hf_247, htt, hP1, hK1, hD1⟩ := hB
    rw [ht] at hP1 htt
    have hK1 := va_K.moved hvm.symm hK1
    obtain ⟨hP, hD⟩ := va_join (wr := [(sc, .inr (3, [.int sn, .int sb, .int si, .int sw, .int ss, .ref en, .ref ki, .ref on, .ref ot])), (en, .inl (cE, 9, .inl fe)), (ki, .inl (cK, 600, .inl fk)), (on, .inl (cO, 600, .inr (.inl fo))), (ot, .inl (cT, 600, .inr (.inl ft)))]) (w1 := [(cu, .inr (1, [.int sn, .int sb, .int y_233, .int sw, .int si, .ref o0_236, .ref o4_240])), (o0_236, .inl (o1_237, o2_238, .inr (.inl o3_239))), (o4_240, .inl (o5_241, o6_242, .inl o7_243))]) hP hD [0, 1, 2] [3, 4, 5, 6, 7] rfl rfl (by decide) (by decide) hk1 hFc hP1 hD1
    have hK := (hK.sub (tys' := [(cE, .int), (cK, .int), (cO, .long), (cT, .long)]) [2, 3, 4, 5] rfl).app hK1
    generalize H1 = H at hP hS htt ⊢
    have hP : va_P (dC, dI) vwCl [(sc, .inr (3, [.int sn, .int sb, .int si, .int sw, .int ss, .ref en, .ref ki, .ref on, .ref ot])), (en, .inl (cE, 9, .inl fe)), (ki, .inl (cK, 600, .inl fk)), (on, .inl (cO, 600, .inr (.inl fo))), (ot, .inl (cT, 600, .inr (.inl ft))), (cu, .inr (1, [.int sn, .int sb, .int y_233, .int sw, .int si, .ref o0_236, .ref o4_240])), (o0_236, .inl (o1_237, o2_238, .inr (.inl o3_239))), (o4_240, .inl (o5_241, o6_242, .inl o7_243))] H := hP
    have hD : va_D A [(sc, .inr (3, [.int sn, .int sb, .int si, .int sw, .int ss, .ref en, .ref ki, .ref on, .ref ot])), (en, .inl (cE, 9, .inl fe)), (ki, .inl (cK, 600, .inl fk)), (on, .inl (cO, 600, .inr (.inl fo))), (ot, .inl (cT, 600, .inr (.inl ft))), (cu, .inr (1, [.int sn, .int sb, .int y_233, .int sw, .int si, .ref o0_236, .ref o4_240])), (o0_236, .inl (o1_237, o2_238, .inr (.inl o3_239))), (o4_240, .inl (o5_241, o6_242, .inl o7_243))] := hD
    have hK : va_K (dC, dI) vwCl [(cE, .int), (cK, .int), (cO, .long), (cT, .long), (o1_237, .long), (o5_241, .int)] s := hK
    refine W.know (fun hkn => ?_)
    obtain ⟨gg_248, hq_gg_248⟩ := hgg_ex (tot H) (tot s.heap)
    refine W.tight (n := gg_248) (by omega) ?_
    refine W.widen (k := 2) (n := gg_248) (lel _ _ rfl) (Nat.le_refl _) ?_
    have hgt_gg_248 : gg_248 ≤ 40000 ∧ tot s.heap + gg_248 + (2 * pot o2_238) ≤ cc := by omega
    refine lv_iconst (v := 0) hx hb dX2_buildFrom_66 (by decide) ?_
    refine lv_istore_n (lv' := [(2, .int 0), (0, .ref cu), (1, .ref sc)]) hx hb dX2_buildFrom_67 rfl hl (by decide) rfl (fun ls hl => ?_)
    refine loopW (σ := Int32 × (Nat → Int64) × (Nat → Int32)) (fun v => (320000 - v.1.toInt).toNat) (fun v H locs ls => ((0 : Int) ≤ v.1.toInt ∧ v.1.toInt ≤ 320000) ∧ va_P (dC, dI) vwCl [(sc, .inr (3, [.int sn, .int sb, .int si, .int sw, .int ss, .ref en, .ref ki, .ref on, .ref ot])), (en, .inl (cE, 9, .inl fe)), (ki, .inl (cK, 600, .inl fk)), (on, .inl (cO, 600, .inr (.inl fo))), (ot, .inl (cT, 600, .inr (.inl ft))), (cu, .inr (1, [.int sn, .int sb, .int y_233, .int sw, .int si, .ref o0_236, .ref o4_240])), (o0_236, .inl (o1_237, o2_238, .inr (.inl v.2.1))), (o4_240, .inl (o5_241, o6_242, .inl v.2.2))] H ∧ va_D A [(sc, .inr (3, [.int sn, .int sb, .int si, .int sw, .int ss, .ref en, .ref ki, .ref on, .ref ot])), (en, .inl (cE, 9, .inl fe)), (ki, .inl (cK, 600, .inl fk)), (on, .inl (cO, 600, .inr (.inl fo))), (ot, .inl (cT, 600, .inr (.inl ft))), (cu, .inr (1, [.int sn, .int sb, .int y_233, .int sw, .int si, .ref o0_236, .ref o4_240])), (o0_236, .inl (o1_237, o2_238, .inr (.inl v.2.1))), (o4_240, .inl (o5_241, o6_242, .inl v.2.2))] ∧ va_S A s.heap H locs ∧ lv_has ls 3 [(2, .int v.1), (0, .ref cu), (1, .ref sc)]) (fun v H locs ls hI ih_68_446 => ?_) ((0 : Int32), o3_239, o7_243) ⟨(show (0 : Int) ≤ (0 : Int32).toInt ∧ (0 : Int32).toInt ≤ 320000 from (rg_w (by decide : (0 : Int) ≤ (0 : Int32).toInt ∧ (0 : Int32).toInt ≤ 0) (by decide) (by decide))), hP, hD, hS, lv_sub hl [0, 1, 2] rfl⟩
    obtain ⟨y_262, f_263, f_264⟩ := v
    obtain ⟨b_y_262, hP, hD, hS, hl⟩ := hI
    have b_y_262 : (0 : Int) ≤ y_262.toInt ∧ y_262.toInt ≤ 320000 := b_y_262
    have hP : va_P (dC, dI) vwCl [(sc, .inr (3, [.int sn, .int sb, .int si, .int sw, .int ss, .ref en, .ref ki, .ref on, .ref ot])), (en, .inl (cE, 9, .inl fe)), (ki, .inl (cK, 600, .inl fk)), (on, .inl (cO, 600, .inr (.inl fo))), (ot, .inl (cT, 600, .inr (.inl ft))), (cu, .inr (1, [.int sn, .int sb, .int y_233, .int sw, .int si, .ref o0_236, .ref o4_240])), (o0_236, .inl (o1_237, o2_238, .inr (.inl f_263))), (o4_240, .inl (o5_241, o6_242, .inl f_264))] H := hP
    have hD : va_D A [(sc, .inr (3, [.int sn, .int sb, .int si, .int sw, .int ss, .ref en, .ref ki, .ref on, .ref ot])), (en, .inl (cE, 9, .inl fe)), (ki, .inl (cK, 600, .inl fk)), (on, .inl (cO, 600, .inr (.inl fo))), (ot, .inl (cT, 600, .inr (.inl ft))), (cu, .inr (1, [.int sn, .int sb, .int y_233, .int sw, .int si, .ref o0_236, .ref o4_240])), (o0_236, .inl (o1_237, o2_238, .inr (.inl f_263))), (o4_240, .inl (o5_241, o6_242, .inl f_264))] := hD
    have hl : lv_has ls 3 [(2, .int y_262), (0, .ref cu), (1, .ref sc)] := hl
    refine lv_iload_n hx hb dX2_buildFrom_68 rfl (lv_at hl 0 rfl) ?_
    refine lv_aload_n hx hb dX2_buildFrom_69 rfl (lv_at hl 1 rfl) ?_
    refine va_get (D := (dC, dI)) (ci := 1) (v := .int y_233) (C := RX2) (T := TX2) (N := 7) hx hb hts iX2_buildFrom_X2 hown hK hP 5 rfl rfl 2 (by decide) (hts (.fieldLink RX2 42 "LuckyTicket$Roll" "tickets" "I") (List.mem_of_getElem? (i := 7) rfl)) (fun _ h9 => h9) rfl dX2_buildFrom_70 ?_
    refine lv_icmp_ge (tgt := 133) hx hb dX2_buildFrom_73 (by decide) (fun c_447 => ?_) (fun c_447 => ?_)
    ·
      have n_c_447 : (y_233.toInt : Int) ≤ y_262.toInt := c_ge rfl rfl c_447
      have hP9 := hP.sub (ws' := [(cu, .inr (1, [.int sn, .int sb, .int y_233, .int sw, .int si, .ref o0_236, .ref o4_240])), (o0_236, .inl (o1_237, o2_238, .inr (.inl f_263))), (o4_240, .inl (o5_241, o6_242, .inl f_264)), (sc, .inr (3, [.int sn, .int sb, .int si, .int sw, .int ss, .ref en, .ref ki, .ref on, .ref ot])), (en, .inl (cE, 9, .inl fe)), (ki, .inl (cK, 600, .inl fk)), (on, .inl (cO, 600, .inr (.inl fo))), (ot, .inl (cT, 600, .inr (.inl ft)))]) [5, 6, 7, 0, 1, 2, 3, 4] rfl
      have hD9 := hD.sub (ws' := [(cu, .inr (1, [.int sn, .int sb, .int y_233, .int sw, .int si, .ref o0_236, .ref o4_240])), (o0_236, .inl (o1_237, o2_238, .inr (.inl f_263))), (o4_240, .inl (o5_241, o6_242, .inl f_264)), (sc, .inr (3, [.int sn, .int sb, .int si, .int sw, .int ss, .ref en, .ref ki, .ref on, .ref ot])), (en, .inl (cE, 9, .inl fe)), (ki, .inl (cK, 600, .inl fk)), (on, .inl (cO, 600, .inr (.inl fo))), (ot, .inl (cT, 600, .inr (.inl ft)))]) [5, 6, 7, 0, 1, 2, 3, 4] (by decide) rfl
      have hK9 := hK.sub (tys' := [(o1_237, .long), (o5_241, .int), (cE, .int), (cK, .int), (cO, .long), (cT, .long)]) [4, 5, 0, 1, 2, 3] rfl
      refine W.know (fun hkn => ?_)
      have htt9 : tot H + (2 * pot o2_238) ≤ cc := by omega
      refine W.widen (k := 2) (n := 40000) (lel _ _ rfl) (by omega) ?_
      exact W.vret hx hb hr (fun t ht hW => ⟨⟨(), rfl, trivial, sn, sb, y_233, sw, si, o0_236, o1_237, o2_238, f_263, o4_240, o5_241, o6_242, f_264, b_sn, b_sb, b_y_233, b_sw, b_si, (by omega), (by omega), (hrk.1), (by omega), ha_en, (by rw [ht]; exact htt9), by rw [ht]; exact hP9, va_K.moved hW.alike hK9, hD9⟩, hS.F ht⟩) hS.2.2 dX2_buildFrom_133
    ·
      have n_c_447 : (y_262.toInt : Int) < y_233.toInt := c_nge rfl rfl c_447
      have b_y_262 : (0 : Int) ≤ y_262.toInt ∧ y_262.toInt ≤ 319999 := r_lt1 b_y_262 b_y_233 n_c_447 (by decide)
      have b_y_233 : (1 : Int) ≤ y_233.toInt ∧ y_233.toInt ≤ 320000 := r_lt2 b_y_262 b_y_233 n_c_447 (by decide)
      refine lv_aload_n hx hb dX2_buildFrom_76 rfl (lv_at hl 1 rfl) ?_
      refine va_get (D := (dC, dI)) (ci := 1) (v := .int sb) (C := RX2) (T := TX2) (N := 7) hx hb hts iX2_buildFrom_X2 hown hK hP 5 rfl rfl 1 (by decide) (hts (.fieldLink RX2 29 "LuckyTicket$Roll" "base" "I") (List.mem_of_getElem? (i := 2) rfl)) (fun _ h9 => h9) rfl dX2_buildFrom_77 ?_
      refine lv_iconst (v := 1) hx hb dX2_buildFrom_80 (by decide) ?_
      refine lv_icmp_le (tgt := 133) hx hb dX2_buildFrom_81 (by decide) (fun c_448 => ?_) (fun c_448 => ?_)
      ·
        have n_c_448 : (sb.toInt : Int) ≤ 1 := c_le rfl (by decide) c_448
        have b_sb : (0 : Int) ≤ sb.toInt ∧ sb.toInt ≤ 1 := r_le1 b_sb (by decide : (1 : Int) ≤ (1 : Int32).toInt ∧ (1 : Int32).toInt ≤ 1) n_c_448 (by decide)
        have hP9 := hP.sub (ws' := [(cu, .inr (1, [.int sn, .int sb, .int y_233, .int sw, .int si, .ref o0_236, .ref o4_240])), (o0_236, .inl (o1_237, o2_238, .inr (.inl f_263))), (o4_240, .inl (o5_241, o6_242, .inl f_264)), (sc, .inr (3, [.int sn, .int sb, .int si, .int sw, .int ss, .ref en, .ref ki, .ref on, .ref ot])), (en, .inl (cE, 9, .inl fe)), (ki, .inl (cK, 600, .inl fk)), (on, .inl (cO, 600, .inr (.inl fo))), (ot, .inl (cT, 600, .inr (.inl ft)))]) [5, 6, 7, 0, 1, 2, 3, 4] rfl
        have hD9 := hD.sub (ws' := [(cu, .inr (1, [.int sn, .int sb, .int y_233, .int sw, .int si, .ref o0_236, .ref o4_240])), (o0_236, .inl (o1_237, o2_238, .inr (.inl f_263))), (o4_240, .inl (o5_241, o6_242, .inl f_264)), (sc, .inr (3, [.int sn, .int sb, .int si, .int sw, .int ss, .ref en, .ref ki, .ref on, .ref ot])), (en, .inl (cE, 9, .inl fe)), (ki, .inl (cK, 600, .inl fk)), (on, .inl (cO, 600, .inr (.inl fo))), (ot, .inl (cT, 600, .inr (.inl ft)))]) [5, 6, 7, 0, 1, 2, 3, 4] (by decide) rfl
        have hK9 := hK.sub (tys' := [(o1_237, .long), (o5_241, .int), (cE, .int), (cK, .int), (cO, .long), (cT, .long)]) [4, 5, 0, 1, 2, 3] rfl
        refine W.know (fun hkn => ?_)
        have htt9 : tot H + (2 * pot o2_238) ≤ cc := by omega
        refine W.widen (k := 2) (n := 40000) (lel _ _ rfl) (by omega) ?_
        exact W.vret hx hb hr (fun t ht hW => ⟨⟨(), rfl, trivial, sn, sb, y_233, sw, si, o0_236, o1_237, o2_238, f_263, o4_240, o5_241, o6_242, f_264, b_sn, (rg_w b_sb (by decide) (by decide)), (rg_w b_y_233 (by decide) (by decide)), b_sw, b_si, (by omega), (by omega), (hrk.1), (by omega), ha_en, (by rw [ht]; exact htt9), by rw [ht]; exact hP9, va_K.moved hW.alike hK9, hD9⟩, hS.F ht⟩) hS.2.2 dX2_buildFrom_133
      ·
        have n_c_448 : (1 : Int) < sb.toInt := c_nle rfl (by decide) c_448
        have b_sb : (2 : Int) ≤ sb.toInt ∧ sb.toInt ≤ 16 := r_lt2 (by decide : (1 : Int) ≤ (1 : Int32).toInt ∧ (1 : Int32).toInt ≤ 1) b_sb n_c_448 (by decide)
        refine lv_aload_n hx hb dX2_buildFrom_84 rfl (lv_at hl 1 rfl) ?_
        refine va_get (D := (dC, dI)) (ci := 1) (v := .ref o0_236) (C := RX2) (T := TX2) (N := 7) hx hb hts iX2_buildFrom_X2 hown hK hP 5 rfl rfl 5 (by decide) (hts (.fieldLink RX2 9 "LuckyTicket$Roll" "faces" "[J") (List.mem_of_getElem? (i := 12) rfl)) (fun _ h9 => h9) rfl dX2_buildFrom_85 ?_
        refine lv_iload_n hx hb dX2_buildFrom_88 rfl (lv_at hl 0 rfl) ?_
        refine lv_aload_n hx hb dX2_buildFrom_89 rfl (lv_at hl 1 rfl) ?_
        refine va_get (D := (dC, dI)) (ci := 1) (v := .ref o0_236) (C := RX2) (T := TX2) (N := 7) hx hb hts iX2_buildFrom_X2 hown hK hP 5 rfl rfl 5 (by decide) (hts (.fieldLink RX2 9 "LuckyTicket$Roll" "faces" "[J") (List.mem_of_getElem? (i := 12) rfl)) (fun _ h9 => h9) rfl dX2_buildFrom_90 ?_
        refine lv_iload_n hx hb dX2_buildFrom_93 rfl (lv_at hl 0 rfl) ?_
        refine lv_aload_n hx hb dX2_buildFrom_94 rfl (lv_at hl 1 rfl) ?_
        refine va_get (D := (dC, dI)) (ci := 1) (v := .int sb) (C := RX2) (T := TX2) (N := 7) hx hb hts iX2_buildFrom_X2 hown hK hP 5 rfl rfl 1 (by decide) (hts (.fieldLink RX2 29 "LuckyTicket$Roll" "base" "I") (List.mem_of_getElem? (i := 2) rfl)) (fun _ h9 => h9) rfl dX2_buildFrom_95 ?_
        refine lv_idiv hx hb dX2_buildFrom_98 (ti_ne b_sb (by decide)) ?_
        refine lv_topi (fun z_449 e_z_449 => ?_)
        obtain ⟨q_z_449, b_z_449⟩ := ti_div (hi := 159999) e_z_449 rfl rfl b_y_262 b_sb (by decide)
        refine va_lald hx hb hK hP 6 4 rfl rfl (vp_in_iff.mpr ⟨by omega, by have q9 := Int.ediv_le_self (a := y_262.toInt) sb.toInt (by omega); omega⟩) dX2_buildFrom_99 ?_
        refine lv_topl (fun z_450 e_z_450 => ?_)
        refine lv_iconst (v := 4) hx hb dX2_buildFrom_100 (by decide) ?_
        obtain ⟨z_451, e_z_451⟩ : ∃ y : Int64, y = (z_450 : Int64) <<< ((4 : Int32).toInt64 &&& 63) := ⟨_, rfl⟩
        refine lv_lshl (v := z_451) hx hb dX2_buildFrom_101 e_z_451.symm ?_
        refine lv_iload_n hx hb dX2_buildFrom_102 rfl (lv_at hl 0 rfl) ?_
        refine lv_aload_n hx hb dX2_buildFrom_103 rfl (lv_at hl 1 rfl) ?_
        refine va_get (D := (dC, dI)) (ci := 1) (v := .int sb) (C := RX2) (T := TX2) (N := 7) hx hb hts iX2_buildFrom_X2 hown hK hP 5 rfl rfl 1 (by decide) (hts (.fieldLink RX2 29 "LuckyTicket$Roll" "base" "I") (List.mem_of_getElem? (i := 2) rfl)) (fun _ h9 => h9) rfl dX2_buildFrom_104 ?_
        refine lv_irem hx hb dX2_buildFrom_107 (ti_ne b_sb (by decide)) ?_
        refine lv_topi (fun z_452 e_z_452 => ?_)
        obtain ⟨q_z_452, b_z_452⟩ := ti_rem (hi := 15) e_z_452 rfl rfl b_y_262 b_sb (by decide)
        obtain ⟨z_453, e_z_453⟩ : ∃ y : Int64, y = z_452.toInt64 := ⟨_, rfl⟩
        refine lv_i2l (v := z_453) hx hb dX2_buildFrom_108 e_z_453.symm ?_
        obtain ⟨q_z_453, b_z_453⟩ := ti_i2l e_z_453 b_z_452
        refine lv_lor hx hb dX2_buildFrom_109 ?_
        refine lv_topl (fun z_454 e_z_454 => ?_)
        refine va_last hx hb hK hP hD hS 6 4 rfl rfl (vp_in_iff.mpr ⟨by omega, by omega⟩) dX2_buildFrom_110 (fun H locs hP hD hS => ?_)
        have hP : va_P (dC, dI) vwCl [(sc, .inr (3, [.int sn, .int sb, .int si, .int sw, .int ss, .ref en, .ref ki, .ref on, .ref ot])), (en, .inl (cE, 9, .inl fe)), (ki, .inl (cK, 600, .inl fk)), (on, .inl (cO, 600, .inr (.inl fo))), (ot, .inl (cT, 600, .inr (.inl ft))), (cu, .inr (1, [.int sn, .int sb, .int y_233, .int sw, .int si, .ref o0_236, .ref o4_240])), (o0_236, .inl (o1_237, o2_238, .inr (.inl (vp_updL f_263 (y_262 : Int32).toNatClampNeg z_454)))), (o4_240, .inl (o5_241, o6_242, .inl f_264))] H := hP
        have hD : va_D A [(sc, .inr (3, [.int sn, .int sb, .int si, .int sw, .int ss, .ref en, .ref ki, .ref on, .ref ot])), (en, .inl (cE, 9, .inl fe)), (ki, .inl (cK, 600, .inl fk)), (on, .inl (cO, 600, .inr (.inl fo))), (ot, .inl (cT, 600, .inr (.inl ft))), (cu, .inr (1, [.int sn, .int sb, .int y_233, .int sw, .int si, .ref o0_236, .ref o4_240])), (o0_236, .inl (o1_237, o2_238, .inr (.inl (vp_updL f_263 (y_262 : Int32).toNatClampNeg z_454)))), (o4_240, .inl (o5_241, o6_242, .inl f_264))] := hD
        generalize (vp_updL f_263 (y_262 : Int32).toNatClampNeg z_454) = f_455 at hP hD
        have hP : va_P (dC, dI) vwCl [(sc, .inr (3, [.int sn, .int sb, .int si, .int sw, .int ss, .ref en, .ref ki, .ref on, .ref ot])), (en, .inl (cE, 9, .inl fe)), (ki, .inl (cK, 600, .inl fk)), (on, .inl (cO, 600, .inr (.inl fo))), (ot, .inl (cT, 600, .inr (.inl ft))), (cu, .inr (1, [.int sn, .int sb, .int y_233, .int sw, .int si, .ref o0_236, .ref o4_240])), (o0_236, .inl (o1_237, o2_238, .inr (.inl f_455))), (o4_240, .inl (o5_241, o6_242, .inl f_264))] H := hP
        have hD : va_D A [(sc, .inr (3, [.int sn, .int sb, .int si, .int sw, .int ss, .ref en, .ref ki, .ref on, .ref ot])), (en, .inl (cE, 9, .inl fe)), (ki, .inl (cK, 600, .inl fk)), (on, .inl (cO, 600, .inr (.inl fo))), (ot, .inl (cT, 600, .inr (.inl ft))), (cu, .inr (1, [.int sn, .int sb, .int y_233, .int sw, .int si, .ref o0_236, .ref o4_240])), (o0_236, .inl (o1_237, o2_238, .inr (.inl f_455))), (o4_240, .inl (o5_241, o6_242, .inl f_264))] := hD
        refine lv_aload_n hx hb dX2_buildFrom_111 rfl (lv_at hl 1 rfl) ?_
        refine va_get (D := (dC, dI)) (ci := 1) (v := .ref o4_240) (C := RX2) (T := TX2) (N := 7) hx hb hts iX2_buildFrom_X2 hown hK hP 5 rfl rfl 6 (by decide) (hts (.fieldLink RX2 15 "LuckyTicket$Roll" "luck" "[I") (List.mem_of_getElem? (i := 13) rfl)) (fun _ h9 => h9) rfl dX2_buildFrom_112 ?_
        refine lv_iload_n hx hb dX2_buildFrom_115 rfl (lv_at hl 0 rfl) ?_
        refine lv_aload_n hx hb dX2_buildFrom_116 rfl (lv_at hl 2 rfl) ?_
        refine lv_aload_n hx hb dX2_buildFrom_117 rfl (lv_at hl 1 rfl) ?_
        refine va_get (D := (dC, dI)) (ci := 1) (v := .ref o0_236) (C := RX2) (T := TX2) (N := 7) hx hb hts iX2_buildFrom_X2 hown hK hP 5 rfl rfl 5 (by decide) (hts (.fieldLink RX2 9 "LuckyTicket$Roll" "faces" "[J") (List.mem_of_getElem? (i := 12) rfl)) (fun _ h9 => h9) rfl dX2_buildFrom_118 ?_
        refine lv_iload_n hx hb dX2_buildFrom_121 rfl (lv_at hl 0 rfl) ?_
        refine va_lald hx hb hK hP 6 4 rfl rfl (vp_in_iff.mpr ⟨by omega, by omega⟩) dX2_buildFrom_122 ?_
        refine lv_topl (fun z_456 e_z_456 => ?_)
        refine vp_callSi (W.runV (As := [.long z_456]) (rest := [.int y_262, .ref o4_240]) ⟨hx, hb, hml, hown, hts⟩ (kX4_luckOf l dC dI sc sn sb si sw ss en ki on ot cE fe cK fk cO fo cT ft z_456 b_sn (rg_w b_sb (by decide) (by decide)) b_si b_sw b_ss ha_en) (cwV 1 hts gX2_buildFrom__X4_luckOf_V49 rfl rfl rfl hd_yX4_luckOf ⟨lel 5 5 rfl, lel 130 130 rfl⟩) ⟨pw_fb, rcv_X4 hK hP (q0 := 0) rfl, (pw_use hP hK hN [0, 1, 2, 3, 4] rfl [0, 1, 2, 3] rfl)⟩ rfl rfl hl.1 rfl (lv_room (Nat.le_of_ble_eq_true rfl)) dX2_buildFrom_123 ⟨lel 2 2 rfl, (show gg_248 + 0 ≤ (40000 : Nat) from by omega)⟩) (fun r_457 h_r_457 => ?_)
        refine va_iast hx hb hK hP hD hS 7 5 rfl rfl (vp_in_iff.mpr ⟨by omega, by omega⟩) dX2_buildFrom_126 (fun H locs hP hD hS => ?_)
        have hP : va_P (dC, dI) vwCl [(sc, .inr (3, [.int sn, .int sb, .int si, .int sw, .int ss, .ref en, .ref ki, .ref on, .ref ot])), (en, .inl (cE, 9, .inl fe)), (ki, .inl (cK, 600, .inl fk)), (on, .inl (cO, 600, .inr (.inl fo))), (ot, .inl (cT, 600, .inr (.inl ft))), (cu, .inr (1, [.int sn, .int sb, .int y_233, .int sw, .int si, .ref o0_236, .ref o4_240])), (o0_236, .inl (o1_237, o2_238, .inr (.inl f_455))), (o4_240, .inl (o5_241, o6_242, .inl (upd f_264 (y_262 : Int32).toNatClampNeg r_457)))] H := hP
        have hD : va_D A [(sc, .inr (3, [.int sn, .int sb, .int si, .int sw, .int ss, .ref en, .ref ki, .ref on, .ref ot])), (en, .inl (cE, 9, .inl fe)), (ki, .inl (cK, 600, .inl fk)), (on, .inl (cO, 600, .inr (.inl fo))), (ot, .inl (cT, 600, .inr (.inl ft))), (cu, .inr (1, [.int sn, .int sb, .int y_233, .int sw, .int si, .ref o0_236, .ref o4_240])), (o0_236, .inl (o1_237, o2_238, .inr (.inl f_455))), (o4_240, .inl (o5_241, o6_242, .inl (upd f_264 (y_262 : Int32).toNatClampNeg r_457)))] := hD
        generalize (upd f_264 (y_262 : Int32).toNatClampNeg r_457) = f_458 at hP hD
        have hP : va_P (dC, dI) vwCl [(sc, .inr (3, [.int sn, .int sb, .int si, .int sw, .int ss, .ref en, .ref ki, .ref on, .ref ot])), (en, .inl (cE, 9, .inl fe)), (ki, .inl (cK, 600, .inl fk)), (on, .inl (cO, 600, .inr (.inl fo))), (ot, .inl (cT, 600, .inr (.inl ft))), (cu, .inr (1, [.int sn, .int sb, .int y_233, .int sw, .int si, .ref o0_236, .ref o4_240])), (o0_236, .inl (o1_237, o2_238, .inr (.inl f_455))), (o4_240, .inl (o5_241, o6_242, .inl f_458))] H := hP
        have hD : va_D A [(sc, .inr (3, [.int sn, .int sb, .int si, .int sw, .int ss, .ref en, .ref ki, .ref on, .ref ot])), (en, .inl (cE, 9, .inl fe)), (ki, .inl (cK, 600, .inl fk)), (on, .inl (cO, 600, .inr (.inl fo))), (ot, .inl (cT, 600, .inr (.inl ft))), (cu, .inr (1, [.int sn, .int sb, .int y_233, .int sw, .int si, .ref o0_236, .ref o4_240])), (o0_236, .inl (o1_237, o2_238, .inr (.inl f_455))), (o4_240, .inl (o5_241, o6_242, .inl f_458))] := hD
        obtain ⟨z_459, e_z_459⟩ : ∃ y : Int32, y = y_262 + 1 := ⟨_, rfl⟩
        refine lv_iinc (v := z_459) (lv' := [(2, .int z_459), (0, .ref cu), (1, .ref sc)]) hx hb dX2_buildFrom_127 hl (k := 0) rfl (by rw [e_z_459]; rfl) (by decide) rfl (fun ls hl => ?_)
        obtain ⟨q_z_459, b_z_459⟩ := ti_add (lo := 1) (hi := 320000) e_z_459 rfl (by decide : (1 : Int32).toInt = 1) b_y_262 (by decide : (1 : Int) ≤ (1 : Int32).toInt ∧ (1 : Int32).toInt ≤ 1) (by decide)
        refine lv_goto (tgt := 68) hx hb dX2_buildFrom_130 (by decide) ?_
        exact ih_68_446 (z_459, f_455, f_458) _ _ _ ⟨(show (0 : Int) ≤ z_459.toInt ∧ z_459.toInt ≤ 320000 from (rg_w b_z_459 (by decide) (by decide))), hP, hD, hS, lv_sub hl [0, 1, 2] rfl⟩ (show (320000 - z_459.toInt).toNat < (320000 - y_262.toInt).toNat by omega)
  ·
    refine lv_if_ne (tgt := 44) hx hb dX2_buildFrom_37 (by decide) (fun c_231 => ?_) (fun c_231 => ?_)
    ·
      have n_c_231 : (si.toInt : Int) ≠ 0 := c_ne rfl (by decide) c_231
      have b_si : (1 : Int) ≤ si.toInt ∧ si.toInt ≤ 1300 := r_ne1 b_si (by decide : (0 : Int) ≤ (0 : Int32).toInt ∧ (0 : Int32).toInt ≤ 0) n_c_231 (by decide)
      refine lv_aload_n hx hb dX2_buildFrom_44 rfl (lv_at hl 0 rfl) ?_
      refine va_get (D := (dC, dI)) (ci := 1) (v := .int sb) (C := RX2) (T := TX2) (N := 7) hx hb hts iX2_buildFrom_X2 hown hK hP 0 rfl rfl 1 (by decide) (hts (.fieldLink RX2 29 "LuckyTicket$Roll" "base" "I") (List.mem_of_getElem? (i := 2) rfl)) (fun _ h9 => h9) rfl dX2_buildFrom_45 ?_
      refine lv_aload_n hx hb dX2_buildFrom_48 rfl (lv_at hl 0 rfl) ?_
      refine va_get (D := (dC, dI)) (ci := 1) (v := .int sn) (C := RX2) (T := TX2) (N := 7) hx hb hts iX2_buildFrom_X2 hown hK hP 0 rfl rfl 0 (by decide) (hts (.fieldLink RX2 25 "LuckyTicket$Roll" "length" "I") (List.mem_of_getElem? (i := 1) rfl)) (fun _ h9 => h9) rfl dX2_buildFrom_49 ?_
      refine vp_callSi (run_of (va_runSN (As := [.int sb, .int sn]) (rest := [.ref cu]) ⟨hx, hb, hml, hown, hts⟩ (kX9_powerF l dC dI sb sn b_sb b_sn) ⟨va_cnB (host := "LuckyTicket") 2 hts gX2_buildFrom__X9_powerF_N38 rfl rfl rfl (hN _ (List.mem_of_getElem? (i := 30) rfl)) (hts (.initialized RX9) (List.mem_of_getElem? (i := 6) rfl)) (by decide +kernel) ⟨lel 1 5 rfl, lel 23 130 rfl⟩, (hts (.static yX9_power) (List.mem_of_getElem? (i := 5) rfl)), trivial⟩ ⟨pn_fb, pn_use⟩ rfl rfl hl.1 rfl (lv_room (Nat.le_of_ble_eq_true rfl)) dX2_buildFrom_52 ⟨lel 0 2 rfl, lel 0 40000 rfl⟩)) (fun r_460 h_r_460 => ?_)
      obtain ⟨b_r_460, pr_r_460⟩ := h_r_460
      have b_r_460 : (0 : Int) ≤ r_460.toInt ∧ r_460.toInt ≤ 320000 := b_r_460
      exact hj_55_233 r_460 _ _ _ ⟨(show (0 : Int) ≤ r_460.toInt ∧ r_460.toInt ≤ 320000 from b_r_460), (show RK sn sb r_460 ∧ r_460.toInt ≤ 20000 from (RK.pwr (hbf.resolve_left (by omega)) pr_r_460)), hP, hD, hS, lv_sub hl [0, 1] rfl⟩
    ·
      have n_c_231 : (si.toInt : Int) = 0 := c_eq rfl (by decide) c_231
      have b_si : (0 : Int) ≤ si.toInt ∧ si.toInt ≤ 0 := r_eq1 b_si (by decide : (0 : Int) ≤ (0 : Int32).toInt ∧ (0 : Int32).toInt ≤ 0) n_c_231 (by decide)
      refine lv_iconst (v := 0) hx hb dX2_buildFrom_40 (by decide) ?_
      refine lv_goto (tgt := 55) hx hb dX2_buildFrom_41 (by decide) ?_
      exact hj_55_233 (0 : Int32) _ _ _ ⟨(show (0 : Int) ≤ (0 : Int32).toInt ∧ (0 : Int32).toInt ≤ 320000 from (rg_w (by decide : (0 : Int) ≤ (0 : Int32).toInt ∧ (0 : Int32).toInt ≤ 0) (by decide) (by decide))), (show RK sn sb (0 : Int32) ∧ (0 : Int32).toInt ≤ 20000 from (⟨Or.inl (by decide), by decide⟩)), hP, hD, hS, lv_sub hl [0, 1] rfl⟩
theorem dX2_copyFrom_0 : decode cX2_copyFrom 0 = .ok (.aload_n 0, 1) := by decide +kernel
theorem dX2_copyFrom_1 : decode cX2_copyFrom 1 = .ok (.aload_n 1, 1) := by decide +kernel
theorem dX2_copyFrom_2 : decode cX2_copyFrom 2 = .ok (.getfield 25, 3) := by decide +kernel
theorem dX2_copyFrom_5 : decode cX2_copyFrom 5 = .ok (.putfield 25, 3) := by decide +kernel
theorem dX2_copyFrom_8 : decode cX2_copyFrom 8 = .ok (.aload_n 0, 1) := by decide +kernel
theorem dX2_copyFrom_9 : decode cX2_copyFrom 9 = .ok (.aload_n 1, 1) := by decide +kernel
theorem dX2_copyFrom_10 : decode cX2_copyFrom 10 = .ok (.getfield 29, 3) := by decide +kernel
theorem dX2_copyFrom_13 : decode cX2_copyFrom 13 = .ok (.putfield 29, 3) := by decide +kernel
theorem dX2_copyFrom_16 : decode cX2_copyFrom 16 = .ok (.aload_n 0, 1) := by decide +kernel
theorem dX2_copyFrom_17 : decode cX2_copyFrom 17 = .ok (.aload_n 1, 1) := by decide +kernel
theorem dX2_copyFrom_18 : decode cX2_copyFrom 18 = .ok (.getfield 42, 3) := by decide +kernel
theorem dX2_copyFrom_21 : decode cX2_copyFrom 21 = .ok (.putfield 42, 3) := by decide +kernel
theorem dX2_copyFrom_24 : decode cX2_copyFrom 24 = .ok (.aload_n 0, 1) := by decide +kernel
theorem dX2_copyFrom_25 : decode cX2_copyFrom 25 = .ok (.aload_n 1, 1) := by decide +kernel
theorem dX2_copyFrom_26 : decode cX2_copyFrom 26 = .ok (.getfield 33, 3) := by decide +kernel
theorem dX2_copyFrom_29 : decode cX2_copyFrom 29 = .ok (.putfield 33, 3) := by decide +kernel
theorem dX2_copyFrom_32 : decode cX2_copyFrom 32 = .ok (.aload_n 0, 1) := by decide +kernel
theorem dX2_copyFrom_33 : decode cX2_copyFrom 33 = .ok (.aload_n 1, 1) := by decide +kernel
theorem dX2_copyFrom_34 : decode cX2_copyFrom 34 = .ok (.getfield 37, 3) := by decide +kernel
theorem dX2_copyFrom_37 : decode cX2_copyFrom 37 = .ok (.putfield 37, 3) := by decide +kernel
theorem dX2_copyFrom_40 : decode cX2_copyFrom 40 = .ok (.aload_n 0, 1) := by decide +kernel
theorem dX2_copyFrom_41 : decode cX2_copyFrom 41 = .ok (.aload_n 0, 1) := by decide +kernel
theorem dX2_copyFrom_42 : decode cX2_copyFrom 42 = .ok (.getfield 42, 3) := by decide +kernel
theorem dX2_copyFrom_45 : decode cX2_copyFrom 45 = .ok (.invokevirtual 45, 3) := by decide +kernel
theorem dX2_copyFrom_48 : decode cX2_copyFrom 48 = .ok (.aload_n 1, 1) := by decide +kernel
theorem dX2_copyFrom_49 : decode cX2_copyFrom 49 = .ok (.getfield 9, 3) := by decide +kernel
theorem dX2_copyFrom_52 : decode cX2_copyFrom 52 = .ok (.iconst 0, 1) := by decide +kernel
theorem dX2_copyFrom_53 : decode cX2_copyFrom 53 = .ok (.aload_n 0, 1) := by decide +kernel
theorem dX2_copyFrom_54 : decode cX2_copyFrom 54 = .ok (.getfield 9, 3) := by decide +kernel
theorem dX2_copyFrom_57 : decode cX2_copyFrom 57 = .ok (.iconst 0, 1) := by decide +kernel
theorem dX2_copyFrom_58 : decode cX2_copyFrom 58 = .ok (.aload_n 0, 1) := by decide +kernel
theorem dX2_copyFrom_59 : decode cX2_copyFrom 59 = .ok (.getfield 42, 3) := by decide +kernel
theorem dX2_copyFrom_62 : decode cX2_copyFrom 62 = .ok (.invokestatic 53, 3) := by decide +kernel
theorem dX2_copyFrom_65 : decode cX2_copyFrom 65 = .ok (.aload_n 1, 1) := by decide +kernel
theorem dX2_copyFrom_66 : decode cX2_copyFrom 66 = .ok (.getfield 15, 3) := by decide +kernel
theorem dX2_copyFrom_69 : decode cX2_copyFrom 69 = .ok (.iconst 0, 1) := by decide +kernel
theorem dX2_copyFrom_70 : decode cX2_copyFrom 70 = .ok (.aload_n 0, 1) := by decide +kernel
theorem dX2_copyFrom_71 : decode cX2_copyFrom 71 = .ok (.getfield 15, 3) := by decide +kernel
theorem dX2_copyFrom_74 : decode cX2_copyFrom 74 = .ok (.iconst 0, 1) := by decide +kernel
theorem dX2_copyFrom_75 : decode cX2_copyFrom 75 = .ok (.aload_n 0, 1) := by decide +kernel
theorem dX2_copyFrom_76 : decode cX2_copyFrom 76 = .ok (.getfield 42, 3) := by decide +kernel
theorem dX2_copyFrom_79 : decode cX2_copyFrom 79 = .ok (.invokestatic 53, 3) := by decide +kernel
theorem dX2_copyFrom_82 : decode cX2_copyFrom 82 = .ok (.return_, 1) := by decide +kernel
theorem hd_yX2_copyFrom : yX2_copyFrom.cls = RX2 ∧ yX2_copyFrom.cls ≠ "java/lang/invoke/MethodHandle" ∧ yX2_copyFrom.cls ≠ "java/lang/invoke/VarHandle" ∧ (parseMethodDescriptor yX2_copyFrom.desc).map (fun d => d.parameters.length) = some 1 := by decide +kernel
def uX2_copyFrom : List Cond := List.cons (.code yX2_copyFrom cX2_copyFrom 2 none) (HAppend.hAppend ([.fieldLink RX2 25 "LuckyTicket$Roll" "length" "I", .fieldLink RX2 29 "LuckyTicket$Roll" "base" "I", .fieldLink RX2 42 "LuckyTicket$Roll" "tickets" "I", .fieldLink RX2 33 "LuckyTicket$Roll" "laws" "I", .fieldLink RX2 37 "LuckyTicket$Roll" "lines" "I", .methodLink RX2 45 yX2_makeRoom, .instanceMethod yX2_makeRoom, .selects RX2 yX2_makeRoom yX2_makeRoom, .initialized RX2, .fieldLink RX2 9 "LuckyTicket$Roll" "faces" "[J", .methodLink RX2 53 arraycopyName, .native arraycopyName, .static arraycopyName, .initialized RJ10, .fieldLink RX2 15 "LuckyTicket$Roll" "luck" "[I"] : List Cond) (HAppend.hAppend uX2_makeRoom wsX20))
theorem iX2_copyFrom_X2 : ∀ w ∈ wsX20, w ∈ uX2_copyFrom := fun _ h => (List.mem_cons_of_mem _ (List.mem_append_right _ (List.mem_append_right _ h)))
theorem guX2_copyFrom : GU uX2_copyFrom := gu_cons (gu_app (by decide +kernel) (gu_ap guX2_makeRoom gws_X2))
theorem gX2_copyFrom__X2_makeRoom_V45 : GoodIn uX2_copyFrom (wsV RX2 45 RX2 yX2_makeRoom uX2_makeRoom) := gin_V (List.mem_of_getElem? (i := 6) rfl) (List.mem_of_getElem? (i := 7) rfl) (List.mem_of_getElem? (i := 8) rfl) (List.mem_of_getElem? (i := 9) rfl) (fun _ h => (List.mem_cons_of_mem _ (List.mem_append_right _ (List.mem_append_left _ h)))) guX2_makeRoom
set_option maxHeartbeats 4000000 in
set_option maxRecDepth 100000 in
theorem kX2_copyFrom (l : Launch) (dC : Nat → ClassId) (dI : Nat → Nat → Nat) (cu : Nat) (ln : Int32) (bs : Int32) (tk : Int32) (lw : Int32) (li : Int32) (fa : Nat) (lu : Nat) (cF : ClassId) (nf : Nat) (ff : Nat → Int64) (cL : ClassId) (nl : Nat) (fl : Nat → Int32) (cv : Nat) (ln2 : Int32) (bs2 : Int32) (tk2 : Int32) (lw2 : Int32) (li2 : Int32) (fa2 : Nat) (lu2 : Nat) (cF2 : ClassId) (nf2 : Nat) (ff2 : Nat → Int64) (cL2 : ClassId) (nl2 : Nat) (fl2 : Nat → Int32) (cc : Nat) (sz : Nat) (b_ln : (0 : Int) ≤ ln.toInt ∧ ln.toInt ≤ 12) (b_bs : (0 : Int) ≤ bs.toInt ∧ bs.toInt ≤ 16) (b_tk : (0 : Int) ≤ tk.toInt ∧ tk.toInt ≤ 20000) (b_lw : (0 : Int) ≤ lw.toInt ∧ lw.toInt ≤ 9) (b_ln2 : (0 : Int) ≤ ln2.toInt ∧ ln2.toInt ≤ 12) (b_bs2 : (0 : Int) ≤ bs2.toInt ∧ bs2.toInt ≤ 16) (b_tk2 : (0 : Int) ≤ tk2.toInt ∧ tk2.toInt ≤ 20000) (b_lw2 : (0 : Int) ≤ lw2.toInt ∧ lw2.toInt ≤ 9) (hnl : nl = nf) (hnm : nf ≤ 20000) (hge2 : tk2.toInt ≤ (nf2 : Int)) (hnl2 : nl2 = nf2) (hrk2 : RK ln2 bs2 tk2) : Met l yX2_copyFrom uX2_copyFrom ({ frames := 1, cells := 2, slots := 40000, locals := 64 }) (va_Pc [.ref cu, .ref cv] (hg (dC, dI) vwCl [(cu, .inr (1, [.int ln, .int bs, .int tk, .int lw, .int li, .ref fa, .ref lu])), (fa, .inl (cF, nf, .inr (.inl ff))), (lu, .inl (cL, nl, .inl fl)), (cv, .inr (1, [.int ln2, .int bs2, .int tk2, .int lw2, .int li2, .ref fa2, .ref lu2])), (fa2, .inl (cF2, nf2, .inr (.inl ff2))), (lu2, .inl (cL2, nl2, .inl fl2))] [(cF, .long), (cL, .int), (cF2, .long), (cL2, .int)] sz cc (2 * pot nf))) (va_Qv (fun (_ : Unit) => True) (fun (_ : Unit) t => ∃ (o0_ : Int32) (o1_ : Int32) (o2_ : Int32) (o3_ : Int32) (o4_ : Int32) (o5_ : Nat) (o6_ : ClassId) (o7_ : Nat) (o8_ : Nat → Int64) (o9_ : Nat) (o10_ : ClassId) (o11_ : Nat) (o12_ : Nat → Int32), ((0 : Int) ≤ o0_.toInt ∧ o0_.toInt ≤ 12) ∧ ((0 : Int) ≤ o1_.toInt ∧ o1_.toInt ≤ 16) ∧ ((0 : Int) ≤ o2_.toInt ∧ o2_.toInt ≤ 20000) ∧ ((0 : Int) ≤ o3_.toInt ∧ o3_.toInt ≤ 9) ∧ (o11_ = o7_) ∧ (o7_ ≤ 20000) ∧ (RK o0_ o1_ o2_) ∧ (o2_.toInt ≤ (o7_ : Int)) ∧ (tot t.heap + (2 * pot o7_) ≤ cc) ∧ va_P (dC, dI) vwCl [(cu, .inr (1, [.int o0_, .int o1_, .int o2_, .int o3_, .int o4_, .ref o5_, .ref o9_])), (o5_, .inl (o6_, o7_, .inr (.inl o8_))), (o9_, .inl (o10_, o11_, .inl o12_)), (cv, .inr (1, [.int ln2, .int bs2, .int tk2, .int lw2, .int li2, .ref fa2, .ref lu2])), (fa2, .inl (cF2, nf2, .inr (.inl ff2))), (lu2, .inl (cL2, nl2, .inl fl2))] t.heap ∧ va_K (dC, dI) vwCl [(o6_, .long), (o10_, .int), (cF2, .long), (cL2, .int)] t ∧ va_D (va_A [(cu, .inr (1, [.int ln, .int bs, .int tk, .int lw, .int li, .ref fa, .ref lu])), (fa, .inl (cF, nf, .inr (.inl ff))), (lu, .inl (cL, nl, .inl fl)), (cv, .inr (1, [.int ln2, .int bs2, .int tk2, .int lw2, .int li2, .ref fa2, .ref lu2])), (fa2, .inl (cF2, nf2, .inr (.inl ff2))), (lu2, .inl (cL2, nl2, .inl fl2))] sz) [(cu, .inr (1, [.int o0_, .int o1_, .int o2_, .int o3_, .int o4_, .ref o5_, .ref o9_])), (o5_, .inl (o6_, o7_, .inr (.inl o8_))), (o9_, .inl (o10_, o11_, .inl o12_)), (cv, .inr (1, [.int ln2, .int bs2, .int tk2, .int lw2, .int li2, .ref fa2, .ref lu2])), (fa2, .inl (cF2, nf2, .inr (.inl ff2))), (lu2, .inl (cL2, nl2, .inl fl2))]) (va_A [(cu, .inr (1, [.int ln, .int bs, .int tk, .int lw, .int li, .ref fa, .ref lu])), (fa, .inl (cF, nf, .inr (.inl ff))), (lu, .inl (cL, nl, .inl fl)), (cv, .inr (1, [.int ln2, .int bs2, .int tk2, .int lw2, .int li2, .ref fa2, .ref lu2])), (fa2, .inl (cF2, nf2, .inr (.inl ff2))), (lu2, .inl (cL2, nl2, .inl fl2))] sz)) 2 40000 (va_A [(cu, .inr (1, [.int ln, .int bs, .int tk, .int lw, .int li, .ref fa, .ref lu])), (fa, .inl (cF, nf, .inr (.inl ff))), (lu, .inl (cL, nl, .inl fl)), (cv, .inr (1, [.int ln2, .int bs2, .int tk2, .int lw2, .int li2, .ref fa2, .ref lu2])), (fa2, .inl (cF2, nf2, .inr (.inl ff2))), (lu2, .inl (cL2, nl2, .inl fl2))] sz) := by
  refine Met.ofW (cc := cX2_copyFrom) (maxL := 2) (ret := none) pn_X2 rfl ?_
  intro p e s m args below meth c s₁ B hml hv
  obtain ⟨rfl, ⟨hsz, hP, hK, hD0, hN⟩, htot⟩ := hv
  have hx := B.exec
  have hb := B.bytes
  have hr := B.returns
  have hts := atoms_spec (ws := uX2_copyFrom) B.pre
  have hown : s.vm.findClass RX2 = some m.cls := hown_of B.named rfl
  have hlocks := B.notSynchronized
  subst hsz
  have hD := hD0.self (sz := s.heap.size)
  generalize hAe : va_A [(cu, .inr (1, [.int ln, .int bs, .int tk, .int lw, .int li, .ref fa, .ref lu])), (fa, .inl (cF, nf, .inr (.inl ff))), (lu, .inl (cL, nl, .inl fl)), (cv, .inr (1, [.int ln2, .int bs2, .int tk2, .int lw2, .int li2, .ref fa2, .ref lu2])), (fa2, .inl (cF2, nf2, .inr (.inl ff2))), (lu2, .inl (cL2, nl2, .inl fl2))] s.heap.size = A at hD ⊢
  have hA : ∀ q : Nat, s.heap.size ≤ q → A q := fun q h => by rw [← hAe]; exact Or.inr h
  have hS : va_S A s.heap s.heap [] := va_S.rf
  have hP : va_P (dC, dI) vwCl [(cu, .inr (1, [.int ln, .int bs, .int tk, .int lw, .int li, .ref fa, .ref lu])), (fa, .inl (cF, nf, .inr (.inl ff))), (lu, .inl (cL, nl, .inl fl)), (cv, .inr (1, [.int ln2, .int bs2, .int tk2, .int lw2, .int li2, .ref fa2, .ref lu2])), (fa2, .inl (cF2, nf2, .inr (.inl ff2))), (lu2, .inl (cL2, nl2, .inl fl2))] s.heap := hP
  have hl := lv_entry ([.ref cu, .ref cv]) (n := 2) (Nat.le_of_ble_eq_true rfl)
  rw [lg_entry_eq]
  generalize (lg_sl ([.ref cu, .ref cv]) ++ List.replicate (2 - (lg_sl ([.ref cu, .ref cv])).length) Slot.unset).toArray = ls at hl ⊢
  have hl : lv_has ls 2 [(0, .ref cu), (1, .ref cv)] := hl
  refine lv_aload_n hx hb dX2_copyFrom_0 rfl (lv_at hl 0 rfl) ?_
  refine lv_aload_n hx hb dX2_copyFrom_1 rfl (lv_at hl 1 rfl) ?_
  refine va_get (D := (dC, dI)) (ci := 1) (v := .int ln2) (C := RX2) (T := TX2) (N := 7) hx hb hts iX2_copyFrom_X2 hown hK hP 3 rfl rfl 0 (by decide) (hts (.fieldLink RX2 25 "LuckyTicket$Roll" "length" "I") (List.mem_of_getElem? (i := 1) rfl)) (fun _ h9 => h9) rfl dX2_copyFrom_2 ?_
  refine va_put (D := (dC, dI)) (ci := 1) (v := .int ln2) (ty := .int) (C := RX2) (T := TX2) (N := 7) hx hb hts iX2_copyFrom_X2 tyX2 tyX2_ok nmX2 hown hK hP hD hS 0 rfl rfl 0 (by decide) (hts (.fieldLink RX2 25 "LuckyTicket$Roll" "length" "I") (List.mem_of_getElem? (i := 1) rfl)) (fun _ h9 => h9) rfl (by decide +kernel) rfl rfl (Nat.le_of_ble_eq_true rfl) dX2_copyFrom_5 (fun H locs hP hD hS => ?_)
  have hP : va_P (dC, dI) vwCl [(cu, .inr (1, [.int ln2, .int bs, .int tk, .int lw, .int li, .ref fa, .ref lu])), (fa, .inl (cF, nf, .inr (.inl ff))), (lu, .inl (cL, nl, .inl fl)), (cv, .inr (1, [.int ln2, .int bs2, .int tk2, .int lw2, .int li2, .ref fa2, .ref lu2])), (fa2, .inl (cF2, nf2, .inr (.inl ff2))), (lu2, .inl (cL2, nl2, .inl fl2))] H := hP
  have hD : va_D A [(cu, .inr (1, [.int ln2, .int bs, .int tk, .int lw, .int li, .ref fa, .ref lu])), (fa, .inl (cF, nf, .inr (.inl ff))), (lu, .inl (cL, nl, .inl fl)), (cv, .inr (1, [.int ln2, .int bs2, .int tk2, .int lw2, .int li2, .ref fa2, .ref lu2])), (fa2, .inl (cF2, nf2, .inr (.inl ff2))), (lu2, .inl (cL2, nl2, .inl fl2))] := hD
  refine lv_aload_n hx hb dX2_copyFrom_8 rfl (lv_at hl 0 rfl) ?_
  refine lv_aload_n hx hb dX2_copyFrom_9 rfl (lv_at hl 1 rfl) ?_
  refine va_get (D := (dC, dI)) (ci := 1) (v := .int bs2) (C := RX2) (T := TX2) (N := 7) hx hb hts iX2_copyFrom_X2 hown hK hP 3 rfl rfl 1 (by decide) (hts (.fieldLink RX2 29 "LuckyTicket$Roll" "base" "I") (List.mem_of_getElem? (i := 2) rfl)) (fun _ h9 => h9) rfl dX2_copyFrom_10 ?_
  refine va_put (D := (dC, dI)) (ci := 1) (v := .int bs2) (ty := .int) (C := RX2) (T := TX2) (N := 7) hx hb hts iX2_copyFrom_X2 tyX2 tyX2_ok nmX2 hown hK hP hD hS 0 rfl rfl 1 (by decide) (hts (.fieldLink RX2 29 "LuckyTicket$Roll" "base" "I") (List.mem_of_getElem? (i := 2) rfl)) (fun _ h9 => h9) rfl (by decide +kernel) rfl rfl (Nat.le_of_ble_eq_true rfl) dX2_copyFrom_13 (fun H locs hP hD hS => ?_)
  have hP : va_P (dC, dI) vwCl [(cu, .inr (1, [.int ln2, .int bs2, .int tk, .int lw, .int li, .ref fa, .ref lu])), (fa, .inl (cF, nf, .inr (.inl ff))), (lu, .inl (cL, nl, .inl fl)), (cv, .inr (1, [.int ln2, .int bs2, .int tk2, .int lw2, .int li2, .ref fa2, .ref lu2])), (fa2, .inl (cF2, nf2, .inr (.inl ff2))), (lu2, .inl (cL2, nl2, .inl fl2))] H := hP
  have hD : va_D A [(cu, .inr (1, [.int ln2, .int bs2, .int tk, .int lw, .int li, .ref fa, .ref lu])), (fa, .inl (cF, nf, .inr (.inl ff))), (lu, .inl (cL, nl, .inl fl)), (cv, .inr (1, [.int ln2, .int bs2, .int tk2, .int lw2, .int li2, .ref fa2, .ref lu2])), (fa2, .inl (cF2, nf2, .inr (.inl ff2))), (lu2, .inl (cL2, nl2, .inl fl2))] := hD
  refine lv_aload_n hx hb dX2_copyFrom_16 rfl (lv_at hl 0 rfl) ?_
  refine lv_aload_n hx hb dX2_copyFrom_17 rfl (lv_at hl 1 rfl) ?_
  refine va_get (D := (dC, dI)) (ci := 1) (v := .int tk2) (C := RX2) (T := TX2) (N := 7) hx hb hts iX2_copyFrom_X2 hown hK hP 3 rfl rfl 2 (by decide) (hts (.fieldLink RX2 42 "LuckyTicket$Roll" "tickets" "I") (List.mem_of_getElem? (i := 3) rfl)) (fun _ h9 => h9) rfl dX2_copyFrom_18 ?_
  refine va_put (D := (dC, dI)) (ci := 1) (v := .int tk2) (ty := .int) (C := RX2) (T := TX2) (N := 7) hx hb hts iX2_copyFrom_X2 tyX2 tyX2_ok nmX2 hown hK hP hD hS 0 rfl rfl 2 (by decide) (hts (.fieldLink RX2 42 "LuckyTicket$Roll" "tickets" "I") (List.mem_of_getElem? (i := 3) rfl)) (fun _ h9 => h9) rfl (by decide +kernel) rfl rfl (Nat.le_of_ble_eq_true rfl) dX2_copyFrom_21 (fun H locs hP hD hS => ?_)
  have hP : va_P (dC, dI) vwCl [(cu, .inr (1, [.int ln2, .int bs2, .int tk2, .int lw, .int li, .ref fa, .ref lu])), (fa, .inl (cF, nf, .inr (.inl ff))), (lu, .inl (cL, nl, .inl fl)), (cv, .inr (1, [.int ln2, .int bs2, .int tk2, .int lw2, .int li2, .ref fa2, .ref lu2])), (fa2, .inl (cF2, nf2, .inr (.inl ff2))), (lu2, .inl (cL2, nl2, .inl fl2))] H := hP
  have hD : va_D A [(cu, .inr (1, [.int ln2, .int bs2, .int tk2, .int lw, .int li, .ref fa, .ref lu])), (fa, .inl (cF, nf, .inr (.inl ff))), (lu, .inl (cL, nl, .inl fl)), (cv, .inr (1, [.int ln2, .int bs2, .int tk2, .int lw2, .int li2, .ref fa2, .ref lu2])), (fa2, .inl (cF2, nf2, .inr (.inl ff2))), (lu2, .inl (cL2, nl2, .inl fl2))] := hD
  refine lv_aload_n hx hb dX2_copyFrom_24 rfl (lv_at hl 0 rfl) ?_
  refine lv_aload_n hx hb dX2_copyFrom_25 rfl (lv_at hl 1 rfl) ?_
  refine va_get (D := (dC, dI)) (ci := 1) (v := .int lw2) (C := RX2) (T := TX2) (N := 7) hx hb hts iX2_copyFrom_X2 hown hK hP 3 rfl rfl 3 (by decide) (hts (.fieldLink RX2 33 "LuckyTicket$Roll" "laws" "I") (List.mem_of_getElem? (i := 4) rfl)) (fun _ h9 => h9) rfl dX2_copyFrom_26 ?_
  refine va_put (D := (dC, dI)) (ci := 1) (v := .int lw2) (ty := .int) (C := RX2) (T := TX2) (N := 7) hx hb hts iX2_copyFrom_X2 tyX2 tyX2_ok nmX2 hown hK hP hD hS 0 rfl rfl 3 (by decide) (hts (.fieldLink RX2 33 "LuckyTicket$Roll" "laws" "I") (List.mem_of_getElem? (i := 4) rfl)) (fun _ h9 => h9) rfl (by decide +kernel) rfl rfl (Nat.le_of_ble_eq_true rfl) dX2_copyFrom_29 (fun H locs hP hD hS => ?_)
  have hP : va_P (dC, dI) vwCl [(cu, .inr (1, [.int ln2, .int bs2, .int tk2, .int lw2, .int li, .ref fa, .ref lu])), (fa, .inl (cF, nf, .inr (.inl ff))), (lu, .inl (cL, nl, .inl fl)), (cv, .inr (1, [.int ln2, .int bs2, .int tk2, .int lw2, .int li2, .ref fa2, .ref lu2])), (fa2, .inl (cF2, nf2, .inr (.inl ff2))), (lu2, .inl (cL2, nl2, .inl fl2))] H := hP
  have hD : va_D A [(cu, .inr (1, [.int ln2, .int bs2, .int tk2, .int lw2, .int li, .ref fa, .ref lu])), (fa, .inl (cF, nf, .inr (.inl ff))), (lu, .inl (cL, nl, .inl fl)), (cv, .inr (1, [.int ln2, .int bs2, .int tk2, .int lw2, .int li2, .ref fa2, .ref lu2])), (fa2, .inl (cF2, nf2, .inr (.inl ff2))), (lu2, .inl (cL2, nl2, .inl fl2))] := hD
  refine lv_aload_n hx hb dX2_copyFrom_32 rfl (lv_at hl 0 rfl) ?_
  refine lv_aload_n hx hb dX2_copyFrom_33 rfl (lv_at hl 1 rfl) ?_
  refine va_get (D := (dC, dI)) (ci := 1) (v := .int li2) (C := RX2) (T := TX2) (N := 7) hx hb hts iX2_copyFrom_X2 hown hK hP 3 rfl rfl 4 (by decide) (hts (.fieldLink RX2 37 "LuckyTicket$Roll" "lines" "I") (List.mem_of_getElem? (i := 5) rfl)) (fun _ h9 => h9) rfl dX2_copyFrom_34 ?_
  refine va_put (D := (dC, dI)) (ci := 1) (v := .int li2) (ty := .int) (C := RX2) (T := TX2) (N := 7) hx hb hts iX2_copyFrom_X2 tyX2 tyX2_ok nmX2 hown hK hP hD hS 0 rfl rfl 4 (by decide) (hts (.fieldLink RX2 37 "LuckyTicket$Roll" "lines" "I") (List.mem_of_getElem? (i := 5) rfl)) (fun _ h9 => h9) rfl (by decide +kernel) rfl rfl (Nat.le_of_ble_eq_true rfl) dX2_copyFrom_37 (fun H locs hP hD hS => ?_)
  have hP : va_P (dC, dI) vwCl [(cu, .inr (1, [.int ln2, .int bs2, .int tk2, .int lw2, .int li2, .ref fa, .ref lu])), (fa, .inl (cF, nf, .inr (.inl ff))), (lu, .inl (cL, nl, .inl fl)), (cv, .inr (1, [.int ln2, .int bs2, .int tk2, .int lw2, .int li2, .ref fa2, .ref lu2])), (fa2, .inl (cF2, nf2, .inr (.inl ff2))), (lu2, .inl (cL2, nl2, .inl fl2))] H := hP
  have hD : va_D A [(cu, .inr (1, [.int ln2, .int bs2, .int tk2, .int lw2, .int li2, .ref fa, .ref lu])), (fa, .inl (cF, nf, .inr (.inl ff))), (lu, .inl (cL, nl, .inl fl)), (cv, .inr (1, [.int ln2, .int bs2, .int tk2, .int lw2, .int li2, .ref fa2, .ref lu2])), (fa2, .inl (cF2, nf2, .inr (.inl ff2))), (lu2, .inl (cL2, nl2, .inl fl2))] := hD
  refine lv_aload_n hx hb dX2_copyFrom_40 rfl (lv_at hl 0 rfl) ?_
  refine lv_aload_n hx hb dX2_copyFrom_41 rfl (lv_at hl 0 rfl) ?_
  refine va_get (D := (dC, dI)) (ci := 1) (v := .int tk2) (C := RX2) (T := TX2) (N := 7) hx hb hts iX2_copyFrom_X2 hown hK hP 0 rfl rfl 2 (by decide) (hts (.fieldLink RX2 42 "LuckyTicket$Roll" "tickets" "I") (List.mem_of_getElem? (i := 3) rfl)) (fun _ h9 => h9) rfl dX2_copyFrom_42 ?_
  have hFc := va_free (wc := [(cu, .inr (1, [.int ln2, .int bs2, .int tk2, .int lw2, .int li2, .ref fa, .ref lu])), (fa, .inl (cF, nf, .inr (.inl ff))), (lu, .inl (cL, nl, .inl fl))]) hD hS hA [0, 1, 2] rfl
  refine W.know (fun hkn => ?_)
  refine va_callv (va_runV (As := [.int tk2]) (rest := []) ⟨hx, hb, hml, hown, hts⟩ (kX2_makeRoom l dC dI cu ln2 bs2 tk2 lw2 li2 fa lu cF nf ff cL nl fl tk2 ((cc)) (H.size) b_ln2 b_bs2 (rg_w b_tk2 (by decide) (by decide)) b_lw2 b_tk2 (by omega) (by omega) (hrk2.sz)) (cwV 1 hts gX2_copyFrom__X2_makeRoom_V45 rfl rfl rfl hd_yX2_makeRoom ⟨lel 1 1 rfl, lel 21 64 rfl⟩) ⟨hg_fb, rcv_X2 hK hP (q0 := 0) rfl, (hg_use hP hD hK hN [0, 1, 2] rfl (by decide) rfl [0, 1] rfl (by omega))⟩ rfl rfl hl.1 rfl (lv_room (Nat.le_of_ble_eq_true rfl)) dX2_copyFrom_45 ⟨lel 2 2 rfl, lel 40000 40000 rfl⟩) hS (fun q _ h => hFc q h) hFc (fun u_19 t H1 locs ht hvm hw_r_18 hB hz1 hk1 hS => ?_)
  obtain ⟨o0_20, o1_21, o2_22, o3_23, o4_24, o5_25, o6_26, o7_27, hf_28, hf_29, hf_30, hf_31, htt, hP1, hK1, hD1⟩ := hB
  rw [ht] at hP1 htt
  have hK1 := va_K.moved hvm.symm hK1
  obtain ⟨hP, hD⟩ := va_join (wr := [(cv, .inr (1, [.int ln2, .int bs2, .int tk2, .int lw2, .int li2, .ref fa2, .ref lu2])), (fa2, .inl (cF2, nf2, .inr (.inl ff2))), (lu2, .inl (cL2, nl2, .inl fl2))]) (w1 := [(cu, .inr (1, [.int ln2, .int bs2, .int tk2, .int lw2, .int li2, .ref o0_20, .ref o4_24])), (o0_20, .inl (o1_21, o2_22, .inr (.inl o3_23))), (o4_24, .inl (o5_25, o6_26, .inl o7_27))]) hP hD [0, 1, 2] [3, 4, 5] rfl rfl (by decide) (by decide) hk1 hFc hP1 hD1
  have hK := (hK.sub (tys' := [(cF2, .long), (cL2, .int)]) [2, 3] rfl).app hK1
  generalize H1 = H at hP hS htt ⊢
  have hP : va_P (dC, dI) vwCl [(cv, .inr (1, [.int ln2, .int bs2, .int tk2, .int lw2, .int li2, .ref fa2, .ref lu2])), (fa2, .inl (cF2, nf2, .inr (.inl ff2))), (lu2, .inl (cL2, nl2, .inl fl2)), (cu, .inr (1, [.int ln2, .int bs2, .int tk2, .int lw2, .int li2, .ref o0_20, .ref o4_24])), (o0_20, .inl (o1_21, o2_22, .inr (.inl o3_23))), (o4_24, .inl (o5_25, o6_26, .inl o7_27))] H := hP
  have hD : va_D A [(cv, .inr (1, [.int ln2, .int bs2, .int tk2, .int lw2, .int li2, .ref fa2, .ref lu2])), (fa2, .inl (cF2, nf2, .inr (.inl ff2))), (lu2, .inl (cL2, nl2, .inl fl2)), (cu, .inr (1, [.int ln2, .int bs2, .int tk2, .int lw2, .int li2, .ref o0_20, .ref o4_24])), (o0_20, .inl (o1_21, o2_22, .inr (.inl o3_23))), (o4_24, .inl (o5_25, o6_26, .inl o7_27))] := hD
  have hK : va_K (dC, dI) vwCl [(cF2, .long), (cL2, .int), (o1_21, .long), (o5_25, .int)] s := hK
  refine W.know (fun hkn => ?_)
  obtain ⟨gg_32, hq_gg_32⟩ := hgg_ex (tot H) (tot s.heap)
  refine W.tight (n := gg_32) (by omega) ?_
  refine W.widen (k := 2) (n := gg_32) (lel _ _ rfl) (Nat.le_refl _) ?_
  have hgt_gg_32 : gg_32 ≤ 40000 ∧ tot s.heap + gg_32 + (2 * pot o2_22) ≤ cc := by omega
  refine lv_aload_n hx hb dX2_copyFrom_48 rfl (lv_at hl 1 rfl) ?_
  refine va_get (D := (dC, dI)) (ci := 1) (v := .ref fa2) (C := RX2) (T := TX2) (N := 7) hx hb hts iX2_copyFrom_X2 hown hK hP 0 rfl rfl 5 (by decide) (hts (.fieldLink RX2 9 "LuckyTicket$Roll" "faces" "[J") (List.mem_of_getElem? (i := 10) rfl)) (fun _ h9 => h9) rfl dX2_copyFrom_49 ?_
  refine lv_iconst (v := 0) hx hb dX2_copyFrom_52 (by decide) ?_
  refine lv_aload_n hx hb dX2_copyFrom_53 rfl (lv_at hl 0 rfl) ?_
  refine va_get (D := (dC, dI)) (ci := 1) (v := .ref o0_20) (C := RX2) (T := TX2) (N := 7) hx hb hts iX2_copyFrom_X2 hown hK hP 3 rfl rfl 5 (by decide) (hts (.fieldLink RX2 9 "LuckyTicket$Roll" "faces" "[J") (List.mem_of_getElem? (i := 10) rfl)) (fun _ h9 => h9) rfl dX2_copyFrom_54 ?_
  refine lv_iconst (v := 0) hx hb dX2_copyFrom_57 (by decide) ?_
  refine lv_aload_n hx hb dX2_copyFrom_58 rfl (lv_at hl 0 rfl) ?_
  refine va_get (D := (dC, dI)) (ci := 1) (v := .int tk2) (C := RX2) (T := TX2) (N := 7) hx hb hts iX2_copyFrom_X2 hown hK hP 3 rfl rfl 2 (by decide) (hts (.fieldLink RX2 42 "LuckyTicket$Roll" "tickets" "I") (List.mem_of_getElem? (i := 3) rfl)) (fun _ h9 => h9) rfl dX2_copyFrom_59 ?_
  refine va_copyl (ty := .long) hx hb (hml.trans hl.1.symm) hown (hts (.methodLink RX2 53 arraycopyName) (List.mem_of_getElem? (i := 11) rfl)) (hts (.native arraycopyName) (List.mem_of_getElem? (i := 12) rfl)) (hts (.static arraycopyName) (List.mem_of_getElem? (i := 13) rfl)) (hts (.initialized RJ10) (List.mem_of_getElem? (i := 14) rfl)) hK hP hD hS 1 4 0 2 rfl rfl rfl rfl rfl (ti_nn (by have q := (by decide : (0 : Int) ≤ (0 : Int32).toInt ∧ (0 : Int32).toInt ≤ 0); omega)) (ti_nn (by have q := (by decide : (0 : Int) ≤ (0 : Int32).toInt ∧ (0 : Int32).toInt ≤ 0); omega)) (ti_nn (by have q := b_tk2; omega)) (cp_le (by have q := (by decide : (0 : Int) ≤ (0 : Int32).toInt ∧ (0 : Int32).toInt ≤ 0); omega) (by have q := b_tk2; omega) (by have q1 := (by decide : (0 : Int) ≤ (0 : Int32).toInt ∧ (0 : Int32).toInt ≤ 0); have q2 := b_tk2; omega)) (cp_le (by have q := (by decide : (0 : Int) ≤ (0 : Int32).toInt ∧ (0 : Int32).toInt ≤ 0); omega) (by have q := b_tk2; omega) (by have q1 := (by decide : (0 : Int) ≤ (0 : Int32).toInt ∧ (0 : Int32).toInt ≤ 0); have q2 := b_tk2; omega)) (fun _ _ => rfl) (lel 1 1 rfl) (Nat.le_of_ble_eq_true rfl) dX2_copyFrom_62 (fun H locs hP hD hS => ?_)
  have hP : va_P (dC, dI) vwCl [(cv, .inr (1, [.int ln2, .int bs2, .int tk2, .int lw2, .int li2, .ref fa2, .ref lu2])), (fa2, .inl (cF2, nf2, .inr (.inl ff2))), (lu2, .inl (cL2, nl2, .inl fl2)), (cu, .inr (1, [.int ln2, .int bs2, .int tk2, .int lw2, .int li2, .ref o0_20, .ref o4_24])), (o0_20, .inl (o1_21, o2_22, .inr (.inl (va_cpy ff2 o3_23 (0 : Int32).toNatClampNeg (0 : Int32).toNatClampNeg (tk2 : Int32).toNatClampNeg)))), (o4_24, .inl (o5_25, o6_26, .inl o7_27))] H := hP
  have hD : va_D A [(cv, .inr (1, [.int ln2, .int bs2, .int tk2, .int lw2, .int li2, .ref fa2, .ref lu2])), (fa2, .inl (cF2, nf2, .inr (.inl ff2))), (lu2, .inl (cL2, nl2, .inl fl2)), (cu, .inr (1, [.int ln2, .int bs2, .int tk2, .int lw2, .int li2, .ref o0_20, .ref o4_24])), (o0_20, .inl (o1_21, o2_22, .inr (.inl (va_cpy ff2 o3_23 (0 : Int32).toNatClampNeg (0 : Int32).toNatClampNeg (tk2 : Int32).toNatClampNeg)))), (o4_24, .inl (o5_25, o6_26, .inl o7_27))] := hD
  generalize (va_cpy ff2 o3_23 (0 : Int32).toNatClampNeg (0 : Int32).toNatClampNeg (tk2 : Int32).toNatClampNeg) = f_33 at hP hD
  have hP : va_P (dC, dI) vwCl [(cv, .inr (1, [.int ln2, .int bs2, .int tk2, .int lw2, .int li2, .ref fa2, .ref lu2])), (fa2, .inl (cF2, nf2, .inr (.inl ff2))), (lu2, .inl (cL2, nl2, .inl fl2)), (cu, .inr (1, [.int ln2, .int bs2, .int tk2, .int lw2, .int li2, .ref o0_20, .ref o4_24])), (o0_20, .inl (o1_21, o2_22, .inr (.inl f_33))), (o4_24, .inl (o5_25, o6_26, .inl o7_27))] H := hP
  have hD : va_D A [(cv, .inr (1, [.int ln2, .int bs2, .int tk2, .int lw2, .int li2, .ref fa2, .ref lu2])), (fa2, .inl (cF2, nf2, .inr (.inl ff2))), (lu2, .inl (cL2, nl2, .inl fl2)), (cu, .inr (1, [.int ln2, .int bs2, .int tk2, .int lw2, .int li2, .ref o0_20, .ref o4_24])), (o0_20, .inl (o1_21, o2_22, .inr (.inl f_33))), (o4_24, .inl (o5_25, o6_26, .inl o7_27))] := hD
  refine lv_aload_n hx hb dX2_copyFrom_65 rfl (lv_at hl 1 rfl) ?_
  refine va_get (D := (dC, dI)) (ci := 1) (v := .ref lu2) (C := RX2) (T := TX2) (N := 7) hx hb hts iX2_copyFrom_X2 hown hK hP 0 rfl rfl 6 (by decide) (hts (.fieldLink RX2 15 "LuckyTicket$Roll" "luck" "[I") (List.mem_of_getElem? (i := 15) rfl)) (fun _ h9 => h9) rfl dX2_copyFrom_66 ?_
  refine lv_iconst (v := 0) hx hb dX2_copyFrom_69 (by decide) ?_
  refine lv_aload_n hx hb dX2_copyFrom_70 rfl (lv_at hl 0 rfl) ?_
  refine va_get (D := (dC, dI)) (ci := 1) (v := .ref o4_24) (C := RX2) (T := TX2) (N := 7) hx hb hts iX2_copyFrom_X2 hown hK hP 3 rfl rfl 6 (by decide) (hts (.fieldLink RX2 15 "LuckyTicket$Roll" "luck" "[I") (List.mem_of_getElem? (i := 15) rfl)) (fun _ h9 => h9) rfl dX2_copyFrom_71 ?_
  refine lv_iconst (v := 0) hx hb dX2_copyFrom_74 (by decide) ?_
  refine lv_aload_n hx hb dX2_copyFrom_75 rfl (lv_at hl 0 rfl) ?_
  refine va_get (D := (dC, dI)) (ci := 1) (v := .int tk2) (C := RX2) (T := TX2) (N := 7) hx hb hts iX2_copyFrom_X2 hown hK hP 3 rfl rfl 2 (by decide) (hts (.fieldLink RX2 42 "LuckyTicket$Roll" "tickets" "I") (List.mem_of_getElem? (i := 3) rfl)) (fun _ h9 => h9) rfl dX2_copyFrom_76 ?_
  refine va_copyi (ty := .int) hx hb (hml.trans hl.1.symm) hown (hts (.methodLink RX2 53 arraycopyName) (List.mem_of_getElem? (i := 11) rfl)) (hts (.native arraycopyName) (List.mem_of_getElem? (i := 12) rfl)) (hts (.static arraycopyName) (List.mem_of_getElem? (i := 13) rfl)) (hts (.initialized RJ10) (List.mem_of_getElem? (i := 14) rfl)) hK hP hD hS 2 5 1 3 rfl rfl rfl rfl rfl (ti_nn (by have q := (by decide : (0 : Int) ≤ (0 : Int32).toInt ∧ (0 : Int32).toInt ≤ 0); omega)) (ti_nn (by have q := (by decide : (0 : Int) ≤ (0 : Int32).toInt ∧ (0 : Int32).toInt ≤ 0); omega)) (ti_nn (by have q := b_tk2; omega)) (cp_le (by have q := (by decide : (0 : Int) ≤ (0 : Int32).toInt ∧ (0 : Int32).toInt ≤ 0); omega) (by have q := b_tk2; omega) (by have q1 := (by decide : (0 : Int) ≤ (0 : Int32).toInt ∧ (0 : Int32).toInt ≤ 0); have q2 := b_tk2; omega)) (cp_le (by have q := (by decide : (0 : Int) ≤ (0 : Int32).toInt ∧ (0 : Int32).toInt ≤ 0); omega) (by have q := b_tk2; omega) (by have q1 := (by decide : (0 : Int) ≤ (0 : Int32).toInt ∧ (0 : Int32).toInt ≤ 0); have q2 := b_tk2; omega)) (fun _ _ => rfl) (lel 1 1 rfl) (Nat.le_of_ble_eq_true rfl) dX2_copyFrom_79 (fun H locs hP hD hS => ?_)
  have hP : va_P (dC, dI) vwCl [(cv, .inr (1, [.int ln2, .int bs2, .int tk2, .int lw2, .int li2, .ref fa2, .ref lu2])), (fa2, .inl (cF2, nf2, .inr (.inl ff2))), (lu2, .inl (cL2, nl2, .inl fl2)), (cu, .inr (1, [.int ln2, .int bs2, .int tk2, .int lw2, .int li2, .ref o0_20, .ref o4_24])), (o0_20, .inl (o1_21, o2_22, .inr (.inl f_33))), (o4_24, .inl (o5_25, o6_26, .inl (va_cpy fl2 o7_27 (0 : Int32).toNatClampNeg (0 : Int32).toNatClampNeg (tk2 : Int32).toNatClampNeg)))] H := hP
  have hD : va_D A [(cv, .inr (1, [.int ln2, .int bs2, .int tk2, .int lw2, .int li2, .ref fa2, .ref lu2])), (fa2, .inl (cF2, nf2, .inr (.inl ff2))), (lu2, .inl (cL2, nl2, .inl fl2)), (cu, .inr (1, [.int ln2, .int bs2, .int tk2, .int lw2, .int li2, .ref o0_20, .ref o4_24])), (o0_20, .inl (o1_21, o2_22, .inr (.inl f_33))), (o4_24, .inl (o5_25, o6_26, .inl (va_cpy fl2 o7_27 (0 : Int32).toNatClampNeg (0 : Int32).toNatClampNeg (tk2 : Int32).toNatClampNeg)))] := hD
  generalize (va_cpy fl2 o7_27 (0 : Int32).toNatClampNeg (0 : Int32).toNatClampNeg (tk2 : Int32).toNatClampNeg) = f_34 at hP hD
  have hP : va_P (dC, dI) vwCl [(cv, .inr (1, [.int ln2, .int bs2, .int tk2, .int lw2, .int li2, .ref fa2, .ref lu2])), (fa2, .inl (cF2, nf2, .inr (.inl ff2))), (lu2, .inl (cL2, nl2, .inl fl2)), (cu, .inr (1, [.int ln2, .int bs2, .int tk2, .int lw2, .int li2, .ref o0_20, .ref o4_24])), (o0_20, .inl (o1_21, o2_22, .inr (.inl f_33))), (o4_24, .inl (o5_25, o6_26, .inl f_34))] H := hP
  have hD : va_D A [(cv, .inr (1, [.int ln2, .int bs2, .int tk2, .int lw2, .int li2, .ref fa2, .ref lu2])), (fa2, .inl (cF2, nf2, .inr (.inl ff2))), (lu2, .inl (cL2, nl2, .inl fl2)), (cu, .inr (1, [.int ln2, .int bs2, .int tk2, .int lw2, .int li2, .ref o0_20, .ref o4_24])), (o0_20, .inl (o1_21, o2_22, .inr (.inl f_33))), (o4_24, .inl (o5_25, o6_26, .inl f_34))] := hD
  have hP9 := hP.sub (ws' := [(cu, .inr (1, [.int ln2, .int bs2, .int tk2, .int lw2, .int li2, .ref o0_20, .ref o4_24])), (o0_20, .inl (o1_21, o2_22, .inr (.inl f_33))), (o4_24, .inl (o5_25, o6_26, .inl f_34)), (cv, .inr (1, [.int ln2, .int bs2, .int tk2, .int lw2, .int li2, .ref fa2, .ref lu2])), (fa2, .inl (cF2, nf2, .inr (.inl ff2))), (lu2, .inl (cL2, nl2, .inl fl2))]) [3, 4, 5, 0, 1, 2] rfl
  have hD9 := hD.sub (ws' := [(cu, .inr (1, [.int ln2, .int bs2, .int tk2, .int lw2, .int li2, .ref o0_20, .ref o4_24])), (o0_20, .inl (o1_21, o2_22, .inr (.inl f_33))), (o4_24, .inl (o5_25, o6_26, .inl f_34)), (cv, .inr (1, [.int ln2, .int bs2, .int tk2, .int lw2, .int li2, .ref fa2, .ref lu2])), (fa2, .inl (cF2, nf2, .inr (.inl ff2))), (lu2, .inl (cL2, nl2, .inl fl2))]) [3, 4, 5, 0, 1, 2] (by decide) rfl
  have hK9 := hK.sub (tys' := [(o1_21, .long), (o5_25, .int), (cF2, .long), (cL2, .int)]) [2, 3, 0, 1] rfl
  refine W.know (fun hkn => ?_)
  have htt9 : tot H + (2 * pot o2_22) ≤ cc := by omega
  refine W.widen (k := 2) (n := 40000) (lel _ _ rfl) (by omega) ?_
  exact W.vret hx hb hr (fun t ht hW => ⟨⟨(), rfl, trivial, ln2, bs2, tk2, lw2, li2, o0_20, o1_21, o2_22, f_33, o4_24, o5_25, o6_26, f_34, b_ln2, b_bs2, b_tk2, b_lw2, (by omega), (by omega), (hrk2), (by omega), (by rw [ht]; exact htt9), by rw [ht]; exact hP9, va_K.moved hW.alike hK9, hD9⟩, hS.F ht⟩) hS.2.2 dX2_copyFrom_82
