theorem updL1 {f : Nat → Int64} {i : Nat} {x : Int64} (hi : i < 2 ^ 31) (h : ∀ j, j < i → f j = x) : ∀ j, j < i + 1 → vp_updL f (nI i).toNatClampNeg x j = x := by
  intro j hj
  rw [nI_clamp hi]
  by_cases e : j = i
  · rw [e, pk_uLs]
  · rw [pk_uLn e]; exact h j (by omega)
theorem dJ7_fill_d0a16_0 : decode cJ7_fill_d0a16 0 = .ok (.iconst 0, 1) := by decide +kernel
theorem dJ7_fill_d0a16_1 : decode cJ7_fill_d0a16 1 = .ok (.istore_n 3, 1) := by decide +kernel
theorem dJ7_fill_d0a16_2 : decode cJ7_fill_d0a16 2 = .ok (.aload_n 0, 1) := by decide +kernel
theorem dJ7_fill_d0a16_3 : decode cJ7_fill_d0a16 3 = .ok (.arraylength, 1) := by decide +kernel
theorem dJ7_fill_d0a16_4 : decode cJ7_fill_d0a16 4 = .ok (.istore 4, 2) := by decide +kernel
theorem dJ7_fill_d0a16_6 : decode cJ7_fill_d0a16 6 = .ok (.iload_n 3, 1) := by decide +kernel
theorem dJ7_fill_d0a16_7 : decode cJ7_fill_d0a16 7 = .ok (.iload 4, 2) := by decide +kernel
theorem dJ7_fill_d0a16_9 : decode cJ7_fill_d0a16 9 = .ok (.if_icmp .ge 13, 3) := by decide +kernel
theorem dJ7_fill_d0a16_12 : decode cJ7_fill_d0a16 12 = .ok (.aload_n 0, 1) := by decide +kernel
theorem dJ7_fill_d0a16_13 : decode cJ7_fill_d0a16 13 = .ok (.iload_n 3, 1) := by decide +kernel
theorem dJ7_fill_d0a16_14 : decode cJ7_fill_d0a16 14 = .ok (.lload_n 1, 1) := by decide +kernel
theorem dJ7_fill_d0a16_15 : decode cJ7_fill_d0a16 15 = .ok (.lastore, 1) := by decide +kernel
theorem dJ7_fill_d0a16_16 : decode cJ7_fill_d0a16 16 = .ok (.iinc 3 1, 3) := by decide +kernel
theorem dJ7_fill_d0a16_19 : decode cJ7_fill_d0a16 19 = .ok (.goto (-13), 3) := by decide +kernel
theorem dJ7_fill_d0a16_22 : decode cJ7_fill_d0a16 22 = .ok (.return_, 1) := by decide +kernel
def uJ7_fill_60 : List Cond := .code yJ7_fill_d0a16 cJ7_fill_d0a16 5 none :: ([])
set_option maxHeartbeats 4000000 in
set_option maxRecDepth 100000 in
theorem kJ7_fill_60 (l : Launch) (dC : Nat → ClassId) (dI : Nat → Nat → Nat) (ar : Nat) (cJ : ClassId) (f : Nat → Int64) (v1 : Int64) (sz : Nat) : Met l yJ7_fill_d0a16 uJ7_fill_60 ({ frames := 0, cells := 0, slots := 0, locals := 0 }) (va_Pc [.ref ar, .long v1] (hw (dC, dI) vwCl [(ar, .inl (cJ, 60, .inr (.inl f)))] [(cJ, .long)] sz)) (va_Qv (fun (_ : Unit) => True) (fun (_ : Unit) t => ∃ (f2 : Nat → Int64), (∀ j, j < 60 → f2 j = v1) ∧ va_P (dC, dI) vwCl [(ar, .inl (cJ, 60, .inr (.inl f2)))] t.heap ∧ va_K (dC, dI) vwCl [(cJ, .long)] t ∧ va_D (va_A [(ar, .inl (cJ, 60, .inr (.inl f)))] sz) [(ar, .inl (cJ, 60, .inr (.inl f2)))]) (va_A [(ar, .inl (cJ, 60, .inr (.inl f)))] sz)) 0 0 (va_A [(ar, .inl (cJ, 60, .inr (.inl f)))] sz) := by
  refine Met.ofW (cc := cJ7_fill_d0a16) (maxL := 5) (ret := none) (by decide) rfl ?_
  intro p e s m args below meth c s₁ B hml hv
  obtain ⟨rfl, hsz, hP, hK, hD0, hN⟩ := hv
  have hx := B.exec
  have hb := B.bytes
  have hr := B.returns
  have hts := atoms_spec (ws := uJ7_fill_60) B.pre
  have hown : s.vm.findClass RJ7 = some m.cls := findClass_of_methodNamed B.named
  have hlocks := B.notSynchronized
  subst hsz
  have hD := hD0.self (sz := s.heap.size)
  generalize hAe : va_A [(ar, .inl (cJ, 60, .inr (.inl f)))] s.heap.size = A at hD ⊢
  have hA : ∀ q : Nat, s.heap.size ≤ q → A q := fun q h => by rw [← hAe]; exact Or.inr h
  have hS : va_S A s.heap s.heap [] := va_S.rf
  have hP : va_P (dC, dI) vwCl [(ar, .inl (cJ, 60, .inr (.inl f)))] s.heap := hP
  have hl := lv_entry ([.ref ar, .long v1]) (n := 5) (Nat.le_of_ble_eq_true rfl)
  rw [lg_entry_eq]
  generalize (lg_sl ([.ref ar, .long v1]) ++ List.replicate (5 - (lg_sl ([.ref ar, .long v1])).length) Slot.unset).toArray = ls at hl ⊢
  have hl : lv_has ls 5 [(0, .ref ar), (1, .long v1)] := hl
  refine lv_iconst (v := 0) hx hb dJ7_fill_d0a16_0 (by decide) ?_
  refine lv_istore_n (lv' := [(3, .int 0), (0, .ref ar), (1, .long v1)]) hx hb dJ7_fill_d0a16_1 rfl hl (by decide) rfl (fun ls hl => ?_)
  refine lv_aload_n hx hb dJ7_fill_d0a16_2 rfl (lv_at hl 1 rfl) ?_
  refine va_alen (v := 60) hx hb hK hP 0 0 rfl rfl (by rfl) dJ7_fill_d0a16_3 ?_
  refine lv_istore (lv' := [(4, .int 60), (3, .int 0), (0, .ref ar), (1, .long v1)]) hx hb dJ7_fill_d0a16_4 hl (by decide) rfl (fun ls hl => ?_)
  refine loopW (σ := Nat × (Nat → Int64)) (fun v => 60 - v.1) (fun v H locs ls => (v.1 ≤ 60) ∧ (∀ j, j < v.1 → v.2 j = v1) ∧ va_P (dC, dI) vwCl [(ar, .inl (cJ, 60, .inr (.inl v.2)))] H ∧ va_D A [(ar, .inl (cJ, 60, .inr (.inl v.2)))] ∧ va_S A s.heap H locs ∧ lv_has ls 5 [(4, .int 60), (3, .int (nI v.1)), (0, .ref ar), (1, .long v1)]) (fun v H locs ls hI ih => ?_) (0, f) ⟨(show 0 ≤ 60 from Nat.zero_le _), (show ∀ j, j < 0 → f j = v1 from (fun j hj => absurd hj (Nat.not_lt_zero j))), hP, hD, hS, hl⟩
  obtain ⟨i, f1⟩ := v
  obtain ⟨hi, hfi, hP, hD, hS, hl⟩ := hI
  have hi : i ≤ 60 := hi
  have hfi : ∀ j, j < i → f1 j = v1 := hfi
  have hP : va_P (dC, dI) vwCl [(ar, .inl (cJ, 60, .inr (.inl f1)))] H := hP
  have hD : va_D A [(ar, .inl (cJ, 60, .inr (.inl f1)))] := hD
  have hl : lv_has ls 5 [(4, .int 60), (3, .int (nI i)), (0, .ref ar), (1, .long v1)] := hl
  refine lv_iload_n hx hb dJ7_fill_d0a16_6 rfl (lv_at hl 1 rfl) ?_
  refine lv_iload hx hb dJ7_fill_d0a16_7 (lv_at hl 0 rfl) ?_
  refine lv_icmp_ge (tgt := 22) hx hb dJ7_fill_d0a16_9 (by decide) (fun c_1 => ?_) (fun c_1 => ?_)
  ·
    have hge : 60 ≤ i := (nI_leI (a := 60) (b := i) (by decide) (by omega)).mp c_1
    have hP9 := hP.sub (ws' := [(ar, .inl (cJ, 60, .inr (.inl f1)))]) [0] rfl
    have hD9 := hD.sub (ws' := [(ar, .inl (cJ, 60, .inr (.inl f1)))]) [0] (by decide) rfl
    have hK9 := hK.sub (tys' := [(cJ, .long)]) [0] rfl
    exact W.vret hx hb hr (fun t ht hW => ⟨⟨(), rfl, trivial, f1, (fun j hj => hfi j (Nat.lt_of_lt_of_le hj hge)), by rw [ht]; exact hP9, va_K.moved hW.alike hK9, hD9⟩, hS.F ht⟩) hS.2.2 dJ7_fill_d0a16_22
  ·
    have hlt : i < 60 := Nat.lt_of_not_le (fun q => c_1 ((nI_leI (a := 60) (b := i) (by decide) (by omega)).mpr q))
    refine lv_aload_n hx hb dJ7_fill_d0a16_12 rfl (lv_at hl 2 rfl) ?_
    refine lv_iload_n hx hb dJ7_fill_d0a16_13 rfl (lv_at hl 1 rfl) ?_
    refine lv_lload_n hx hb dJ7_fill_d0a16_14 rfl (lv_at hl 3 rfl) ?_
    refine va_last hx hb hK hP hD hS 0 0 rfl rfl (vp_in_nI hlt (by decide)) dJ7_fill_d0a16_15 (fun H locs hP hD hS => ?_)
    have hP : va_P (dC, dI) vwCl [(ar, .inl (cJ, 60, .inr (.inl (vp_updL f1 ((nI i) : Int32).toNatClampNeg v1))))] H := hP
    have hD : va_D A [(ar, .inl (cJ, 60, .inr (.inl (vp_updL f1 ((nI i) : Int32).toNatClampNeg v1))))] := hD
    obtain ⟨z_2, ez_2⟩ : ∃ y : Int32, y = nI i + 1 := ⟨_, rfl⟩
    refine lv_iinc (v := z_2) (lv' := [(3, .int z_2), (4, .int 60), (0, .ref ar), (1, .long v1)]) hx hb dJ7_fill_d0a16_16 hl (k := 1) rfl (by rw [ez_2]; rfl) (by decide) rfl (fun ls hl => ?_)
    refine lv_goto (tgt := 6) hx hb dJ7_fill_d0a16_19 (by decide) ?_
    obtain rfl : z_2 = nI (i + 1) := ez_2.trans (nI_1 i)
    exact ih (i + 1, vp_updL f1 ((nI i) : Int32).toNatClampNeg v1) _ _ _ ⟨(show (i + 1) ≤ 60 from hlt), (show ∀ j, j < (i + 1) → (vp_updL f1 ((nI i) : Int32).toNatClampNeg v1) j = v1 from updL1 (by omega) hfi), hP, hD, hS, lv_sub hl [1, 0, 2, 3] rfl⟩ (show 60 - (i + 1) < 60 - i by omega)
def uJ7_fill_181 : List Cond := .code yJ7_fill_d0a16 cJ7_fill_d0a16 5 none :: ([])
set_option maxHeartbeats 4000000 in
set_option maxRecDepth 100000 in
theorem kJ7_fill_181 (l : Launch) (dC : Nat → ClassId) (dI : Nat → Nat → Nat) (ar : Nat) (cJ : ClassId) (f : Nat → Int64) (v1 : Int64) (sz : Nat) : Met l yJ7_fill_d0a16 uJ7_fill_181 ({ frames := 0, cells := 0, slots := 0, locals := 0 }) (va_Pc [.ref ar, .long v1] (hw (dC, dI) vwCl [(ar, .inl (cJ, 181, .inr (.inl f)))] [(cJ, .long)] sz)) (va_Qv (fun (_ : Unit) => True) (fun (_ : Unit) t => ∃ (f2 : Nat → Int64), (∀ j, j < 181 → f2 j = v1) ∧ va_P (dC, dI) vwCl [(ar, .inl (cJ, 181, .inr (.inl f2)))] t.heap ∧ va_K (dC, dI) vwCl [(cJ, .long)] t ∧ va_D (va_A [(ar, .inl (cJ, 181, .inr (.inl f)))] sz) [(ar, .inl (cJ, 181, .inr (.inl f2)))]) (va_A [(ar, .inl (cJ, 181, .inr (.inl f)))] sz)) 0 0 (va_A [(ar, .inl (cJ, 181, .inr (.inl f)))] sz) := by
  refine Met.ofW (cc := cJ7_fill_d0a16) (maxL := 5) (ret := none) (by decide) rfl ?_
  intro p e s m args below meth c s₁ B hml hv
  obtain ⟨rfl, hsz, hP, hK, hD0, hN⟩ := hv
  have hx := B.exec
  have hb := B.bytes
  have hr := B.returns
  have hts := atoms_spec (ws := uJ7_fill_181) B.pre
  have hown : s.vm.findClass RJ7 = some m.cls := findClass_of_methodNamed B.named
  have hlocks := B.notSynchronized
  subst hsz
  have hD := hD0.self (sz := s.heap.size)
  generalize hAe : va_A [(ar, .inl (cJ, 181, .inr (.inl f)))] s.heap.size = A at hD ⊢
  have hA : ∀ q : Nat, s.heap.size ≤ q → A q := fun q h => by rw [← hAe]; exact Or.inr h
  have hS : va_S A s.heap s.heap [] := va_S.rf
  have hP : va_P (dC, dI) vwCl [(ar, .inl (cJ, 181, .inr (.inl f)))] s.heap := hP
  have hl := lv_entry ([.ref ar, .long v1]) (n := 5) (Nat.le_of_ble_eq_true rfl)
  rw [lg_entry_eq]
  generalize (lg_sl ([.ref ar, .long v1]) ++ List.replicate (5 - (lg_sl ([.ref ar, .long v1])).length) Slot.unset).toArray = ls at hl ⊢
  have hl : lv_has ls 5 [(0, .ref ar), (1, .long v1)] := hl
  refine lv_iconst (v := 0) hx hb dJ7_fill_d0a16_0 (by decide) ?_
  refine lv_istore_n (lv' := [(3, .int 0), (0, .ref ar), (1, .long v1)]) hx hb dJ7_fill_d0a16_1 rfl hl (by decide) rfl (fun ls hl => ?_)
  refine lv_aload_n hx hb dJ7_fill_d0a16_2 rfl (lv_at hl 1 rfl) ?_
  refine va_alen (v := 181) hx hb hK hP 0 0 rfl rfl (by rfl) dJ7_fill_d0a16_3 ?_
  refine lv_istore (lv' := [(4, .int 181), (3, .int 0), (0, .ref ar), (1, .long v1)]) hx hb dJ7_fill_d0a16_4 hl (by decide) rfl (fun ls hl => ?_)
  refine loopW (σ := Nat × (Nat → Int64)) (fun v => 181 - v.1) (fun v H locs ls => (v.1 ≤ 181) ∧ (∀ j, j < v.1 → v.2 j = v1) ∧ va_P (dC, dI) vwCl [(ar, .inl (cJ, 181, .inr (.inl v.2)))] H ∧ va_D A [(ar, .inl (cJ, 181, .inr (.inl v.2)))] ∧ va_S A s.heap H locs ∧ lv_has ls 5 [(4, .int 181), (3, .int (nI v.1)), (0, .ref ar), (1, .long v1)]) (fun v H locs ls hI ih => ?_) (0, f) ⟨(show 0 ≤ 181 from Nat.zero_le _), (show ∀ j, j < 0 → f j = v1 from (fun j hj => absurd hj (Nat.not_lt_zero j))), hP, hD, hS, hl⟩
  obtain ⟨i, f1⟩ := v
  obtain ⟨hi, hfi, hP, hD, hS, hl⟩ := hI
  have hi : i ≤ 181 := hi
  have hfi : ∀ j, j < i → f1 j = v1 := hfi
  have hP : va_P (dC, dI) vwCl [(ar, .inl (cJ, 181, .inr (.inl f1)))] H := hP
  have hD : va_D A [(ar, .inl (cJ, 181, .inr (.inl f1)))] := hD
  have hl : lv_has ls 5 [(4, .int 181), (3, .int (nI i)), (0, .ref ar), (1, .long v1)] := hl
  refine lv_iload_n hx hb dJ7_fill_d0a16_6 rfl (lv_at hl 1 rfl) ?_
  refine lv_iload hx hb dJ7_fill_d0a16_7 (lv_at hl 0 rfl) ?_
  refine lv_icmp_ge (tgt := 22) hx hb dJ7_fill_d0a16_9 (by decide) (fun c_1 => ?_) (fun c_1 => ?_)
  ·
    have hge : 181 ≤ i := (nI_leI (a := 181) (b := i) (by decide) (by omega)).mp c_1
    have hP9 := hP.sub (ws' := [(ar, .inl (cJ, 181, .inr (.inl f1)))]) [0] rfl
    have hD9 := hD.sub (ws' := [(ar, .inl (cJ, 181, .inr (.inl f1)))]) [0] (by decide) rfl
    have hK9 := hK.sub (tys' := [(cJ, .long)]) [0] rfl
    exact W.vret hx hb hr (fun t ht hW => ⟨⟨(), rfl, trivial, f1, (fun j hj => hfi j (Nat.lt_of_lt_of_le hj hge)), by rw [ht]; exact hP9, va_K.moved hW.alike hK9, hD9⟩, hS.F ht⟩) hS.2.2 dJ7_fill_d0a16_22
  ·
    have hlt : i < 181 := Nat.lt_of_not_le (fun q => c_1 ((nI_leI (a := 181) (b := i) (by decide) (by omega)).mpr q))
    refine lv_aload_n hx hb dJ7_fill_d0a16_12 rfl (lv_at hl 2 rfl) ?_
    refine lv_iload_n hx hb dJ7_fill_d0a16_13 rfl (lv_at hl 1 rfl) ?_
    refine lv_lload_n hx hb dJ7_fill_d0a16_14 rfl (lv_at hl 3 rfl) ?_
    refine va_last hx hb hK hP hD hS 0 0 rfl rfl (vp_in_nI hlt (by decide)) dJ7_fill_d0a16_15 (fun H locs hP hD hS => ?_)
    have hP : va_P (dC, dI) vwCl [(ar, .inl (cJ, 181, .inr (.inl (vp_updL f1 ((nI i) : Int32).toNatClampNeg v1))))] H := hP
    have hD : va_D A [(ar, .inl (cJ, 181, .inr (.inl (vp_updL f1 ((nI i) : Int32).toNatClampNeg v1))))] := hD
    obtain ⟨z_2, ez_2⟩ : ∃ y : Int32, y = nI i + 1 := ⟨_, rfl⟩
    refine lv_iinc (v := z_2) (lv' := [(3, .int z_2), (4, .int 181), (0, .ref ar), (1, .long v1)]) hx hb dJ7_fill_d0a16_16 hl (k := 1) rfl (by rw [ez_2]; rfl) (by decide) rfl (fun ls hl => ?_)
    refine lv_goto (tgt := 6) hx hb dJ7_fill_d0a16_19 (by decide) ?_
    obtain rfl : z_2 = nI (i + 1) := ez_2.trans (nI_1 i)
    exact ih (i + 1, vp_updL f1 ((nI i) : Int32).toNatClampNeg v1) _ _ _ ⟨(show (i + 1) ≤ 181 from hlt), (show ∀ j, j < (i + 1) → (vp_updL f1 ((nI i) : Int32).toNatClampNeg v1) j = v1 from updL1 (by omega) hfi), hP, hD, hS, lv_sub hl [1, 0, 2, 3] rfl⟩ (show 181 - (i + 1) < 181 - i by omega)
theorem dX3_begin_0 : decode cX3_begin 0 = .ok (.aload_n 0, 1) := by decide +kernel
theorem dX3_begin_1 : decode cX3_begin 1 = .ok (.iload_n 1, 1) := by decide +kernel
theorem dX3_begin_2 : decode cX3_begin 2 = .ok (.putfield 9, 3) := by decide +kernel
theorem dX3_begin_5 : decode cX3_begin 5 = .ok (.aload_n 0, 1) := by decide +kernel
theorem dX3_begin_6 : decode cX3_begin 6 = .ok (.iload_n 2, 1) := by decide +kernel
theorem dX3_begin_7 : decode cX3_begin 7 = .ok (.putfield 19, 3) := by decide +kernel
theorem dX3_begin_10 : decode cX3_begin 10 = .ok (.aload_n 0, 1) := by decide +kernel
theorem dX3_begin_11 : decode cX3_begin 11 = .ok (.getfield 15, 3) := by decide +kernel
theorem dX3_begin_14 : decode cX3_begin 14 = .ok (.lconst 0, 1) := by decide +kernel
theorem dX3_begin_15 : decode cX3_begin 15 = .ok (.invokestatic 22, 3) := by decide +kernel
theorem dX3_begin_18 : decode cX3_begin 18 = .ok (.return_, 1) := by decide +kernel
def uX3_begin : List Cond := .code yX3_begin cX3_begin 3 none :: ([.fieldLink RX3 9 "LuckyTicket$Row" "width" "I", .fieldLink RX3 19 "LuckyTicket$Row" "size" "I", .fieldLink RX3 15 "LuckyTicket$Row" "numbers" "[J", .methodLink RX3 22 yJ7_fill_d0a16, .static yJ7_fill_d0a16, .initialized RJ7, .code yJ7_fill_d0a16 cJ7_fill_d0a16 5 none] ++ wsX30)
theorem iX3_begin_X3 : ∀ w ∈ wsX30, w ∈ uX3_begin := fun _ h => List.mem_cons_of_mem _ (List.mem_append_right _ h)
set_option maxRecDepth 20000 in
theorem gX3_begin__J7_fill_60_S22 : GoodIn uX3_begin (va_wsS RX3 22 yJ7_fill_d0a16 uJ7_fill_60) := goodIn_p _ [7] rfl (by decide +kernel)
set_option maxHeartbeats 4000000 in
set_option maxRecDepth 100000 in
theorem kX3_begin (l : Launch) (dC : Nat → ClassId) (dI : Nat → Nat → Nat) (q0 : Nat) (nn : Nat) (cJ : ClassId) (f : Nat → Int64) (a1 : Int32) (a2 : Int32) (sz : Nat) : Met l yX3_begin uX3_begin ({ frames := 1, cells := 0, slots := 0, locals := 24 }) (va_Pc [.ref q0, .int a1, .int a2] (hw (dC, dI) vwCl [(q0, .inr (2, [.int (-1), .int 0, .ref nn])), (nn, .inl (cJ, 60, .inr (.inl f)))] [(cJ, .long)] sz)) (va_Qv (fun (_ : Unit) => True) (fun (_ : Unit) t => va_P (dC, dI) vwCl [] t.heap ∧ va_K (dC, dI) vwCl [] t ∧ va_D (va_A [(q0, .inr (2, [.int (-1), .int 0, .ref nn])), (nn, .inl (cJ, 60, .inr (.inl f)))] sz) []) (va_A [(q0, .inr (2, [.int (-1), .int 0, .ref nn])), (nn, .inl (cJ, 60, .inr (.inl f)))] sz)) 0 0 (va_A [(q0, .inr (2, [.int (-1), .int 0, .ref nn])), (nn, .inl (cJ, 60, .inr (.inl f)))] sz) := by
  refine Met.ofW (cc := cX3_begin) (maxL := 3) (ret := none) (by decide) rfl ?_
  intro p e s m args below meth c s₁ B hml hv
  obtain ⟨rfl, hsz, hP, hK, hD0, hN⟩ := hv
  have hx := B.exec
  have hb := B.bytes
  have hr := B.returns
  have hts := atoms_spec (ws := uX3_begin) B.pre
  have hown : s.vm.findClass RX3 = some m.cls := findClass_of_methodNamed B.named
  have hlocks := B.notSynchronized
  subst hsz
  have hD := hD0.self (sz := s.heap.size)
  generalize hAe : va_A [(q0, .inr (2, [.int (-1), .int 0, .ref nn])), (nn, .inl (cJ, 60, .inr (.inl f)))] s.heap.size = A at hD ⊢
  have hA : ∀ q : Nat, s.heap.size ≤ q → A q := fun q h => by rw [← hAe]; exact Or.inr h
  have hS : va_S A s.heap s.heap [] := va_S.rf
  have hP : va_P (dC, dI) vwCl [(q0, .inr (2, [.int (-1), .int 0, .ref nn])), (nn, .inl (cJ, 60, .inr (.inl f)))] s.heap := hP
  have hl := lv_entry ([.ref q0, .int a1, .int a2]) (n := 3) (Nat.le_of_ble_eq_true rfl)
  rw [lg_entry_eq]
  generalize (lg_sl ([.ref q0, .int a1, .int a2]) ++ List.replicate (3 - (lg_sl ([.ref q0, .int a1, .int a2])).length) Slot.unset).toArray = ls at hl ⊢
  have hl : lv_has ls 3 [(0, .ref q0), (1, .int a1), (2, .int a2)] := hl
  refine lv_aload_n hx hb dX3_begin_0 rfl (lv_at hl 0 rfl) ?_
  refine lv_iload_n hx hb dX3_begin_1 rfl (lv_at hl 1 rfl) ?_
  refine va_put (D := (dC, dI)) (ci := 2) (v := .int a1) (ty := .int) (C := RX3) (T := TX3) (N := 3) hx hb hts iX3_begin_X3 tyX3 tyX3_ok nmX3 hown hK hP hD hS 0 rfl rfl 0 (by decide) (hts (.fieldLink RX3 9 "LuckyTicket$Row" "width" "I") (List.mem_of_getElem? (i := 1) rfl)) (fun _ h9 => h9) rfl (by decide +kernel) rfl rfl (Nat.le_of_ble_eq_true rfl) dX3_begin_2 (fun H locs hP hD hS => ?_)
  have hP : va_P (dC, dI) vwCl [(q0, .inr (2, [.int a1, .int 0, .ref nn])), (nn, .inl (cJ, 60, .inr (.inl f)))] H := hP
  have hD : va_D A [(q0, .inr (2, [.int a1, .int 0, .ref nn])), (nn, .inl (cJ, 60, .inr (.inl f)))] := hD
  refine lv_aload_n hx hb dX3_begin_5 rfl (lv_at hl 0 rfl) ?_
  refine lv_iload_n hx hb dX3_begin_6 rfl (lv_at hl 2 rfl) ?_
  refine va_put (D := (dC, dI)) (ci := 2) (v := .int a2) (ty := .int) (C := RX3) (T := TX3) (N := 3) hx hb hts iX3_begin_X3 tyX3 tyX3_ok nmX3 hown hK hP hD hS 0 rfl rfl 1 (by decide) (hts (.fieldLink RX3 19 "LuckyTicket$Row" "size" "I") (List.mem_of_getElem? (i := 2) rfl)) (fun _ h9 => h9) rfl (by decide +kernel) rfl rfl (Nat.le_of_ble_eq_true rfl) dX3_begin_7 (fun H locs hP hD hS => ?_)
  have hP : va_P (dC, dI) vwCl [(q0, .inr (2, [.int a1, .int a2, .ref nn])), (nn, .inl (cJ, 60, .inr (.inl f)))] H := hP
  have hD : va_D A [(q0, .inr (2, [.int a1, .int a2, .ref nn])), (nn, .inl (cJ, 60, .inr (.inl f)))] := hD
  refine lv_aload_n hx hb dX3_begin_10 rfl (lv_at hl 0 rfl) ?_
  refine va_get (D := (dC, dI)) (ci := 2) (v := .ref nn) (C := RX3) (T := TX3) (N := 3) hx hb hts iX3_begin_X3 hown hK hP 0 rfl rfl 2 (by decide) (hts (.fieldLink RX3 15 "LuckyTicket$Row" "numbers" "[J") (List.mem_of_getElem? (i := 3) rfl)) (fun _ h9 => h9) rfl dX3_begin_11 ?_
  refine lv_lconst (v := 0) hx hb dX3_begin_14 (by decide) ?_
  have hFc := va_free (wc := [(nn, .inl (cJ, 60, .inr (.inl f)))]) hD hS hA [1] rfl
  refine va_callv (va_runS (As := [.ref nn, .long 0]) (rest := []) ⟨hx, hb, hml, hown, hts⟩ (kJ7_fill_60 l dC dI nn cJ f 0 (H.size)) (va_cwS 2 hts gX3_begin__J7_fill_60_S22 rfl rfl rfl (by decide +kernel) ⟨lel 1 1 rfl, lel 24 24 rfl⟩) ⟨hw_fb, (hw_use hP hD hK hN [1] rfl (by decide) rfl [0] rfl)⟩ rfl rfl hl.1 rfl (lv_room (Nat.le_of_ble_eq_true rfl)) dX3_begin_15 ⟨lel 0 0 rfl, lel 0 0 rfl⟩) hS (fun q _ h => hFc q h) hFc (fun u_2 t H1 locs ht hvm hwr_1 hB hz1 hk1 hS => ?_)
  obtain ⟨f2_3, hf_4, hP1, hK1, hD1⟩ := hB
  rw [ht] at hP1
  have hK1 := va_K.moved hvm.symm hK1
  obtain ⟨hP, hD⟩ := va_join (wr := [(q0, .inr (2, [.int a1, .int a2, .ref nn]))]) (w1 := [(nn, .inl (cJ, 60, .inr (.inl f2_3)))]) hP hD [1] [0] rfl rfl (by decide) (by decide) hk1 hFc hP1 hD1
  have hK := (hK.sub (tys' := []) [] rfl).app hK1
  generalize H1 = H at hP hS ⊢
  have hP : va_P (dC, dI) vwCl [(q0, .inr (2, [.int a1, .int a2, .ref nn])), (nn, .inl (cJ, 60, .inr (.inl f2_3)))] H := hP
  have hD : va_D A [(q0, .inr (2, [.int a1, .int a2, .ref nn])), (nn, .inl (cJ, 60, .inr (.inl f2_3)))] := hD
  have hK : va_K (dC, dI) vwCl [(cJ, .long)] s := hK
  have hP9 := hP.sub (ws' := []) [] rfl
  have hD9 := hD.sub (ws' := []) [] (by decide) rfl
  have hK9 := hK.sub (tys' := []) [] rfl
  exact W.vret hx hb hr (fun t ht hW => ⟨⟨(), rfl, trivial, by rw [ht]; exact hP9, va_K.moved hW.alike hK9, hD9⟩, hS.F ht⟩) hS.2.2 dX3_begin_18
theorem dX9_row_0 : decode cX9_row 0 = .ok (.aload_n 0, 1) := by decide +kernel
theorem dX9_row_1 : decode cX9_row 1 = .ok (.iload_n 1, 1) := by decide +kernel
theorem dX9_row_2 : decode cX9_row 2 = .ok (.invokevirtual 206, 3) := by decide +kernel
theorem dX9_row_5 : decode cX9_row 5 = .ok (.ifCond .eq 18, 3) := by decide +kernel
theorem dX9_row_8 : decode cX9_row 8 = .ok (.iload_n 2, 1) := by decide +kernel
theorem dX9_row_9 : decode cX9_row 9 = .ok (.iconst 0, 1) := by decide +kernel
theorem dX9_row_10 : decode cX9_row 10 = .ok (.iconst 3, 1) := by decide +kernel
theorem dX9_row_11 : decode cX9_row 11 = .ok (.invokestatic 158, 3) := by decide +kernel
theorem dX9_row_14 : decode cX9_row 14 = .ok (.ifCond .eq 9, 3) := by decide +kernel
theorem dX9_row_17 : decode cX9_row 17 = .ok (.iload_n 3, 1) := by decide +kernel
theorem dX9_row_18 : decode cX9_row 18 = .ok (.bipush 60, 2) := by decide +kernel
theorem dX9_row_20 : decode cX9_row 20 = .ok (.if_icmp .le 6, 3) := by decide +kernel
theorem dX9_row_23 : decode cX9_row 23 = .ok (.bipush (-2), 2) := by decide +kernel
theorem dX9_row_25 : decode cX9_row 25 = .ok (.ireturn, 1) := by decide +kernel
theorem dX9_row_26 : decode cX9_row 26 = .ok (.iload_n 3, 1) := by decide +kernel
theorem dX9_row_27 : decode cX9_row 27 = .ok (.ifCond .ge 6, 3) := by decide +kernel
theorem dX9_row_30 : decode cX9_row 30 = .ok (.bipush (-3), 2) := by decide +kernel
theorem dX9_row_32 : decode cX9_row 32 = .ok (.ireturn, 1) := by decide +kernel
theorem dX9_row_33 : decode cX9_row 33 = .ok (.aload_n 0, 1) := by decide +kernel
theorem dX9_row_34 : decode cX9_row 34 = .ok (.getfield 50, 3) := by decide +kernel
theorem dX9_row_37 : decode cX9_row 37 = .ok (.iload_n 1, 1) := by decide +kernel
theorem dX9_row_38 : decode cX9_row 38 = .ok (.aaload, 1) := by decide +kernel
theorem dX9_row_39 : decode cX9_row 39 = .ok (.iload_n 2, 1) := by decide +kernel
theorem dX9_row_40 : decode cX9_row 40 = .ok (.iload_n 3, 1) := by decide +kernel
theorem dX9_row_41 : decode cX9_row 41 = .ok (.invokevirtual 340, 3) := by decide +kernel
theorem dX9_row_44 : decode cX9_row 44 = .ok (.iconst 0, 1) := by decide +kernel
theorem dX9_row_45 : decode cX9_row 45 = .ok (.ireturn, 1) := by decide +kernel
def uX9_row : List Cond := .code yX9_row cX9_row 4 (some .int) :: ([.methodLink RX9 206 yX9_hasSlot, .instanceMethod yX9_hasSlot, .selects RX9 yX9_hasSlot yX9_hasSlot, .initialized RX9, .code yX9_hasSlot cX9_hasSlot 2 (some .boolean), .fieldLink RX9 50 "LuckyTicket" "slots" "[LLuckyTicket$Row;", .methodLink RX9 158 yX9_isWithin, .static yX9_isWithin, .code yX9_isWithin cX9_isWithin 3 (some .boolean), .methodLink RX9 340 yX3_begin, .instanceMethod yX3_begin, .selects RX3 yX3_begin yX3_begin, .initialized RX3, .code yX3_begin cX3_begin 3 none, .fieldLink RX3 9 "LuckyTicket$Row" "width" "I", .fieldLink RX3 19 "LuckyTicket$Row" "size" "I", .fieldLink RX3 15 "LuckyTicket$Row" "numbers" "[J", .methodLink RX3 22 yJ7_fill_d0a16, .static yJ7_fill_d0a16, .initialized RJ7, .code yJ7_fill_d0a16 cJ7_fill_d0a16 5 none] ++ wsX90 ++ wsX30)
theorem iX9_row_X9 : ∀ w ∈ wsX90, w ∈ uX9_row := fun _ h => List.mem_cons_of_mem _ (List.mem_append_left _ (List.mem_append_right _ h))
theorem iX9_row_X3 : ∀ w ∈ wsX30, w ∈ uX9_row := fun _ h => List.mem_cons_of_mem _ (List.mem_append_right _ h)
set_option maxRecDepth 20000 in
theorem gX9_row__X9_hasSlot_V206 : GoodIn uX9_row (wsV RX9 206 RX9 yX9_hasSlot uX9_hasSlot) := goodIn_p _ [5, 9] rfl (by decide +kernel)
set_option maxRecDepth 20000 in
theorem gX9_row__X9_isWithin_S158 : GoodIn uX9_row (va_wsS RX9 158 yX9_isWithin uX9_isWithin) := goodIn_p _ [9] rfl (by decide +kernel)
set_option maxRecDepth 20000 in
theorem gX9_row__X3_begin_V340 : GoodIn uX9_row (wsV RX9 340 RX3 yX3_begin uX3_begin) := goodIn_p _ [14, 21] rfl (by decide +kernel)
set_option maxHeartbeats 4000000 in
set_option maxRecDepth 100000 in
theorem kX9_row (l : Launch) (dC : Nat → ClassId) (dI : Nat → Nat → Nat) (h0 : Nat) (tp : Nat) (sc : Nat) (rd : Nat) (cu : Nat) (im : Nat) (ig : Nat) (sl : Nat) (se : Nat) (su : Nat) (fc : Nat) (cS : ClassId) (s0 : Nat) (s1 : Nat) (s2 : Nat) (s3 : Nat) (n0 : Nat) (n1 : Nat) (n2 : Nat) (n3 : Nat) (g0 : Nat → Int64) (g1 : Nat → Int64) (g2 : Nat → Int64) (g3 : Nat → Int64) (cJ0 : ClassId) (cJ1 : ClassId) (cJ2 : ClassId) (cJ3 : ClassId) (a1 : Int32) (a2 : Int32) (a3 : Int32) (sz : Nat) : Met l yX9_row uX9_row ({ frames := 2, cells := 0, slots := 0, locals := 46 }) (va_Pc [.ref h0, .int a1, .int a2, .int a3] (hw (dC, dI) vwCl [(h0, .inr (7, [.ref tp, .ref sc, .ref rd, .ref cu, .ref im, .ref ig, .ref sl, .ref se, .ref su, .ref fc])), (sl, .inl (cS, 4, .inr (.inr (.inr (.inr (sf4 s0 s1 s2 s3)))))), (s0, .inr (2, [.int (-1), .int 0, .ref n0])), (s1, .inr (2, [.int (-1), .int 0, .ref n1])), (s2, .inr (2, [.int (-1), .int 0, .ref n2])), (s3, .inr (2, [.int (-1), .int 0, .ref n3])), (n0, .inl (cJ0, 60, .inr (.inl g0))), (n1, .inl (cJ1, 60, .inr (.inl g1))), (n2, .inl (cJ2, 60, .inr (.inl g2))), (n3, .inl (cJ3, 60, .inr (.inl g3)))] [(cS, .object RX3), (cJ0, .long), (cJ1, .long), (cJ2, .long), (cJ3, .long)] sz)) (va_Qi (fun (r : Int32) (_ : Unit) => r = rw3 a1 a2 a3) (fun (_ : Unit) t => va_P (dC, dI) vwCl [] t.heap ∧ va_K (dC, dI) vwCl [] t ∧ va_D (va_A [(h0, .inr (7, [.ref tp, .ref sc, .ref rd, .ref cu, .ref im, .ref ig, .ref sl, .ref se, .ref su, .ref fc])), (sl, .inl (cS, 4, .inr (.inr (.inr (.inr (sf4 s0 s1 s2 s3)))))), (s0, .inr (2, [.int (-1), .int 0, .ref n0])), (s1, .inr (2, [.int (-1), .int 0, .ref n1])), (s2, .inr (2, [.int (-1), .int 0, .ref n2])), (s3, .inr (2, [.int (-1), .int 0, .ref n3])), (n0, .inl (cJ0, 60, .inr (.inl g0))), (n1, .inl (cJ1, 60, .inr (.inl g1))), (n2, .inl (cJ2, 60, .inr (.inl g2))), (n3, .inl (cJ3, 60, .inr (.inl g3)))] sz) []) (va_A [(h0, .inr (7, [.ref tp, .ref sc, .ref rd, .ref cu, .ref im, .ref ig, .ref sl, .ref se, .ref su, .ref fc])), (sl, .inl (cS, 4, .inr (.inr (.inr (.inr (sf4 s0 s1 s2 s3)))))), (s0, .inr (2, [.int (-1), .int 0, .ref n0])), (s1, .inr (2, [.int (-1), .int 0, .ref n1])), (s2, .inr (2, [.int (-1), .int 0, .ref n2])), (s3, .inr (2, [.int (-1), .int 0, .ref n3])), (n0, .inl (cJ0, 60, .inr (.inl g0))), (n1, .inl (cJ1, 60, .inr (.inl g1))), (n2, .inl (cJ2, 60, .inr (.inl g2))), (n3, .inl (cJ3, 60, .inr (.inl g3)))] sz)) 0 0 (va_A [(h0, .inr (7, [.ref tp, .ref sc, .ref rd, .ref cu, .ref im, .ref ig, .ref sl, .ref se, .ref su, .ref fc])), (sl, .inl (cS, 4, .inr (.inr (.inr (.inr (sf4 s0 s1 s2 s3)))))), (s0, .inr (2, [.int (-1), .int 0, .ref n0])), (s1, .inr (2, [.int (-1), .int 0, .ref n1])), (s2, .inr (2, [.int (-1), .int 0, .ref n2])), (s3, .inr (2, [.int (-1), .int 0, .ref n3])), (n0, .inl (cJ0, 60, .inr (.inl g0))), (n1, .inl (cJ1, 60, .inr (.inl g1))), (n2, .inl (cJ2, 60, .inr (.inl g2))), (n3, .inl (cJ3, 60, .inr (.inl g3)))] sz) := by
  refine Met.ofW (cc := cX9_row) (maxL := 4) (ret := (some .int)) (by decide) rfl ?_
  intro p e s m args below meth c s₁ B hml hv
  obtain ⟨rfl, hsz, hP, hK, hD0, hN⟩ := hv
  have hx := B.exec
  have hb := B.bytes
  have hr := B.returns
  have hts := atoms_spec (ws := uX9_row) B.pre
  have hown : s.vm.findClass RX9 = some m.cls := findClass_of_methodNamed B.named
  have hlocks := B.notSynchronized
  subst hsz
  have hD := hD0.self (sz := s.heap.size)
  generalize hAe : va_A [(h0, .inr (7, [.ref tp, .ref sc, .ref rd, .ref cu, .ref im, .ref ig, .ref sl, .ref se, .ref su, .ref fc])), (sl, .inl (cS, 4, .inr (.inr (.inr (.inr (sf4 s0 s1 s2 s3)))))), (s0, .inr (2, [.int (-1), .int 0, .ref n0])), (s1, .inr (2, [.int (-1), .int 0, .ref n1])), (s2, .inr (2, [.int (-1), .int 0, .ref n2])), (s3, .inr (2, [.int (-1), .int 0, .ref n3])), (n0, .inl (cJ0, 60, .inr (.inl g0))), (n1, .inl (cJ1, 60, .inr (.inl g1))), (n2, .inl (cJ2, 60, .inr (.inl g2))), (n3, .inl (cJ3, 60, .inr (.inl g3)))] s.heap.size = A at hD ⊢
  have hA : ∀ q : Nat, s.heap.size ≤ q → A q := fun q h => by rw [← hAe]; exact Or.inr h
  have hS : va_S A s.heap s.heap [] := va_S.rf
  have hP : va_P (dC, dI) vwCl [(h0, .inr (7, [.ref tp, .ref sc, .ref rd, .ref cu, .ref im, .ref ig, .ref sl, .ref se, .ref su, .ref fc])), (sl, .inl (cS, 4, .inr (.inr (.inr (.inr (sf4 s0 s1 s2 s3)))))), (s0, .inr (2, [.int (-1), .int 0, .ref n0])), (s1, .inr (2, [.int (-1), .int 0, .ref n1])), (s2, .inr (2, [.int (-1), .int 0, .ref n2])), (s3, .inr (2, [.int (-1), .int 0, .ref n3])), (n0, .inl (cJ0, 60, .inr (.inl g0))), (n1, .inl (cJ1, 60, .inr (.inl g1))), (n2, .inl (cJ2, 60, .inr (.inl g2))), (n3, .inl (cJ3, 60, .inr (.inl g3)))] s.heap := hP
  have hl := lv_entry ([.ref h0, .int a1, .int a2, .int a3]) (n := 4) (Nat.le_of_ble_eq_true rfl)
  rw [lg_entry_eq]
  generalize (lg_sl ([.ref h0, .int a1, .int a2, .int a3]) ++ List.replicate (4 - (lg_sl ([.ref h0, .int a1, .int a2, .int a3])).length) Slot.unset).toArray = ls at hl ⊢
  have hl : lv_has ls 4 [(0, .ref h0), (1, .int a1), (2, .int a2), (3, .int a3)] := hl
  refine lv_aload_n hx hb dX9_row_0 rfl (lv_at hl 0 rfl) ?_
  refine lv_iload_n hx hb dX9_row_1 rfl (lv_at hl 1 rfl) ?_
  refine vp_callSi (W.runV (As := [.int a1]) (rest := []) ⟨hx, hb, hml, hown, hts⟩ (kX9_hasSlot l dC dI h0 tp sc rd cu im ig sl se su fc cS (sf4 s0 s1 s2 s3) a1) (cwV 1 hts gX9_row__X9_hasSlot_V206 rfl rfl rfl (by decide +kernel) ⟨lel 2 2 rfl, lel 43 46 rfl⟩) ⟨pw_fb, va_recv hK hP (ci := 7) (q0 := 0) rfl rfl, (pw_use hP hK hN [0, 1] rfl [0] rfl)⟩ rfl rfl hl.1 rfl (lv_room (Nat.le_of_ble_eq_true rfl)) dX9_row_2 ⟨lel 0 0 rfl, lel 0 0 rfl⟩) (fun r_1 hr_1 => ?_)
  refine lv_if_eq (tgt := 23) hx hb dX9_row_5 (by decide) (fun c_2 => ?_) (fun c_2 => ?_)
  ·
    refine lv_bipush (v := (-2)) hx hb dX9_row_23 (by decide) ?_
    have hP9 := hP.sub (ws' := []) [] rfl
    have hD9 := hD.sub (ws' := []) [] (by decide) rfl
    have hK9 := hK.sub (tys' := []) [] rfl
    exact W.iret (v := (-2)) hx hb hr (fun t ht hW => ⟨⟨(-2), (), rfl, rw_a (hr_1.symm.trans c_2), by rw [ht]; exact hP9, va_K.moved hW.alike hK9, hD9⟩, hS.F ht⟩) hS.2.2 dX9_row_25
  ·
    refine lv_iload_n hx hb dX9_row_8 rfl (lv_at hl 2 rfl) ?_
    refine lv_iconst (v := 0) hx hb dX9_row_9 (by decide) ?_
    refine lv_iconst (v := 3) hx hb dX9_row_10 (by decide) ?_
    refine vp_callSi (W.runS (As := [.int a2, .int 0, .int 3]) (rest := []) ⟨hx, hb, hml, hown, hts⟩ (kX9_isWithin l dC dI a2 0 3) (va_cwS 3 hts gX9_row__X9_isWithin_S158 rfl rfl rfl (by decide +kernel) ⟨lel 1 2 rfl, lel 22 46 rfl⟩) ⟨pn_fb, pn_use⟩ rfl rfl hl.1 rfl (lv_room (Nat.le_of_ble_eq_true rfl)) dX9_row_11 ⟨lel 0 0 rfl, lel 0 0 rfl⟩) (fun r_3 hr_3 => ?_)
    refine lv_if_eq (tgt := 23) hx hb dX9_row_14 (by decide) (fun c_4 => ?_) (fun c_4 => ?_)
    ·
      refine lv_bipush (v := (-2)) hx hb dX9_row_23 (by decide) ?_
      have hP9 := hP.sub (ws' := []) [] rfl
      have hD9 := hD.sub (ws' := []) [] (by decide) rfl
      have hK9 := hK.sub (tys' := []) [] rfl
      exact W.iret (v := (-2)) hx hb hr (fun t ht hW => ⟨⟨(-2), (), rfl, rw_b (hr_3.symm.trans c_4), by rw [ht]; exact hP9, va_K.moved hW.alike hK9, hD9⟩, hS.F ht⟩) hS.2.2 dX9_row_25
    ·
      refine lv_iload_n hx hb dX9_row_17 rfl (lv_at hl 3 rfl) ?_
      refine lv_bipush (v := 60) hx hb dX9_row_18 (by decide) ?_
      refine lv_icmp_le (tgt := 26) hx hb dX9_row_20 (by decide) (fun c_5 => ?_) (fun c_5 => ?_)
      ·
        refine lv_iload_n hx hb dX9_row_26 rfl (lv_at hl 3 rfl) ?_
        refine lv_if_ge (tgt := 33) hx hb dX9_row_27 (by decide) (fun c_6 => ?_) (fun c_6 => ?_)
        ·
          rcases wi_4 (fun e => c_2 (hr_1.trans e)) with rfl | rfl | rfl | rfl
          ·
            refine lv_aload_n hx hb dX9_row_33 rfl (lv_at hl 0 rfl) ?_
            refine va_get (D := (dC, dI)) (ci := 7) (v := .ref sl) (C := RX9) (T := TX9) (N := 10) hx hb hts iX9_row_X9 hown hK hP 0 rfl rfl 6 (by decide) (hts (.fieldLink RX9 50 "LuckyTicket" "slots" "[LLuckyTicket$Row;") (List.mem_of_getElem? (i := 6) rfl)) (fun _ h9 => h9) rfl dX9_row_34 ?_
            refine lv_iload_n hx hb dX9_row_37 rfl (lv_at hl 1 rfl) ?_
            refine va_aldq hx hb hK hP 1 0 rfl rfl (vp_in_lit (by decide)) dX9_row_38 ?_
            refine W.eq (g2 := F0 m 39 ls (.ref s0 :: [])) (congrArg (fun v => F0 m 39 ls (va_rf v :: [])) (sf4_0 s0 s1 s2 s3)) ?_
            refine lv_iload_n hx hb dX9_row_39 rfl (lv_at hl 2 rfl) ?_
            refine lv_iload_n hx hb dX9_row_40 rfl (lv_at hl 3 rfl) ?_
            have hFc := va_free (wc := [(s0, .inr (2, [.int (-1), .int 0, .ref n0])), (n0, .inl (cJ0, 60, .inr (.inl g0)))]) hD hS hA [2, 6] rfl
            refine va_callv (va_runV (As := [.int a2, .int a3]) (rest := []) ⟨hx, hb, hml, hown, hts⟩ (kX3_begin l dC dI s0 n0 cJ0 g0 a2 a3 (s.heap.size)) (cwV 2 hts gX9_row__X3_begin_V340 rfl rfl rfl (by decide +kernel) ⟨lel 2 2 rfl, lel 46 46 rfl⟩) ⟨hw_fb, va_recv hK hP (ci := 2) (q0 := 2) rfl rfl, (hw_use hP hD hK hN [2, 6] rfl (by decide) rfl [1] rfl)⟩ rfl rfl hl.1 rfl (lv_room (Nat.le_of_ble_eq_true rfl)) dX9_row_41 ⟨lel 0 0 rfl, lel 0 0 rfl⟩) hS (fun q _ h => hFc q h) hFc (fun u_8 t H1 locs ht hvm hwr_7 hB hz1 hk1 hS => ?_)
            obtain ⟨hP1, hK1, hD1⟩ := hB
            rw [ht] at hP1
            have hK1 := va_K.moved hvm.symm hK1
            obtain ⟨hP, hD⟩ := va_join (wr := [(h0, .inr (7, [.ref tp, .ref sc, .ref rd, .ref cu, .ref im, .ref ig, .ref sl, .ref se, .ref su, .ref fc])), (sl, .inl (cS, 4, .inr (.inr (.inr (.inr (sf4 s0 s1 s2 s3)))))), (s1, .inr (2, [.int (-1), .int 0, .ref n1])), (s2, .inr (2, [.int (-1), .int 0, .ref n2])), (s3, .inr (2, [.int (-1), .int 0, .ref n3])), (n1, .inl (cJ1, 60, .inr (.inl g1))), (n2, .inl (cJ2, 60, .inr (.inl g2))), (n3, .inl (cJ3, 60, .inr (.inl g3)))]) (w1 := []) hP hD [2, 6] [0, 1, 3, 4, 5, 7, 8, 9] rfl rfl (by decide) (by decide) hk1 hFc hP1 hD1
            have hK := (hK.sub (tys' := [(cS, .object RX3), (cJ1, .long), (cJ2, .long), (cJ3, .long)]) [0, 2, 3, 4] rfl).app hK1
            generalize H1 = H at hP hS ⊢
            have hP : va_P (dC, dI) vwCl [(h0, .inr (7, [.ref tp, .ref sc, .ref rd, .ref cu, .ref im, .ref ig, .ref sl, .ref se, .ref su, .ref fc])), (sl, .inl (cS, 4, .inr (.inr (.inr (.inr (sf4 s0 s1 s2 s3)))))), (s1, .inr (2, [.int (-1), .int 0, .ref n1])), (s2, .inr (2, [.int (-1), .int 0, .ref n2])), (s3, .inr (2, [.int (-1), .int 0, .ref n3])), (n1, .inl (cJ1, 60, .inr (.inl g1))), (n2, .inl (cJ2, 60, .inr (.inl g2))), (n3, .inl (cJ3, 60, .inr (.inl g3)))] H := hP
            have hD : va_D A [(h0, .inr (7, [.ref tp, .ref sc, .ref rd, .ref cu, .ref im, .ref ig, .ref sl, .ref se, .ref su, .ref fc])), (sl, .inl (cS, 4, .inr (.inr (.inr (.inr (sf4 s0 s1 s2 s3)))))), (s1, .inr (2, [.int (-1), .int 0, .ref n1])), (s2, .inr (2, [.int (-1), .int 0, .ref n2])), (s3, .inr (2, [.int (-1), .int 0, .ref n3])), (n1, .inl (cJ1, 60, .inr (.inl g1))), (n2, .inl (cJ2, 60, .inr (.inl g2))), (n3, .inl (cJ3, 60, .inr (.inl g3)))] := hD
            have hK : va_K (dC, dI) vwCl [(cS, .object RX3), (cJ1, .long), (cJ2, .long), (cJ3, .long)] s := hK
            refine lv_iconst (v := 0) hx hb dX9_row_44 (by decide) ?_
            have hP9 := hP.sub (ws' := []) [] rfl
            have hD9 := hD.sub (ws' := []) [] (by decide) rfl
            have hK9 := hK.sub (tys' := []) [] rfl
            exact W.iret (v := 0) hx hb hr (fun t ht hW => ⟨⟨0, (), rfl, rw_e (fun e => c_2 (hr_1.trans e)) (fun e => c_4 (hr_3.trans e)) c_5 c_6, by rw [ht]; exact hP9, va_K.moved hW.alike hK9, hD9⟩, hS.F ht⟩) hS.2.2 dX9_row_45
          ·
            refine lv_aload_n hx hb dX9_row_33 rfl (lv_at hl 0 rfl) ?_
            refine va_get (D := (dC, dI)) (ci := 7) (v := .ref sl) (C := RX9) (T := TX9) (N := 10) hx hb hts iX9_row_X9 hown hK hP 0 rfl rfl 6 (by decide) (hts (.fieldLink RX9 50 "LuckyTicket" "slots" "[LLuckyTicket$Row;") (List.mem_of_getElem? (i := 6) rfl)) (fun _ h9 => h9) rfl dX9_row_34 ?_
            refine lv_iload_n hx hb dX9_row_37 rfl (lv_at hl 1 rfl) ?_
            refine va_aldq hx hb hK hP 1 0 rfl rfl (vp_in_lit (by decide)) dX9_row_38 ?_
            refine W.eq (g2 := F0 m 39 ls (.ref s1 :: [])) (congrArg (fun v => F0 m 39 ls (va_rf v :: [])) (sf4_1 s0 s1 s2 s3)) ?_
            refine lv_iload_n hx hb dX9_row_39 rfl (lv_at hl 2 rfl) ?_
            refine lv_iload_n hx hb dX9_row_40 rfl (lv_at hl 3 rfl) ?_
            have hFc := va_free (wc := [(s1, .inr (2, [.int (-1), .int 0, .ref n1])), (n1, .inl (cJ1, 60, .inr (.inl g1)))]) hD hS hA [3, 7] rfl
            refine va_callv (va_runV (As := [.int a2, .int a3]) (rest := []) ⟨hx, hb, hml, hown, hts⟩ (kX3_begin l dC dI s1 n1 cJ1 g1 a2 a3 (s.heap.size)) (cwV 2 hts gX9_row__X3_begin_V340 rfl rfl rfl (by decide +kernel) ⟨lel 2 2 rfl, lel 46 46 rfl⟩) ⟨hw_fb, va_recv hK hP (ci := 2) (q0 := 3) rfl rfl, (hw_use hP hD hK hN [3, 7] rfl (by decide) rfl [2] rfl)⟩ rfl rfl hl.1 rfl (lv_room (Nat.le_of_ble_eq_true rfl)) dX9_row_41 ⟨lel 0 0 rfl, lel 0 0 rfl⟩) hS (fun q _ h => hFc q h) hFc (fun u_10 t H1 locs ht hvm hwr_9 hB hz1 hk1 hS => ?_)
            obtain ⟨hP1, hK1, hD1⟩ := hB
            rw [ht] at hP1
            have hK1 := va_K.moved hvm.symm hK1
            obtain ⟨hP, hD⟩ := va_join (wr := [(h0, .inr (7, [.ref tp, .ref sc, .ref rd, .ref cu, .ref im, .ref ig, .ref sl, .ref se, .ref su, .ref fc])), (sl, .inl (cS, 4, .inr (.inr (.inr (.inr (sf4 s0 s1 s2 s3)))))), (s0, .inr (2, [.int (-1), .int 0, .ref n0])), (s2, .inr (2, [.int (-1), .int 0, .ref n2])), (s3, .inr (2, [.int (-1), .int 0, .ref n3])), (n0, .inl (cJ0, 60, .inr (.inl g0))), (n2, .inl (cJ2, 60, .inr (.inl g2))), (n3, .inl (cJ3, 60, .inr (.inl g3)))]) (w1 := []) hP hD [3, 7] [0, 1, 2, 4, 5, 6, 8, 9] rfl rfl (by decide) (by decide) hk1 hFc hP1 hD1
            have hK := (hK.sub (tys' := [(cS, .object RX3), (cJ0, .long), (cJ2, .long), (cJ3, .long)]) [0, 1, 3, 4] rfl).app hK1
            generalize H1 = H at hP hS ⊢
            have hP : va_P (dC, dI) vwCl [(h0, .inr (7, [.ref tp, .ref sc, .ref rd, .ref cu, .ref im, .ref ig, .ref sl, .ref se, .ref su, .ref fc])), (sl, .inl (cS, 4, .inr (.inr (.inr (.inr (sf4 s0 s1 s2 s3)))))), (s0, .inr (2, [.int (-1), .int 0, .ref n0])), (s2, .inr (2, [.int (-1), .int 0, .ref n2])), (s3, .inr (2, [.int (-1), .int 0, .ref n3])), (n0, .inl (cJ0, 60, .inr (.inl g0))), (n2, .inl (cJ2, 60, .inr (.inl g2))), (n3, .inl (cJ3, 60, .inr (.inl g3)))] H := hP
            have hD : va_D A [(h0, .inr (7, [.ref tp, .ref sc, .ref rd, .ref cu, .ref im, .ref ig, .ref sl, .ref se, .ref su, .ref fc])), (sl, .inl (cS, 4, .inr (.inr (.inr (.inr (sf4 s0 s1 s2 s3)))))), (s0, .inr (2, [.int (-1), .int 0, .ref n0])), (s2, .inr (2, [.int (-1), .int 0, .ref n2])), (s3, .inr (2, [.int (-1), .int 0, .ref n3])), (n0, .inl (cJ0, 60, .inr (.inl g0))), (n2, .inl (cJ2, 60, .inr (.inl g2))), (n3, .inl (cJ3, 60, .inr (.inl g3)))] := hD
            have hK : va_K (dC, dI) vwCl [(cS, .object RX3), (cJ0, .long), (cJ2, .long), (cJ3, .long)] s := hK
            refine lv_iconst (v := 0) hx hb dX9_row_44 (by decide) ?_
            have hP9 := hP.sub (ws' := []) [] rfl
            have hD9 := hD.sub (ws' := []) [] (by decide) rfl
            have hK9 := hK.sub (tys' := []) [] rfl
            exact W.iret (v := 0) hx hb hr (fun t ht hW => ⟨⟨0, (), rfl, rw_e (fun e => c_2 (hr_1.trans e)) (fun e => c_4 (hr_3.trans e)) c_5 c_6, by rw [ht]; exact hP9, va_K.moved hW.alike hK9, hD9⟩, hS.F ht⟩) hS.2.2 dX9_row_45
          ·
            refine lv_aload_n hx hb dX9_row_33 rfl (lv_at hl 0 rfl) ?_
            refine va_get (D := (dC, dI)) (ci := 7) (v := .ref sl) (C := RX9) (T := TX9) (N := 10) hx hb hts iX9_row_X9 hown hK hP 0 rfl rfl 6 (by decide) (hts (.fieldLink RX9 50 "LuckyTicket" "slots" "[LLuckyTicket$Row;") (List.mem_of_getElem? (i := 6) rfl)) (fun _ h9 => h9) rfl dX9_row_34 ?_
            refine lv_iload_n hx hb dX9_row_37 rfl (lv_at hl 1 rfl) ?_
            refine va_aldq hx hb hK hP 1 0 rfl rfl (vp_in_lit (by decide)) dX9_row_38 ?_
            refine W.eq (g2 := F0 m 39 ls (.ref s2 :: [])) (congrArg (fun v => F0 m 39 ls (va_rf v :: [])) (sf4_2 s0 s1 s2 s3)) ?_
            refine lv_iload_n hx hb dX9_row_39 rfl (lv_at hl 2 rfl) ?_
            refine lv_iload_n hx hb dX9_row_40 rfl (lv_at hl 3 rfl) ?_
            have hFc := va_free (wc := [(s2, .inr (2, [.int (-1), .int 0, .ref n2])), (n2, .inl (cJ2, 60, .inr (.inl g2)))]) hD hS hA [4, 8] rfl
            refine va_callv (va_runV (As := [.int a2, .int a3]) (rest := []) ⟨hx, hb, hml, hown, hts⟩ (kX3_begin l dC dI s2 n2 cJ2 g2 a2 a3 (s.heap.size)) (cwV 2 hts gX9_row__X3_begin_V340 rfl rfl rfl (by decide +kernel) ⟨lel 2 2 rfl, lel 46 46 rfl⟩) ⟨hw_fb, va_recv hK hP (ci := 2) (q0 := 4) rfl rfl, (hw_use hP hD hK hN [4, 8] rfl (by decide) rfl [3] rfl)⟩ rfl rfl hl.1 rfl (lv_room (Nat.le_of_ble_eq_true rfl)) dX9_row_41 ⟨lel 0 0 rfl, lel 0 0 rfl⟩) hS (fun q _ h => hFc q h) hFc (fun u_12 t H1 locs ht hvm hwr_11 hB hz1 hk1 hS => ?_)
            obtain ⟨hP1, hK1, hD1⟩ := hB
            rw [ht] at hP1
            have hK1 := va_K.moved hvm.symm hK1
            obtain ⟨hP, hD⟩ := va_join (wr := [(h0, .inr (7, [.ref tp, .ref sc, .ref rd, .ref cu, .ref im, .ref ig, .ref sl, .ref se, .ref su, .ref fc])), (sl, .inl (cS, 4, .inr (.inr (.inr (.inr (sf4 s0 s1 s2 s3)))))), (s0, .inr (2, [.int (-1), .int 0, .ref n0])), (s1, .inr (2, [.int (-1), .int 0, .ref n1])), (s3, .inr (2, [.int (-1), .int 0, .ref n3])), (n0, .inl (cJ0, 60, .inr (.inl g0))), (n1, .inl (cJ1, 60, .inr (.inl g1))), (n3, .inl (cJ3, 60, .inr (.inl g3)))]) (w1 := []) hP hD [4, 8] [0, 1, 2, 3, 5, 6, 7, 9] rfl rfl (by decide) (by decide) hk1 hFc hP1 hD1
            have hK := (hK.sub (tys' := [(cS, .object RX3), (cJ0, .long), (cJ1, .long), (cJ3, .long)]) [0, 1, 2, 4] rfl).app hK1
            generalize H1 = H at hP hS ⊢
            have hP : va_P (dC, dI) vwCl [(h0, .inr (7, [.ref tp, .ref sc, .ref rd, .ref cu, .ref im, .ref ig, .ref sl, .ref se, .ref su, .ref fc])), (sl, .inl (cS, 4, .inr (.inr (.inr (.inr (sf4 s0 s1 s2 s3)))))), (s0, .inr (2, [.int (-1), .int 0, .ref n0])), (s1, .inr (2, [.int (-1), .int 0, .ref n1])), (s3, .inr (2, [.int (-1), .int 0, .ref n3])), (n0, .inl (cJ0, 60, .inr (.inl g0))), (n1, .inl (cJ1, 60, .inr (.inl g1))), (n3, .inl (cJ3, 60, .inr (.inl g3)))] H := hP
            have hD : va_D A [(h0, .inr (7, [.ref tp, .ref sc, .ref rd, .ref cu, .ref im, .ref ig, .ref sl, .ref se, .ref su, .ref fc])), (sl, .inl (cS, 4, .inr (.inr (.inr (.inr (sf4 s0 s1 s2 s3)))))), (s0, .inr (2, [.int (-1), .int 0, .ref n0])), (s1, .inr (2, [.int (-1), .int 0, .ref n1])), (s3, .inr (2, [.int (-1), .int 0, .ref n3])), (n0, .inl (cJ0, 60, .inr (.inl g0))), (n1, .inl (cJ1, 60, .inr (.inl g1))), (n3, .inl (cJ3, 60, .inr (.inl g3)))] := hD
            have hK : va_K (dC, dI) vwCl [(cS, .object RX3), (cJ0, .long), (cJ1, .long), (cJ3, .long)] s := hK
            refine lv_iconst (v := 0) hx hb dX9_row_44 (by decide) ?_
            have hP9 := hP.sub (ws' := []) [] rfl
            have hD9 := hD.sub (ws' := []) [] (by decide) rfl
            have hK9 := hK.sub (tys' := []) [] rfl
            exact W.iret (v := 0) hx hb hr (fun t ht hW => ⟨⟨0, (), rfl, rw_e (fun e => c_2 (hr_1.trans e)) (fun e => c_4 (hr_3.trans e)) c_5 c_6, by rw [ht]; exact hP9, va_K.moved hW.alike hK9, hD9⟩, hS.F ht⟩) hS.2.2 dX9_row_45
          ·
            refine lv_aload_n hx hb dX9_row_33 rfl (lv_at hl 0 rfl) ?_
            refine va_get (D := (dC, dI)) (ci := 7) (v := .ref sl) (C := RX9) (T := TX9) (N := 10) hx hb hts iX9_row_X9 hown hK hP 0 rfl rfl 6 (by decide) (hts (.fieldLink RX9 50 "LuckyTicket" "slots" "[LLuckyTicket$Row;") (List.mem_of_getElem? (i := 6) rfl)) (fun _ h9 => h9) rfl dX9_row_34 ?_
            refine lv_iload_n hx hb dX9_row_37 rfl (lv_at hl 1 rfl) ?_
            refine va_aldq hx hb hK hP 1 0 rfl rfl (vp_in_lit (by decide)) dX9_row_38 ?_
            refine W.eq (g2 := F0 m 39 ls (.ref s3 :: [])) (congrArg (fun v => F0 m 39 ls (va_rf v :: [])) (sf4_3 s0 s1 s2 s3)) ?_
            refine lv_iload_n hx hb dX9_row_39 rfl (lv_at hl 2 rfl) ?_
            refine lv_iload_n hx hb dX9_row_40 rfl (lv_at hl 3 rfl) ?_
            have hFc := va_free (wc := [(s3, .inr (2, [.int (-1), .int 0, .ref n3])), (n3, .inl (cJ3, 60, .inr (.inl g3)))]) hD hS hA [5, 9] rfl
            refine va_callv (va_runV (As := [.int a2, .int a3]) (rest := []) ⟨hx, hb, hml, hown, hts⟩ (kX3_begin l dC dI s3 n3 cJ3 g3 a2 a3 (s.heap.size)) (cwV 2 hts gX9_row__X3_begin_V340 rfl rfl rfl (by decide +kernel) ⟨lel 2 2 rfl, lel 46 46 rfl⟩) ⟨hw_fb, va_recv hK hP (ci := 2) (q0 := 5) rfl rfl, (hw_use hP hD hK hN [5, 9] rfl (by decide) rfl [4] rfl)⟩ rfl rfl hl.1 rfl (lv_room (Nat.le_of_ble_eq_true rfl)) dX9_row_41 ⟨lel 0 0 rfl, lel 0 0 rfl⟩) hS (fun q _ h => hFc q h) hFc (fun u_14 t H1 locs ht hvm hwr_13 hB hz1 hk1 hS => ?_)
            obtain ⟨hP1, hK1, hD1⟩ := hB
            rw [ht] at hP1
            have hK1 := va_K.moved hvm.symm hK1
            obtain ⟨hP, hD⟩ := va_join (wr := [(h0, .inr (7, [.ref tp, .ref sc, .ref rd, .ref cu, .ref im, .ref ig, .ref sl, .ref se, .ref su, .ref fc])), (sl, .inl (cS, 4, .inr (.inr (.inr (.inr (sf4 s0 s1 s2 s3)))))), (s0, .inr (2, [.int (-1), .int 0, .ref n0])), (s1, .inr (2, [.int (-1), .int 0, .ref n1])), (s2, .inr (2, [.int (-1), .int 0, .ref n2])), (n0, .inl (cJ0, 60, .inr (.inl g0))), (n1, .inl (cJ1, 60, .inr (.inl g1))), (n2, .inl (cJ2, 60, .inr (.inl g2)))]) (w1 := []) hP hD [5, 9] [0, 1, 2, 3, 4, 6, 7, 8] rfl rfl (by decide) (by decide) hk1 hFc hP1 hD1
            have hK := (hK.sub (tys' := [(cS, .object RX3), (cJ0, .long), (cJ1, .long), (cJ2, .long)]) [0, 1, 2, 3] rfl).app hK1
            generalize H1 = H at hP hS ⊢
            have hP : va_P (dC, dI) vwCl [(h0, .inr (7, [.ref tp, .ref sc, .ref rd, .ref cu, .ref im, .ref ig, .ref sl, .ref se, .ref su, .ref fc])), (sl, .inl (cS, 4, .inr (.inr (.inr (.inr (sf4 s0 s1 s2 s3)))))), (s0, .inr (2, [.int (-1), .int 0, .ref n0])), (s1, .inr (2, [.int (-1), .int 0, .ref n1])), (s2, .inr (2, [.int (-1), .int 0, .ref n2])), (n0, .inl (cJ0, 60, .inr (.inl g0))), (n1, .inl (cJ1, 60, .inr (.inl g1))), (n2, .inl (cJ2, 60, .inr (.inl g2)))] H := hP
            have hD : va_D A [(h0, .inr (7, [.ref tp, .ref sc, .ref rd, .ref cu, .ref im, .ref ig, .ref sl, .ref se, .ref su, .ref fc])), (sl, .inl (cS, 4, .inr (.inr (.inr (.inr (sf4 s0 s1 s2 s3)))))), (s0, .inr (2, [.int (-1), .int 0, .ref n0])), (s1, .inr (2, [.int (-1), .int 0, .ref n1])), (s2, .inr (2, [.int (-1), .int 0, .ref n2])), (n0, .inl (cJ0, 60, .inr (.inl g0))), (n1, .inl (cJ1, 60, .inr (.inl g1))), (n2, .inl (cJ2, 60, .inr (.inl g2)))] := hD
            have hK : va_K (dC, dI) vwCl [(cS, .object RX3), (cJ0, .long), (cJ1, .long), (cJ2, .long)] s := hK
            refine lv_iconst (v := 0) hx hb dX9_row_44 (by decide) ?_
            have hP9 := hP.sub (ws' := []) [] rfl
            have hD9 := hD.sub (ws' := []) [] (by decide) rfl
            have hK9 := hK.sub (tys' := []) [] rfl
            exact W.iret (v := 0) hx hb hr (fun t ht hW => ⟨⟨0, (), rfl, rw_e (fun e => c_2 (hr_1.trans e)) (fun e => c_4 (hr_3.trans e)) c_5 c_6, by rw [ht]; exact hP9, va_K.moved hW.alike hK9, hD9⟩, hS.F ht⟩) hS.2.2 dX9_row_45
        ·
          refine lv_bipush (v := (-3)) hx hb dX9_row_30 (by decide) ?_
          have hP9 := hP.sub (ws' := []) [] rfl
          have hD9 := hD.sub (ws' := []) [] (by decide) rfl
          have hK9 := hK.sub (tys' := []) [] rfl
          exact W.iret (v := (-3)) hx hb hr (fun t ht hW => ⟨⟨(-3), (), rfl, rw_d (fun e => c_2 (hr_1.trans e)) (fun e => c_4 (hr_3.trans e)) c_5 c_6, by rw [ht]; exact hP9, va_K.moved hW.alike hK9, hD9⟩, hS.F ht⟩) hS.2.2 dX9_row_32
      ·
        refine lv_bipush (v := (-2)) hx hb dX9_row_23 (by decide) ?_
        have hP9 := hP.sub (ws' := []) [] rfl
        have hD9 := hD.sub (ws' := []) [] (by decide) rfl
        have hK9 := hK.sub (tys' := []) [] rfl
        exact W.iret (v := (-2)) hx hb hr (fun t ht hW => ⟨⟨(-2), (), rfl, rw_c c_5, by rw [ht]; exact hP9, va_K.moved hW.alike hK9, hD9⟩, hS.F ht⟩) hS.2.2 dX9_row_25
theorem dX10_row_0 : decode cX10_row 0 = .ok (.iload_n 1, 1) := by decide +kernel
theorem dX10_row_1 : decode cX10_row 1 = .ok (.invokestatic 369, 3) := by decide +kernel
theorem dX10_row_4 : decode cX10_row 4 = .ok (.ifCond .eq 21, 3) := by decide +kernel
theorem dX10_row_7 : decode cX10_row 7 = .ok (.iload_n 2, 1) := by decide +kernel
theorem dX10_row_8 : decode cX10_row 8 = .ok (.i2l, 1) := by decide +kernel
theorem dX10_row_9 : decode cX10_row 9 = .ok (.lconst 0, 1) := by decide +kernel
theorem dX10_row_10 : decode cX10_row 10 = .ok (.ldc2_w 375, 3) := by decide +kernel
theorem dX10_row_13 : decode cX10_row 13 = .ok (.invokestatic 82, 3) := by decide +kernel
theorem dX10_row_16 : decode cX10_row 16 = .ok (.ifCond .eq 9, 3) := by decide +kernel
theorem dX10_row_19 : decode cX10_row 19 = .ok (.iload_n 3, 1) := by decide +kernel
theorem dX10_row_20 : decode cX10_row 20 = .ok (.bipush 60, 2) := by decide +kernel
theorem dX10_row_22 : decode cX10_row 22 = .ok (.if_icmp .le 6, 3) := by decide +kernel
theorem dX10_row_25 : decode cX10_row 25 = .ok (.bipush (-2), 2) := by decide +kernel
theorem dX10_row_27 : decode cX10_row 27 = .ok (.ireturn, 1) := by decide +kernel
theorem dX10_row_28 : decode cX10_row 28 = .ok (.iload_n 3, 1) := by decide +kernel
theorem dX10_row_29 : decode cX10_row 29 = .ok (.ifCond .ge 6, 3) := by decide +kernel
theorem dX10_row_32 : decode cX10_row 32 = .ok (.bipush (-3), 2) := by decide +kernel
theorem dX10_row_34 : decode cX10_row 34 = .ok (.ireturn, 1) := by decide +kernel
theorem dX10_row_35 : decode cX10_row 35 = .ok (.aload_n 0, 1) := by decide +kernel
theorem dX10_row_36 : decode cX10_row 36 = .ok (.getfield 65, 3) := by decide +kernel
theorem dX10_row_39 : decode cX10_row 39 = .ok (.iload_n 1, 1) := by decide +kernel
theorem dX10_row_40 : decode cX10_row 40 = .ok (.iload_n 3, 1) := by decide +kernel
theorem dX10_row_41 : decode cX10_row 41 = .ok (.iastore, 1) := by decide +kernel
theorem dX10_row_42 : decode cX10_row 42 = .ok (.aload_n 0, 1) := by decide +kernel
theorem dX10_row_43 : decode cX10_row 43 = .ok (.getfield 68, 3) := by decide +kernel
theorem dX10_row_46 : decode cX10_row 46 = .ok (.iload_n 1, 1) := by decide +kernel
theorem dX10_row_47 : decode cX10_row 47 = .ok (.iload_n 2, 1) := by decide +kernel
theorem dX10_row_48 : decode cX10_row 48 = .ok (.iastore, 1) := by decide +kernel
theorem dX10_row_49 : decode cX10_row 49 = .ok (.iconst 0, 1) := by decide +kernel
theorem dX10_row_50 : decode cX10_row 50 = .ok (.istore 4, 2) := by decide +kernel
theorem dX10_row_52 : decode cX10_row 52 = .ok (.iload 4, 2) := by decide +kernel
theorem dX10_row_54 : decode cX10_row 54 = .ok (.bipush 60, 2) := by decide +kernel
theorem dX10_row_56 : decode cX10_row 56 = .ok (.if_icmp .ge 22, 3) := by decide +kernel
theorem dX10_row_59 : decode cX10_row 59 = .ok (.aload_n 0, 1) := by decide +kernel
theorem dX10_row_60 : decode cX10_row 60 = .ok (.getfield 71, 3) := by decide +kernel
theorem dX10_row_63 : decode cX10_row 63 = .ok (.bipush 60, 2) := by decide +kernel
theorem dX10_row_65 : decode cX10_row 65 = .ok (.iload_n 1, 1) := by decide +kernel
theorem dX10_row_66 : decode cX10_row 66 = .ok (.imul, 1) := by decide +kernel
theorem dX10_row_67 : decode cX10_row 67 = .ok (.iload 4, 2) := by decide +kernel
theorem dX10_row_69 : decode cX10_row 69 = .ok (.iadd, 1) := by decide +kernel
theorem dX10_row_70 : decode cX10_row 70 = .ok (.lconst 0, 1) := by decide +kernel
theorem dX10_row_71 : decode cX10_row 71 = .ok (.lastore, 1) := by decide +kernel
theorem dX10_row_72 : decode cX10_row 72 = .ok (.iinc 4 1, 3) := by decide +kernel
theorem dX10_row_75 : decode cX10_row 75 = .ok (.goto (-23), 3) := by decide +kernel
theorem dX10_row_78 : decode cX10_row 78 = .ok (.iconst 0, 1) := by decide +kernel
theorem dX10_row_79 : decode cX10_row 79 = .ok (.ireturn, 1) := by decide +kernel
def uX10_row : List Cond := .code yX10_row cX10_row 5 (some .int) :: ([.methodLink RX10 369 yX10_isSlot, .static yX10_isSlot, .initialized RX10, .code yX10_isSlot cX10_isSlot 1 (some .boolean), .constantLong RX10 375 (3), .methodLink RX10 82 yX10_in, .static yX10_in, .code yX10_in cX10_in 6 (some .boolean), .fieldLink RX10 65 "LuckyTicketModel" "many" "[I", .fieldLink RX10 68 "LuckyTicketModel" "width" "[I", .fieldLink RX10 71 "LuckyTicketModel" "numbers" "[J"] ++ wsX100)
theorem iX10_row_X10 : ∀ w ∈ wsX100, w ∈ uX10_row := fun _ h => List.mem_cons_of_mem _ (List.mem_append_right _ h)
set_option maxRecDepth 20000 in
theorem gX10_row__X10_isSlot_S369 : GoodIn uX10_row (va_wsS RX10 369 yX10_isSlot uX10_isSlot) := goodIn_p _ [4, 8] rfl (by decide +kernel)
set_option maxRecDepth 20000 in
theorem gX10_row__X10_in_S82 : GoodIn uX10_row (va_wsS RX10 82 yX10_in uX10_in) := goodIn_p _ [8] rfl (by decide +kernel)
set_option maxHeartbeats 4000000 in
set_option maxRecDepth 100000 in
theorem kX10_row (l : Launch) (dC : Nat → ClassId) (dI : Nat → Nat → Nat) (h0 : Nat) (m_world : Nat) (m_images : Nat) (m_hasImage : Nat) (m_luck : Nat) (m_tape : Nat) (m_five : Nat) (m_fresh : Nat) (m_waits : Nat) (m_figures : Nat) (m_pile : Nat) (m_times : Nat) (m_far : Nat) (m_queue : Nat) (m_months : Nat) (m_ways : Nat) (m_waysOn : Nat) (m_many : Nat) (m_width : Nat) (m_numbers : Nat) (m_moving : Nat) (cI : ClassId) (cI2 : ClassId) (cJ : ClassId) (wf : Nat → Int32) (nf : Nat → Int64) (a1 : Int32) (a2 : Int32) (a3 : Int32) (sz : Nat) : Met l yX10_row uX10_row ({ frames := 2, cells := 0, slots := 0, locals := 45 }) (va_Pc [.ref h0, .int a1, .int a2, .int a3] (hw (dC, dI) vwCl [(h0, .inr (8, [.int 0, .ref m_world, .ref m_images, .ref m_hasImage, .ref m_luck, .ref m_tape, .int 0, .ref m_five, .int 0, .int 0, .int 0, .int 0, .int 0, .int 0, .int (-1), .ref m_fresh, .ref m_waits, .int 0, .int 0, .int 0, .ref m_figures, .ref m_pile, .long 0, .ref m_times, .ref m_far, .ref m_queue, .ref m_months, .ref m_ways, .ref m_waysOn, .ref m_many, .ref m_width, .ref m_numbers, .ref m_moving])), (m_many, .inl (cI, 4, .inl manyF)), (m_width, .inl (cI2, 4, .inl wf)), (m_numbers, .inl (cJ, 240, .inr (.inl nf)))] [(cI, .int), (cI2, .int), (cJ, .long)] sz)) (va_Qi (fun (r : Int32) (_ : Unit) => r = rw3 a1 a2 a3) (fun (_ : Unit) t => va_P (dC, dI) vwCl [] t.heap ∧ va_K (dC, dI) vwCl [] t ∧ va_D (va_A [(h0, .inr (8, [.int 0, .ref m_world, .ref m_images, .ref m_hasImage, .ref m_luck, .ref m_tape, .int 0, .ref m_five, .int 0, .int 0, .int 0, .int 0, .int 0, .int 0, .int (-1), .ref m_fresh, .ref m_waits, .int 0, .int 0, .int 0, .ref m_figures, .ref m_pile, .long 0, .ref m_times, .ref m_far, .ref m_queue, .ref m_months, .ref m_ways, .ref m_waysOn, .ref m_many, .ref m_width, .ref m_numbers, .ref m_moving])), (m_many, .inl (cI, 4, .inl manyF)), (m_width, .inl (cI2, 4, .inl wf)), (m_numbers, .inl (cJ, 240, .inr (.inl nf)))] sz) []) (va_A [(h0, .inr (8, [.int 0, .ref m_world, .ref m_images, .ref m_hasImage, .ref m_luck, .ref m_tape, .int 0, .ref m_five, .int 0, .int 0, .int 0, .int 0, .int 0, .int 0, .int (-1), .ref m_fresh, .ref m_waits, .int 0, .int 0, .int 0, .ref m_figures, .ref m_pile, .long 0, .ref m_times, .ref m_far, .ref m_queue, .ref m_months, .ref m_ways, .ref m_waysOn, .ref m_many, .ref m_width, .ref m_numbers, .ref m_moving])), (m_many, .inl (cI, 4, .inl manyF)), (m_width, .inl (cI2, 4, .inl wf)), (m_numbers, .inl (cJ, 240, .inr (.inl nf)))] sz)) 0 0 (va_A [(h0, .inr (8, [.int 0, .ref m_world, .ref m_images, .ref m_hasImage, .ref m_luck, .ref m_tape, .int 0, .ref m_five, .int 0, .int 0, .int 0, .int 0, .int 0, .int 0, .int (-1), .ref m_fresh, .ref m_waits, .int 0, .int 0, .int 0, .ref m_figures, .ref m_pile, .long 0, .ref m_times, .ref m_far, .ref m_queue, .ref m_months, .ref m_ways, .ref m_waysOn, .ref m_many, .ref m_width, .ref m_numbers, .ref m_moving])), (m_many, .inl (cI, 4, .inl manyF)), (m_width, .inl (cI2, 4, .inl wf)), (m_numbers, .inl (cJ, 240, .inr (.inl nf)))] sz) := by
  refine Met.ofW (cc := cX10_row) (maxL := 5) (ret := (some .int)) (by decide) rfl ?_
  intro p e s m args below meth c s₁ B hml hv
  obtain ⟨rfl, hsz, hP, hK, hD0, hN⟩ := hv
  have hx := B.exec
  have hb := B.bytes
  have hr := B.returns
  have hts := atoms_spec (ws := uX10_row) B.pre
  have hown : s.vm.findClass RX10 = some m.cls := findClass_of_methodNamed B.named
  have hlocks := B.notSynchronized
  subst hsz
  have hD := hD0.self (sz := s.heap.size)
  generalize hAe : va_A [(h0, .inr (8, [.int 0, .ref m_world, .ref m_images, .ref m_hasImage, .ref m_luck, .ref m_tape, .int 0, .ref m_five, .int 0, .int 0, .int 0, .int 0, .int 0, .int 0, .int (-1), .ref m_fresh, .ref m_waits, .int 0, .int 0, .int 0, .ref m_figures, .ref m_pile, .long 0, .ref m_times, .ref m_far, .ref m_queue, .ref m_months, .ref m_ways, .ref m_waysOn, .ref m_many, .ref m_width, .ref m_numbers, .ref m_moving])), (m_many, .inl (cI, 4, .inl manyF)), (m_width, .inl (cI2, 4, .inl wf)), (m_numbers, .inl (cJ, 240, .inr (.inl nf)))] s.heap.size = A at hD ⊢
  have hA : ∀ q : Nat, s.heap.size ≤ q → A q := fun q h => by rw [← hAe]; exact Or.inr h
  have hS : va_S A s.heap s.heap [] := va_S.rf
  have hP : va_P (dC, dI) vwCl [(h0, .inr (8, [.int 0, .ref m_world, .ref m_images, .ref m_hasImage, .ref m_luck, .ref m_tape, .int 0, .ref m_five, .int 0, .int 0, .int 0, .int 0, .int 0, .int 0, .int (-1), .ref m_fresh, .ref m_waits, .int 0, .int 0, .int 0, .ref m_figures, .ref m_pile, .long 0, .ref m_times, .ref m_far, .ref m_queue, .ref m_months, .ref m_ways, .ref m_waysOn, .ref m_many, .ref m_width, .ref m_numbers, .ref m_moving])), (m_many, .inl (cI, 4, .inl manyF)), (m_width, .inl (cI2, 4, .inl wf)), (m_numbers, .inl (cJ, 240, .inr (.inl nf)))] s.heap := hP
  have hl := lv_entry ([.ref h0, .int a1, .int a2, .int a3]) (n := 5) (Nat.le_of_ble_eq_true rfl)
  rw [lg_entry_eq]
  generalize (lg_sl ([.ref h0, .int a1, .int a2, .int a3]) ++ List.replicate (5 - (lg_sl ([.ref h0, .int a1, .int a2, .int a3])).length) Slot.unset).toArray = ls at hl ⊢
  have hl : lv_has ls 5 [(0, .ref h0), (1, .int a1), (2, .int a2), (3, .int a3)] := hl
  refine lv_iload_n hx hb dX10_row_0 rfl (lv_at hl 1 rfl) ?_
  refine vp_callSi (W.runS (As := [.int a1]) (rest := []) ⟨hx, hb, hml, hown, hts⟩ (kX10_isSlot l dC dI a1) (va_cwS 1 hts gX10_row__X10_isSlot_S369 rfl rfl rfl (by decide +kernel) ⟨lel 2 2 rfl, lel 45 45 rfl⟩) ⟨pn_fb, pn_use⟩ rfl rfl hl.1 rfl (lv_room (Nat.le_of_ble_eq_true rfl)) dX10_row_1 ⟨lel 0 0 rfl, lel 0 0 rfl⟩) (fun r_1 hr_1 => ?_)
  refine lv_if_eq (tgt := 25) hx hb dX10_row_4 (by decide) (fun c_2 => ?_) (fun c_2 => ?_)
  ·
    refine lv_bipush (v := (-2)) hx hb dX10_row_25 (by decide) ?_
    have hP9 := hP.sub (ws' := []) [] rfl
    have hD9 := hD.sub (ws' := []) [] (by decide) rfl
    have hK9 := hK.sub (tys' := []) [] rfl
    exact W.iret (v := (-2)) hx hb hr (fun t ht hW => ⟨⟨(-2), (), rfl, rw_a (hr_1.symm.trans c_2), by rw [ht]; exact hP9, va_K.moved hW.alike hK9, hD9⟩, hS.F ht⟩) hS.2.2 dX10_row_27
  ·
    refine lv_iload_n hx hb dX10_row_7 rfl (lv_at hl 2 rfl) ?_
    refine lv_i2l (v := a2.toInt64) hx hb dX10_row_8 rfl ?_
    refine lv_lconst (v := 0) hx hb dX10_row_9 (by decide) ?_
    refine lv_ldc2 (v := 3) hx hb hown (hts (.constantLong RX10 375 (3)) (List.mem_of_getElem? (i := 5) rfl)) dX10_row_10 ?_
    refine vp_callSi (W.runS (As := [.long a2.toInt64, .long 0, .long 3]) (rest := []) ⟨hx, hb, hml, hown, hts⟩ (kX10_in l dC dI a2.toInt64 0 3) (va_cwS 3 hts gX10_row__X10_in_S82 rfl rfl rfl (by decide +kernel) ⟨lel 1 2 rfl, lel 25 45 rfl⟩) ⟨pn_fb, pn_use⟩ rfl rfl hl.1 rfl (lv_room (Nat.le_of_ble_eq_true rfl)) dX10_row_13 ⟨lel 0 0 rfl, lel 0 0 rfl⟩) (fun r_3 hr_3 => ?_)
    refine lv_if_eq (tgt := 25) hx hb dX10_row_16 (by decide) (fun c_4 => ?_) (fun c_4 => ?_)
    ·
      refine lv_bipush (v := (-2)) hx hb dX10_row_25 (by decide) ?_
      have hP9 := hP.sub (ws' := []) [] rfl
      have hD9 := hD.sub (ws' := []) [] (by decide) rfl
      have hK9 := hK.sub (tys' := []) [] rfl
      exact W.iret (v := (-2)) hx hb hr (fun t ht hW => ⟨⟨(-2), (), rfl, rw_b ((inr_wi a2 0 3).symm.trans (hr_3.symm.trans c_4)), by rw [ht]; exact hP9, va_K.moved hW.alike hK9, hD9⟩, hS.F ht⟩) hS.2.2 dX10_row_27
    ·
      refine lv_iload_n hx hb dX10_row_19 rfl (lv_at hl 3 rfl) ?_
      refine lv_bipush (v := 60) hx hb dX10_row_20 (by decide) ?_
      refine lv_icmp_le (tgt := 28) hx hb dX10_row_22 (by decide) (fun c_5 => ?_) (fun c_5 => ?_)
      ·
        refine lv_iload_n hx hb dX10_row_28 rfl (lv_at hl 3 rfl) ?_
        refine lv_if_ge (tgt := 35) hx hb dX10_row_29 (by decide) (fun c_6 => ?_) (fun c_6 => ?_)
        ·
          rcases wi_4 (fun e => c_2 (hr_1.trans e)) with rfl | rfl | rfl | rfl
          ·
            refine lv_aload_n hx hb dX10_row_35 rfl (lv_at hl 0 rfl) ?_
            refine va_get (D := (dC, dI)) (ci := 8) (v := .ref m_many) (C := RX10) (T := TX10) (N := 33) hx hb hts iX10_row_X10 hown hK hP 0 rfl rfl 29 (by decide) (hts (.fieldLink RX10 65 "LuckyTicketModel" "many" "[I") (List.mem_of_getElem? (i := 9) rfl)) (fun _ h9 => h9) rfl dX10_row_36 ?_
            refine lv_iload_n hx hb dX10_row_39 rfl (lv_at hl 1 rfl) ?_
            refine lv_iload_n hx hb dX10_row_40 rfl (lv_at hl 3 rfl) ?_
            refine va_iast hx hb hK hP hD hS 1 0 rfl rfl (vp_in_lit (by decide)) dX10_row_41 (fun H locs hP hD hS => ?_)
            have hP : va_P (dC, dI) vwCl [(h0, .inr (8, [.int 0, .ref m_world, .ref m_images, .ref m_hasImage, .ref m_luck, .ref m_tape, .int 0, .ref m_five, .int 0, .int 0, .int 0, .int 0, .int 0, .int 0, .int (-1), .ref m_fresh, .ref m_waits, .int 0, .int 0, .int 0, .ref m_figures, .ref m_pile, .long 0, .ref m_times, .ref m_far, .ref m_queue, .ref m_months, .ref m_ways, .ref m_waysOn, .ref m_many, .ref m_width, .ref m_numbers, .ref m_moving])), (m_many, .inl (cI, 4, .inl (upd manyF (0 : Int32).toNatClampNeg a3))), (m_width, .inl (cI2, 4, .inl wf)), (m_numbers, .inl (cJ, 240, .inr (.inl nf)))] H := hP
            have hD : va_D A [(h0, .inr (8, [.int 0, .ref m_world, .ref m_images, .ref m_hasImage, .ref m_luck, .ref m_tape, .int 0, .ref m_five, .int 0, .int 0, .int 0, .int 0, .int 0, .int 0, .int (-1), .ref m_fresh, .ref m_waits, .int 0, .int 0, .int 0, .ref m_figures, .ref m_pile, .long 0, .ref m_times, .ref m_far, .ref m_queue, .ref m_months, .ref m_ways, .ref m_waysOn, .ref m_many, .ref m_width, .ref m_numbers, .ref m_moving])), (m_many, .inl (cI, 4, .inl (upd manyF (0 : Int32).toNatClampNeg a3))), (m_width, .inl (cI2, 4, .inl wf)), (m_numbers, .inl (cJ, 240, .inr (.inl nf)))] := hD
            refine lv_aload_n hx hb dX10_row_42 rfl (lv_at hl 0 rfl) ?_
            refine va_get (D := (dC, dI)) (ci := 8) (v := .ref m_width) (C := RX10) (T := TX10) (N := 33) hx hb hts iX10_row_X10 hown hK hP 0 rfl rfl 30 (by decide) (hts (.fieldLink RX10 68 "LuckyTicketModel" "width" "[I") (List.mem_of_getElem? (i := 10) rfl)) (fun _ h9 => h9) rfl dX10_row_43 ?_
            refine lv_iload_n hx hb dX10_row_46 rfl (lv_at hl 1 rfl) ?_
            refine lv_iload_n hx hb dX10_row_47 rfl (lv_at hl 2 rfl) ?_
            refine va_iast hx hb hK hP hD hS 2 1 rfl rfl (vp_in_lit (by decide)) dX10_row_48 (fun H locs hP hD hS => ?_)
            have hP : va_P (dC, dI) vwCl [(h0, .inr (8, [.int 0, .ref m_world, .ref m_images, .ref m_hasImage, .ref m_luck, .ref m_tape, .int 0, .ref m_five, .int 0, .int 0, .int 0, .int 0, .int 0, .int 0, .int (-1), .ref m_fresh, .ref m_waits, .int 0, .int 0, .int 0, .ref m_figures, .ref m_pile, .long 0, .ref m_times, .ref m_far, .ref m_queue, .ref m_months, .ref m_ways, .ref m_waysOn, .ref m_many, .ref m_width, .ref m_numbers, .ref m_moving])), (m_many, .inl (cI, 4, .inl (upd manyF (0 : Int32).toNatClampNeg a3))), (m_width, .inl (cI2, 4, .inl (upd wf (0 : Int32).toNatClampNeg a2))), (m_numbers, .inl (cJ, 240, .inr (.inl nf)))] H := hP
            have hD : va_D A [(h0, .inr (8, [.int 0, .ref m_world, .ref m_images, .ref m_hasImage, .ref m_luck, .ref m_tape, .int 0, .ref m_five, .int 0, .int 0, .int 0, .int 0, .int 0, .int 0, .int (-1), .ref m_fresh, .ref m_waits, .int 0, .int 0, .int 0, .ref m_figures, .ref m_pile, .long 0, .ref m_times, .ref m_far, .ref m_queue, .ref m_months, .ref m_ways, .ref m_waysOn, .ref m_many, .ref m_width, .ref m_numbers, .ref m_moving])), (m_many, .inl (cI, 4, .inl (upd manyF (0 : Int32).toNatClampNeg a3))), (m_width, .inl (cI2, 4, .inl (upd wf (0 : Int32).toNatClampNeg a2))), (m_numbers, .inl (cJ, 240, .inr (.inl nf)))] := hD
            refine lv_iconst (v := 0) hx hb dX10_row_49 (by decide) ?_
            refine lv_istore (lv' := [(4, .int 0), (0, .ref h0), (1, .int 0), (2, .int a2), (3, .int a3)]) hx hb dX10_row_50 hl (by decide) rfl (fun ls hl => ?_)
            refine loopW (σ := Nat × (Nat → Int64)) (fun v => 60 - v.1) (fun v H locs ls => (v.1 ≤ 60) ∧ va_P (dC, dI) vwCl [(h0, .inr (8, [.int 0, .ref m_world, .ref m_images, .ref m_hasImage, .ref m_luck, .ref m_tape, .int 0, .ref m_five, .int 0, .int 0, .int 0, .int 0, .int 0, .int 0, .int (-1), .ref m_fresh, .ref m_waits, .int 0, .int 0, .int 0, .ref m_figures, .ref m_pile, .long 0, .ref m_times, .ref m_far, .ref m_queue, .ref m_months, .ref m_ways, .ref m_waysOn, .ref m_many, .ref m_width, .ref m_numbers, .ref m_moving])), (m_many, .inl (cI, 4, .inl (upd manyF (0 : Int32).toNatClampNeg a3))), (m_width, .inl (cI2, 4, .inl (upd wf (0 : Int32).toNatClampNeg a2))), (m_numbers, .inl (cJ, 240, .inr (.inl v.2)))] H ∧ va_D A [(h0, .inr (8, [.int 0, .ref m_world, .ref m_images, .ref m_hasImage, .ref m_luck, .ref m_tape, .int 0, .ref m_five, .int 0, .int 0, .int 0, .int 0, .int 0, .int 0, .int (-1), .ref m_fresh, .ref m_waits, .int 0, .int 0, .int 0, .ref m_figures, .ref m_pile, .long 0, .ref m_times, .ref m_far, .ref m_queue, .ref m_months, .ref m_ways, .ref m_waysOn, .ref m_many, .ref m_width, .ref m_numbers, .ref m_moving])), (m_many, .inl (cI, 4, .inl (upd manyF (0 : Int32).toNatClampNeg a3))), (m_width, .inl (cI2, 4, .inl (upd wf (0 : Int32).toNatClampNeg a2))), (m_numbers, .inl (cJ, 240, .inr (.inl v.2)))] ∧ va_S A s.heap H locs ∧ lv_has ls 5 [(4, .int (nI v.1)), (0, .ref h0), (1, .int 0), (2, .int a2), (3, .int a3)]) (fun v H locs ls hI ih => ?_) (0, nf) ⟨(show 0 ≤ 60 from Nat.zero_le _), hP, hD, hS, hl⟩
            obtain ⟨i, f1⟩ := v
            obtain ⟨hi, hP, hD, hS, hl⟩ := hI
            have hi : i ≤ 60 := hi
            have hP : va_P (dC, dI) vwCl [(h0, .inr (8, [.int 0, .ref m_world, .ref m_images, .ref m_hasImage, .ref m_luck, .ref m_tape, .int 0, .ref m_five, .int 0, .int 0, .int 0, .int 0, .int 0, .int 0, .int (-1), .ref m_fresh, .ref m_waits, .int 0, .int 0, .int 0, .ref m_figures, .ref m_pile, .long 0, .ref m_times, .ref m_far, .ref m_queue, .ref m_months, .ref m_ways, .ref m_waysOn, .ref m_many, .ref m_width, .ref m_numbers, .ref m_moving])), (m_many, .inl (cI, 4, .inl (upd manyF (0 : Int32).toNatClampNeg a3))), (m_width, .inl (cI2, 4, .inl (upd wf (0 : Int32).toNatClampNeg a2))), (m_numbers, .inl (cJ, 240, .inr (.inl f1)))] H := hP
            have hD : va_D A [(h0, .inr (8, [.int 0, .ref m_world, .ref m_images, .ref m_hasImage, .ref m_luck, .ref m_tape, .int 0, .ref m_five, .int 0, .int 0, .int 0, .int 0, .int 0, .int 0, .int (-1), .ref m_fresh, .ref m_waits, .int 0, .int 0, .int 0, .ref m_figures, .ref m_pile, .long 0, .ref m_times, .ref m_far, .ref m_queue, .ref m_months, .ref m_ways, .ref m_waysOn, .ref m_many, .ref m_width, .ref m_numbers, .ref m_moving])), (m_many, .inl (cI, 4, .inl (upd manyF (0 : Int32).toNatClampNeg a3))), (m_width, .inl (cI2, 4, .inl (upd wf (0 : Int32).toNatClampNeg a2))), (m_numbers, .inl (cJ, 240, .inr (.inl f1)))] := hD
            have hl : lv_has ls 5 [(4, .int (nI i)), (0, .ref h0), (1, .int 0), (2, .int a2), (3, .int a3)] := hl
            refine lv_iload hx hb dX10_row_52 (lv_at hl 0 rfl) ?_
            refine lv_bipush (v := 60) hx hb dX10_row_54 (by decide) ?_
            refine lv_icmp_ge (tgt := 78) hx hb dX10_row_56 (by decide) (fun c_7 => ?_) (fun c_7 => ?_)
            ·
              have hge : 60 ≤ i := (nI_leI (a := 60) (b := i) (by decide) (by omega)).mp c_7
              refine lv_iconst (v := 0) hx hb dX10_row_78 (by decide) ?_
              have hP9 := hP.sub (ws' := []) [] rfl
              have hD9 := hD.sub (ws' := []) [] (by decide) rfl
              have hK9 := hK.sub (tys' := []) [] rfl
              exact W.iret (v := 0) hx hb hr (fun t ht hW => ⟨⟨0, (), rfl, rw_e (fun e => c_2 (hr_1.trans e)) (fun e => c_4 (hr_3.trans ((inr_wi a2 0 3).trans e))) c_5 c_6, by rw [ht]; exact hP9, va_K.moved hW.alike hK9, hD9⟩, hS.F ht⟩) hS.2.2 dX10_row_79
            ·
              have hlt : i < 60 := Nat.lt_of_not_le (fun q => c_7 ((nI_leI (a := 60) (b := i) (by decide) (by omega)).mpr q))
              refine lv_aload_n hx hb dX10_row_59 rfl (lv_at hl 1 rfl) ?_
              refine va_get (D := (dC, dI)) (ci := 8) (v := .ref m_numbers) (C := RX10) (T := TX10) (N := 33) hx hb hts iX10_row_X10 hown hK hP 0 rfl rfl 31 (by decide) (hts (.fieldLink RX10 71 "LuckyTicketModel" "numbers" "[J") (List.mem_of_getElem? (i := 11) rfl)) (fun _ h9 => h9) rfl dX10_row_60 ?_
              refine lv_bipush (v := 60) hx hb dX10_row_63 (by decide) ?_
              refine lv_iload_n hx hb dX10_row_65 rfl (lv_at hl 2 rfl) ?_
              refine lv_imul hx hb dX10_row_66 ?_
              refine lv_topi (fun z_8 ez_8 => ?_)
              obtain rfl : z_8 = 0 := ez_8.trans (by decide)
              refine lv_iload hx hb dX10_row_67 (lv_at hl 0 rfl) ?_
              refine lv_iadd hx hb dX10_row_69 ?_
              refine lv_topi (fun z_9 ez_9 => ?_)
              refine lv_lconst (v := 0) hx hb dX10_row_70 (by decide) ?_
              refine va_last hx hb hK hP hD hS 3 2 rfl rfl (by rw [ez_9]; exact (nI_add 0 i) ▸ vp_in_nI (n := 0 + i) (by omega) (by decide)) dX10_row_71 (fun H locs hP hD hS => ?_)
              have hP : va_P (dC, dI) vwCl [(h0, .inr (8, [.int 0, .ref m_world, .ref m_images, .ref m_hasImage, .ref m_luck, .ref m_tape, .int 0, .ref m_five, .int 0, .int 0, .int 0, .int 0, .int 0, .int 0, .int (-1), .ref m_fresh, .ref m_waits, .int 0, .int 0, .int 0, .ref m_figures, .ref m_pile, .long 0, .ref m_times, .ref m_far, .ref m_queue, .ref m_months, .ref m_ways, .ref m_waysOn, .ref m_many, .ref m_width, .ref m_numbers, .ref m_moving])), (m_many, .inl (cI, 4, .inl (upd manyF (0 : Int32).toNatClampNeg a3))), (m_width, .inl (cI2, 4, .inl (upd wf (0 : Int32).toNatClampNeg a2))), (m_numbers, .inl (cJ, 240, .inr (.inl (vp_updL f1 (z_9 : Int32).toNatClampNeg 0))))] H := hP
              have hD : va_D A [(h0, .inr (8, [.int 0, .ref m_world, .ref m_images, .ref m_hasImage, .ref m_luck, .ref m_tape, .int 0, .ref m_five, .int 0, .int 0, .int 0, .int 0, .int 0, .int 0, .int (-1), .ref m_fresh, .ref m_waits, .int 0, .int 0, .int 0, .ref m_figures, .ref m_pile, .long 0, .ref m_times, .ref m_far, .ref m_queue, .ref m_months, .ref m_ways, .ref m_waysOn, .ref m_many, .ref m_width, .ref m_numbers, .ref m_moving])), (m_many, .inl (cI, 4, .inl (upd manyF (0 : Int32).toNatClampNeg a3))), (m_width, .inl (cI2, 4, .inl (upd wf (0 : Int32).toNatClampNeg a2))), (m_numbers, .inl (cJ, 240, .inr (.inl (vp_updL f1 (z_9 : Int32).toNatClampNeg 0))))] := hD
              obtain ⟨z_10, ez_10⟩ : ∃ y : Int32, y = nI i + 1 := ⟨_, rfl⟩
              refine lv_iinc (v := z_10) (lv' := [(4, .int z_10), (0, .ref h0), (1, .int 0), (2, .int a2), (3, .int a3)]) hx hb dX10_row_72 hl (k := 0) rfl (by rw [ez_10]; rfl) (by decide) rfl (fun ls hl => ?_)
              refine lv_goto (tgt := 52) hx hb dX10_row_75 (by decide) ?_
              obtain rfl : z_10 = nI (i + 1) := ez_10.trans (nI_1 i)
              exact ih (i + 1, vp_updL f1 (z_9 : Int32).toNatClampNeg 0) _ _ _ ⟨(show (i + 1) ≤ 60 from hlt), hP, hD, hS, lv_sub hl [0, 1, 2, 3, 4] rfl⟩ (show 60 - (i + 1) < 60 - i by omega)
          ·
            refine lv_aload_n hx hb dX10_row_35 rfl (lv_at hl 0 rfl) ?_
            refine va_get (D := (dC, dI)) (ci := 8) (v := .ref m_many) (C := RX10) (T := TX10) (N := 33) hx hb hts iX10_row_X10 hown hK hP 0 rfl rfl 29 (by decide) (hts (.fieldLink RX10 65 "LuckyTicketModel" "many" "[I") (List.mem_of_getElem? (i := 9) rfl)) (fun _ h9 => h9) rfl dX10_row_36 ?_
            refine lv_iload_n hx hb dX10_row_39 rfl (lv_at hl 1 rfl) ?_
            refine lv_iload_n hx hb dX10_row_40 rfl (lv_at hl 3 rfl) ?_
            refine va_iast hx hb hK hP hD hS 1 0 rfl rfl (vp_in_lit (by decide)) dX10_row_41 (fun H locs hP hD hS => ?_)
            have hP : va_P (dC, dI) vwCl [(h0, .inr (8, [.int 0, .ref m_world, .ref m_images, .ref m_hasImage, .ref m_luck, .ref m_tape, .int 0, .ref m_five, .int 0, .int 0, .int 0, .int 0, .int 0, .int 0, .int (-1), .ref m_fresh, .ref m_waits, .int 0, .int 0, .int 0, .ref m_figures, .ref m_pile, .long 0, .ref m_times, .ref m_far, .ref m_queue, .ref m_months, .ref m_ways, .ref m_waysOn, .ref m_many, .ref m_width, .ref m_numbers, .ref m_moving])), (m_many, .inl (cI, 4, .inl (upd manyF (1 : Int32).toNatClampNeg a3))), (m_width, .inl (cI2, 4, .inl wf)), (m_numbers, .inl (cJ, 240, .inr (.inl nf)))] H := hP
            have hD : va_D A [(h0, .inr (8, [.int 0, .ref m_world, .ref m_images, .ref m_hasImage, .ref m_luck, .ref m_tape, .int 0, .ref m_five, .int 0, .int 0, .int 0, .int 0, .int 0, .int 0, .int (-1), .ref m_fresh, .ref m_waits, .int 0, .int 0, .int 0, .ref m_figures, .ref m_pile, .long 0, .ref m_times, .ref m_far, .ref m_queue, .ref m_months, .ref m_ways, .ref m_waysOn, .ref m_many, .ref m_width, .ref m_numbers, .ref m_moving])), (m_many, .inl (cI, 4, .inl (upd manyF (1 : Int32).toNatClampNeg a3))), (m_width, .inl (cI2, 4, .inl wf)), (m_numbers, .inl (cJ, 240, .inr (.inl nf)))] := hD
            refine lv_aload_n hx hb dX10_row_42 rfl (lv_at hl 0 rfl) ?_
            refine va_get (D := (dC, dI)) (ci := 8) (v := .ref m_width) (C := RX10) (T := TX10) (N := 33) hx hb hts iX10_row_X10 hown hK hP 0 rfl rfl 30 (by decide) (hts (.fieldLink RX10 68 "LuckyTicketModel" "width" "[I") (List.mem_of_getElem? (i := 10) rfl)) (fun _ h9 => h9) rfl dX10_row_43 ?_
            refine lv_iload_n hx hb dX10_row_46 rfl (lv_at hl 1 rfl) ?_
            refine lv_iload_n hx hb dX10_row_47 rfl (lv_at hl 2 rfl) ?_
            refine va_iast hx hb hK hP hD hS 2 1 rfl rfl (vp_in_lit (by decide)) dX10_row_48 (fun H locs hP hD hS => ?_)
            have hP : va_P (dC, dI) vwCl [(h0, .inr (8, [.int 0, .ref m_world, .ref m_images, .ref m_hasImage, .ref m_luck, .ref m_tape, .int 0, .ref m_five, .int 0, .int 0, .int 0, .int 0, .int 0, .int 0, .int (-1), .ref m_fresh, .ref m_waits, .int 0, .int 0, .int 0, .ref m_figures, .ref m_pile, .long 0, .ref m_times, .ref m_far, .ref m_queue, .ref m_months, .ref m_ways, .ref m_waysOn, .ref m_many, .ref m_width, .ref m_numbers, .ref m_moving])), (m_many, .inl (cI, 4, .inl (upd manyF (1 : Int32).toNatClampNeg a3))), (m_width, .inl (cI2, 4, .inl (upd wf (1 : Int32).toNatClampNeg a2))), (m_numbers, .inl (cJ, 240, .inr (.inl nf)))] H := hP
            have hD : va_D A [(h0, .inr (8, [.int 0, .ref m_world, .ref m_images, .ref m_hasImage, .ref m_luck, .ref m_tape, .int 0, .ref m_five, .int 0, .int 0, .int 0, .int 0, .int 0, .int 0, .int (-1), .ref m_fresh, .ref m_waits, .int 0, .int 0, .int 0, .ref m_figures, .ref m_pile, .long 0, .ref m_times, .ref m_far, .ref m_queue, .ref m_months, .ref m_ways, .ref m_waysOn, .ref m_many, .ref m_width, .ref m_numbers, .ref m_moving])), (m_many, .inl (cI, 4, .inl (upd manyF (1 : Int32).toNatClampNeg a3))), (m_width, .inl (cI2, 4, .inl (upd wf (1 : Int32).toNatClampNeg a2))), (m_numbers, .inl (cJ, 240, .inr (.inl nf)))] := hD
            refine lv_iconst (v := 0) hx hb dX10_row_49 (by decide) ?_
            refine lv_istore (lv' := [(4, .int 0), (0, .ref h0), (1, .int 1), (2, .int a2), (3, .int a3)]) hx hb dX10_row_50 hl (by decide) rfl (fun ls hl => ?_)
            refine loopW (σ := Nat × (Nat → Int64)) (fun v => 60 - v.1) (fun v H locs ls => (v.1 ≤ 60) ∧ va_P (dC, dI) vwCl [(h0, .inr (8, [.int 0, .ref m_world, .ref m_images, .ref m_hasImage, .ref m_luck, .ref m_tape, .int 0, .ref m_five, .int 0, .int 0, .int 0, .int 0, .int 0, .int 0, .int (-1), .ref m_fresh, .ref m_waits, .int 0, .int 0, .int 0, .ref m_figures, .ref m_pile, .long 0, .ref m_times, .ref m_far, .ref m_queue, .ref m_months, .ref m_ways, .ref m_waysOn, .ref m_many, .ref m_width, .ref m_numbers, .ref m_moving])), (m_many, .inl (cI, 4, .inl (upd manyF (1 : Int32).toNatClampNeg a3))), (m_width, .inl (cI2, 4, .inl (upd wf (1 : Int32).toNatClampNeg a2))), (m_numbers, .inl (cJ, 240, .inr (.inl v.2)))] H ∧ va_D A [(h0, .inr (8, [.int 0, .ref m_world, .ref m_images, .ref m_hasImage, .ref m_luck, .ref m_tape, .int 0, .ref m_five, .int 0, .int 0, .int 0, .int 0, .int 0, .int 0, .int (-1), .ref m_fresh, .ref m_waits, .int 0, .int 0, .int 0, .ref m_figures, .ref m_pile, .long 0, .ref m_times, .ref m_far, .ref m_queue, .ref m_months, .ref m_ways, .ref m_waysOn, .ref m_many, .ref m_width, .ref m_numbers, .ref m_moving])), (m_many, .inl (cI, 4, .inl (upd manyF (1 : Int32).toNatClampNeg a3))), (m_width, .inl (cI2, 4, .inl (upd wf (1 : Int32).toNatClampNeg a2))), (m_numbers, .inl (cJ, 240, .inr (.inl v.2)))] ∧ va_S A s.heap H locs ∧ lv_has ls 5 [(4, .int (nI v.1)), (0, .ref h0), (1, .int 1), (2, .int a2), (3, .int a3)]) (fun v H locs ls hI ih => ?_) (0, nf) ⟨(show 0 ≤ 60 from Nat.zero_le _), hP, hD, hS, hl⟩
            obtain ⟨i, f1⟩ := v
            obtain ⟨hi, hP, hD, hS, hl⟩ := hI
            have hi : i ≤ 60 := hi
            have hP : va_P (dC, dI) vwCl [(h0, .inr (8, [.int 0, .ref m_world, .ref m_images, .ref m_hasImage, .ref m_luck, .ref m_tape, .int 0, .ref m_five, .int 0, .int 0, .int 0, .int 0, .int 0, .int 0, .int (-1), .ref m_fresh, .ref m_waits, .int 0, .int 0, .int 0, .ref m_figures, .ref m_pile, .long 0, .ref m_times, .ref m_far, .ref m_queue, .ref m_months, .ref m_ways, .ref m_waysOn, .ref m_many, .ref m_width, .ref m_numbers, .ref m_moving])), (m_many, .inl (cI, 4, .inl (upd manyF (1 : Int32).toNatClampNeg a3))), (m_width, .inl (cI2, 4, .inl (upd wf (1 : Int32).toNatClampNeg a2))), (m_numbers, .inl (cJ, 240, .inr (.inl f1)))] H := hP
            have hD : va_D A [(h0, .inr (8, [.int 0, .ref m_world, .ref m_images, .ref m_hasImage, .ref m_luck, .ref m_tape, .int 0, .ref m_five, .int 0, .int 0, .int 0, .int 0, .int 0, .int 0, .int (-1), .ref m_fresh, .ref m_waits, .int 0, .int 0, .int 0, .ref m_figures, .ref m_pile, .long 0, .ref m_times, .ref m_far, .ref m_queue, .ref m_months, .ref m_ways, .ref m_waysOn, .ref m_many, .ref m_width, .ref m_numbers, .ref m_moving])), (m_many, .inl (cI, 4, .inl (upd manyF (1 : Int32).toNatClampNeg a3))), (m_width, .inl (cI2, 4, .inl (upd wf (1 : Int32).toNatClampNeg a2))), (m_numbers, .inl (cJ, 240, .inr (.inl f1)))] := hD
            have hl : lv_has ls 5 [(4, .int (nI i)), (0, .ref h0), (1, .int 1), (2, .int a2), (3, .int a3)] := hl
            refine lv_iload hx hb dX10_row_52 (lv_at hl 0 rfl) ?_
            refine lv_bipush (v := 60) hx hb dX10_row_54 (by decide) ?_
            refine lv_icmp_ge (tgt := 78) hx hb dX10_row_56 (by decide) (fun c_11 => ?_) (fun c_11 => ?_)
            ·
              have hge : 60 ≤ i := (nI_leI (a := 60) (b := i) (by decide) (by omega)).mp c_11
              refine lv_iconst (v := 0) hx hb dX10_row_78 (by decide) ?_
              have hP9 := hP.sub (ws' := []) [] rfl
              have hD9 := hD.sub (ws' := []) [] (by decide) rfl
              have hK9 := hK.sub (tys' := []) [] rfl
              exact W.iret (v := 0) hx hb hr (fun t ht hW => ⟨⟨0, (), rfl, rw_e (fun e => c_2 (hr_1.trans e)) (fun e => c_4 (hr_3.trans ((inr_wi a2 0 3).trans e))) c_5 c_6, by rw [ht]; exact hP9, va_K.moved hW.alike hK9, hD9⟩, hS.F ht⟩) hS.2.2 dX10_row_79
            ·
              have hlt : i < 60 := Nat.lt_of_not_le (fun q => c_11 ((nI_leI (a := 60) (b := i) (by decide) (by omega)).mpr q))
              refine lv_aload_n hx hb dX10_row_59 rfl (lv_at hl 1 rfl) ?_
              refine va_get (D := (dC, dI)) (ci := 8) (v := .ref m_numbers) (C := RX10) (T := TX10) (N := 33) hx hb hts iX10_row_X10 hown hK hP 0 rfl rfl 31 (by decide) (hts (.fieldLink RX10 71 "LuckyTicketModel" "numbers" "[J") (List.mem_of_getElem? (i := 11) rfl)) (fun _ h9 => h9) rfl dX10_row_60 ?_
              refine lv_bipush (v := 60) hx hb dX10_row_63 (by decide) ?_
              refine lv_iload_n hx hb dX10_row_65 rfl (lv_at hl 2 rfl) ?_
              refine lv_imul hx hb dX10_row_66 ?_
              refine lv_topi (fun z_12 ez_12 => ?_)
              obtain rfl : z_12 = 60 := ez_12.trans (by decide)
              refine lv_iload hx hb dX10_row_67 (lv_at hl 0 rfl) ?_
              refine lv_iadd hx hb dX10_row_69 ?_
              refine lv_topi (fun z_13 ez_13 => ?_)
              refine lv_lconst (v := 0) hx hb dX10_row_70 (by decide) ?_
              refine va_last hx hb hK hP hD hS 3 2 rfl rfl (by rw [ez_13]; exact (nI_add 60 i) ▸ vp_in_nI (n := 60 + i) (by omega) (by decide)) dX10_row_71 (fun H locs hP hD hS => ?_)
              have hP : va_P (dC, dI) vwCl [(h0, .inr (8, [.int 0, .ref m_world, .ref m_images, .ref m_hasImage, .ref m_luck, .ref m_tape, .int 0, .ref m_five, .int 0, .int 0, .int 0, .int 0, .int 0, .int 0, .int (-1), .ref m_fresh, .ref m_waits, .int 0, .int 0, .int 0, .ref m_figures, .ref m_pile, .long 0, .ref m_times, .ref m_far, .ref m_queue, .ref m_months, .ref m_ways, .ref m_waysOn, .ref m_many, .ref m_width, .ref m_numbers, .ref m_moving])), (m_many, .inl (cI, 4, .inl (upd manyF (1 : Int32).toNatClampNeg a3))), (m_width, .inl (cI2, 4, .inl (upd wf (1 : Int32).toNatClampNeg a2))), (m_numbers, .inl (cJ, 240, .inr (.inl (vp_updL f1 (z_13 : Int32).toNatClampNeg 0))))] H := hP
              have hD : va_D A [(h0, .inr (8, [.int 0, .ref m_world, .ref m_images, .ref m_hasImage, .ref m_luck, .ref m_tape, .int 0, .ref m_five, .int 0, .int 0, .int 0, .int 0, .int 0, .int 0, .int (-1), .ref m_fresh, .ref m_waits, .int 0, .int 0, .int 0, .ref m_figures, .ref m_pile, .long 0, .ref m_times, .ref m_far, .ref m_queue, .ref m_months, .ref m_ways, .ref m_waysOn, .ref m_many, .ref m_width, .ref m_numbers, .ref m_moving])), (m_many, .inl (cI, 4, .inl (upd manyF (1 : Int32).toNatClampNeg a3))), (m_width, .inl (cI2, 4, .inl (upd wf (1 : Int32).toNatClampNeg a2))), (m_numbers, .inl (cJ, 240, .inr (.inl (vp_updL f1 (z_13 : Int32).toNatClampNeg 0))))] := hD
              obtain ⟨z_14, ez_14⟩ : ∃ y : Int32, y = nI i + 1 := ⟨_, rfl⟩
              refine lv_iinc (v := z_14) (lv' := [(4, .int z_14), (0, .ref h0), (1, .int 1), (2, .int a2), (3, .int a3)]) hx hb dX10_row_72 hl (k := 0) rfl (by rw [ez_14]; rfl) (by decide) rfl (fun ls hl => ?_)
              refine lv_goto (tgt := 52) hx hb dX10_row_75 (by decide) ?_
              obtain rfl : z_14 = nI (i + 1) := ez_14.trans (nI_1 i)
              exact ih (i + 1, vp_updL f1 (z_13 : Int32).toNatClampNeg 0) _ _ _ ⟨(show (i + 1) ≤ 60 from hlt), hP, hD, hS, lv_sub hl [0, 1, 2, 3, 4] rfl⟩ (show 60 - (i + 1) < 60 - i by omega)
          ·
            refine lv_aload_n hx hb dX10_row_35 rfl (lv_at hl 0 rfl) ?_
            refine va_get (D := (dC, dI)) (ci := 8) (v := .ref m_many) (C := RX10) (T := TX10) (N := 33) hx hb hts iX10_row_X10 hown hK hP 0 rfl rfl 29 (by decide) (hts (.fieldLink RX10 65 "LuckyTicketModel" "many" "[I") (List.mem_of_getElem? (i := 9) rfl)) (fun _ h9 => h9) rfl dX10_row_36 ?_
            refine lv_iload_n hx hb dX10_row_39 rfl (lv_at hl 1 rfl) ?_
            refine lv_iload_n hx hb dX10_row_40 rfl (lv_at hl 3 rfl) ?_
            refine va_iast hx hb hK hP hD hS 1 0 rfl rfl (vp_in_lit (by decide)) dX10_row_41 (fun H locs hP hD hS => ?_)
            have hP : va_P (dC, dI) vwCl [(h0, .inr (8, [.int 0, .ref m_world, .ref m_images, .ref m_hasImage, .ref m_luck, .ref m_tape, .int 0, .ref m_five, .int 0, .int 0, .int 0, .int 0, .int 0, .int 0, .int (-1), .ref m_fresh, .ref m_waits, .int 0, .int 0, .int 0, .ref m_figures, .ref m_pile, .long 0, .ref m_times, .ref m_far, .ref m_queue, .ref m_months, .ref m_ways, .ref m_waysOn, .ref m_many, .ref m_width, .ref m_numbers, .ref m_moving])), (m_many, .inl (cI, 4, .inl (upd manyF (2 : Int32).toNatClampNeg a3))), (m_width, .inl (cI2, 4, .inl wf)), (m_numbers, .inl (cJ, 240, .inr (.inl nf)))] H := hP
            have hD : va_D A [(h0, .inr (8, [.int 0, .ref m_world, .ref m_images, .ref m_hasImage, .ref m_luck, .ref m_tape, .int 0, .ref m_five, .int 0, .int 0, .int 0, .int 0, .int 0, .int 0, .int (-1), .ref m_fresh, .ref m_waits, .int 0, .int 0, .int 0, .ref m_figures, .ref m_pile, .long 0, .ref m_times, .ref m_far, .ref m_queue, .ref m_months, .ref m_ways, .ref m_waysOn, .ref m_many, .ref m_width, .ref m_numbers, .ref m_moving])), (m_many, .inl (cI, 4, .inl (upd manyF (2 : Int32).toNatClampNeg a3))), (m_width, .inl (cI2, 4, .inl wf)), (m_numbers, .inl (cJ, 240, .inr (.inl nf)))] := hD
            refine lv_aload_n hx hb dX10_row_42 rfl (lv_at hl 0 rfl) ?_
            refine va_get (D := (dC, dI)) (ci := 8) (v := .ref m_width) (C := RX10) (T := TX10) (N := 33) hx hb hts iX10_row_X10 hown hK hP 0 rfl rfl 30 (by decide) (hts (.fieldLink RX10 68 "LuckyTicketModel" "width" "[I") (List.mem_of_getElem? (i := 10) rfl)) (fun _ h9 => h9) rfl dX10_row_43 ?_
            refine lv_iload_n hx hb dX10_row_46 rfl (lv_at hl 1 rfl) ?_
            refine lv_iload_n hx hb dX10_row_47 rfl (lv_at hl 2 rfl) ?_
            refine va_iast hx hb hK hP hD hS 2 1 rfl rfl (vp_in_lit (by decide)) dX10_row_48 (fun H locs hP hD hS => ?_)
            have hP : va_P (dC, dI) vwCl [(h0, .inr (8, [.int 0, .ref m_world, .ref m_images, .ref m_hasImage, .ref m_luck, .ref m_tape, .int 0, .ref m_five, .int 0, .int 0, .int 0, .int 0, .int 0, .int 0, .int (-1), .ref m_fresh, .ref m_waits, .int 0, .int 0, .int 0, .ref m_figures, .ref m_pile, .long 0, .ref m_times, .ref m_far, .ref m_queue, .ref m_months, .ref m_ways, .ref m_waysOn, .ref m_many, .ref m_width, .ref m_numbers, .ref m_moving])), (m_many, .inl (cI, 4, .inl (upd manyF (2 : Int32).toNatClampNeg a3))), (m_width, .inl (cI2, 4, .inl (upd wf (2 : Int32).toNatClampNeg a2))), (m_numbers, .inl (cJ, 240, .inr (.inl nf)))] H := hP
            have hD : va_D A [(h0, .inr (8, [.int 0, .ref m_world, .ref m_images, .ref m_hasImage, .ref m_luck, .ref m_tape, .int 0, .ref m_five, .int 0, .int 0, .int 0, .int 0, .int 0, .int 0, .int (-1), .ref m_fresh, .ref m_waits, .int 0, .int 0, .int 0, .ref m_figures, .ref m_pile, .long 0, .ref m_times, .ref m_far, .ref m_queue, .ref m_months, .ref m_ways, .ref m_waysOn, .ref m_many, .ref m_width, .ref m_numbers, .ref m_moving])), (m_many, .inl (cI, 4, .inl (upd manyF (2 : Int32).toNatClampNeg a3))), (m_width, .inl (cI2, 4, .inl (upd wf (2 : Int32).toNatClampNeg a2))), (m_numbers, .inl (cJ, 240, .inr (.inl nf)))] := hD
            refine lv_iconst (v := 0) hx hb dX10_row_49 (by decide) ?_
            refine lv_istore (lv' := [(4, .int 0), (0, .ref h0), (1, .int 2), (2, .int a2), (3, .int a3)]) hx hb dX10_row_50 hl (by decide) rfl (fun ls hl => ?_)
            refine loopW (σ := Nat × (Nat → Int64)) (fun v => 60 - v.1) (fun v H locs ls => (v.1 ≤ 60) ∧ va_P (dC, dI) vwCl [(h0, .inr (8, [.int 0, .ref m_world, .ref m_images, .ref m_hasImage, .ref m_luck, .ref m_tape, .int 0, .ref m_five, .int 0, .int 0, .int 0, .int 0, .int 0, .int 0, .int (-1), .ref m_fresh, .ref m_waits, .int 0, .int 0, .int 0, .ref m_figures, .ref m_pile, .long 0, .ref m_times, .ref m_far, .ref m_queue, .ref m_months, .ref m_ways, .ref m_waysOn, .ref m_many, .ref m_width, .ref m_numbers, .ref m_moving])), (m_many, .inl (cI, 4, .inl (upd manyF (2 : Int32).toNatClampNeg a3))), (m_width, .inl (cI2, 4, .inl (upd wf (2 : Int32).toNatClampNeg a2))), (m_numbers, .inl (cJ, 240, .inr (.inl v.2)))] H ∧ va_D A [(h0, .inr (8, [.int 0, .ref m_world, .ref m_images, .ref m_hasImage, .ref m_luck, .ref m_tape, .int 0, .ref m_five, .int 0, .int 0, .int 0, .int 0, .int 0, .int 0, .int (-1), .ref m_fresh, .ref m_waits, .int 0, .int 0, .int 0, .ref m_figures, .ref m_pile, .long 0, .ref m_times, .ref m_far, .ref m_queue, .ref m_months, .ref m_ways, .ref m_waysOn, .ref m_many, .ref m_width, .ref m_numbers, .ref m_moving])), (m_many, .inl (cI, 4, .inl (upd manyF (2 : Int32).toNatClampNeg a3))), (m_width, .inl (cI2, 4, .inl (upd wf (2 : Int32).toNatClampNeg a2))), (m_numbers, .inl (cJ, 240, .inr (.inl v.2)))] ∧ va_S A s.heap H locs ∧ lv_has ls 5 [(4, .int (nI v.1)), (0, .ref h0), (1, .int 2), (2, .int a2), (3, .int a3)]) (fun v H locs ls hI ih => ?_) (0, nf) ⟨(show 0 ≤ 60 from Nat.zero_le _), hP, hD, hS, hl⟩
            obtain ⟨i, f1⟩ := v
            obtain ⟨hi, hP, hD, hS, hl⟩ := hI
            have hi : i ≤ 60 := hi
            have hP : va_P (dC, dI) vwCl [(h0, .inr (8, [.int 0, .ref m_world, .ref m_images, .ref m_hasImage, .ref m_luck, .ref m_tape, .int 0, .ref m_five, .int 0, .int 0, .int 0, .int 0, .int 0, .int 0, .int (-1), .ref m_fresh, .ref m_waits, .int 0, .int 0, .int 0, .ref m_figures, .ref m_pile, .long 0, .ref m_times, .ref m_far, .ref m_queue, .ref m_months, .ref m_ways, .ref m_waysOn, .ref m_many, .ref m_width, .ref m_numbers, .ref m_moving])), (m_many, .inl (cI, 4, .inl (upd manyF (2 : Int32).toNatClampNeg a3))), (m_width, .inl (cI2, 4, .inl (upd wf (2 : Int32).toNatClampNeg a2))), (m_numbers, .inl (cJ, 240, .inr (.inl f1)))] H := hP
            have hD : va_D A [(h0, .inr (8, [.int 0, .ref m_world, .ref m_images, .ref m_hasImage, .ref m_luck, .ref m_tape, .int 0, .ref m_five, .int 0, .int 0, .int 0, .int 0, .int 0, .int 0, .int (-1), .ref m_fresh, .ref m_waits, .int 0, .int 0, .int 0, .ref m_figures, .ref m_pile, .long 0, .ref m_times, .ref m_far, .ref m_queue, .ref m_months, .ref m_ways, .ref m_waysOn, .ref m_many, .ref m_width, .ref m_numbers, .ref m_moving])), (m_many, .inl (cI, 4, .inl (upd manyF (2 : Int32).toNatClampNeg a3))), (m_width, .inl (cI2, 4, .inl (upd wf (2 : Int32).toNatClampNeg a2))), (m_numbers, .inl (cJ, 240, .inr (.inl f1)))] := hD
            have hl : lv_has ls 5 [(4, .int (nI i)), (0, .ref h0), (1, .int 2), (2, .int a2), (3, .int a3)] := hl
            refine lv_iload hx hb dX10_row_52 (lv_at hl 0 rfl) ?_
            refine lv_bipush (v := 60) hx hb dX10_row_54 (by decide) ?_
            refine lv_icmp_ge (tgt := 78) hx hb dX10_row_56 (by decide) (fun c_15 => ?_) (fun c_15 => ?_)
            ·
              have hge : 60 ≤ i := (nI_leI (a := 60) (b := i) (by decide) (by omega)).mp c_15
              refine lv_iconst (v := 0) hx hb dX10_row_78 (by decide) ?_
              have hP9 := hP.sub (ws' := []) [] rfl
              have hD9 := hD.sub (ws' := []) [] (by decide) rfl
              have hK9 := hK.sub (tys' := []) [] rfl
              exact W.iret (v := 0) hx hb hr (fun t ht hW => ⟨⟨0, (), rfl, rw_e (fun e => c_2 (hr_1.trans e)) (fun e => c_4 (hr_3.trans ((inr_wi a2 0 3).trans e))) c_5 c_6, by rw [ht]; exact hP9, va_K.moved hW.alike hK9, hD9⟩, hS.F ht⟩) hS.2.2 dX10_row_79
            ·
              have hlt : i < 60 := Nat.lt_of_not_le (fun q => c_15 ((nI_leI (a := 60) (b := i) (by decide) (by omega)).mpr q))
              refine lv_aload_n hx hb dX10_row_59 rfl (lv_at hl 1 rfl) ?_
              refine va_get (D := (dC, dI)) (ci := 8) (v := .ref m_numbers) (C := RX10) (T := TX10) (N := 33) hx hb hts iX10_row_X10 hown hK hP 0 rfl rfl 31 (by decide) (hts (.fieldLink RX10 71 "LuckyTicketModel" "numbers" "[J") (List.mem_of_getElem? (i := 11) rfl)) (fun _ h9 => h9) rfl dX10_row_60 ?_
              refine lv_bipush (v := 60) hx hb dX10_row_63 (by decide) ?_
              refine lv_iload_n hx hb dX10_row_65 rfl (lv_at hl 2 rfl) ?_
              refine lv_imul hx hb dX10_row_66 ?_
              refine lv_topi (fun z_16 ez_16 => ?_)
              obtain rfl : z_16 = 120 := ez_16.trans (by decide)
              refine lv_iload hx hb dX10_row_67 (lv_at hl 0 rfl) ?_
              refine lv_iadd hx hb dX10_row_69 ?_
              refine lv_topi (fun z_17 ez_17 => ?_)
              refine lv_lconst (v := 0) hx hb dX10_row_70 (by decide) ?_
              refine va_last hx hb hK hP hD hS 3 2 rfl rfl (by rw [ez_17]; exact (nI_add 120 i) ▸ vp_in_nI (n := 120 + i) (by omega) (by decide)) dX10_row_71 (fun H locs hP hD hS => ?_)
              have hP : va_P (dC, dI) vwCl [(h0, .inr (8, [.int 0, .ref m_world, .ref m_images, .ref m_hasImage, .ref m_luck, .ref m_tape, .int 0, .ref m_five, .int 0, .int 0, .int 0, .int 0, .int 0, .int 0, .int (-1), .ref m_fresh, .ref m_waits, .int 0, .int 0, .int 0, .ref m_figures, .ref m_pile, .long 0, .ref m_times, .ref m_far, .ref m_queue, .ref m_months, .ref m_ways, .ref m_waysOn, .ref m_many, .ref m_width, .ref m_numbers, .ref m_moving])), (m_many, .inl (cI, 4, .inl (upd manyF (2 : Int32).toNatClampNeg a3))), (m_width, .inl (cI2, 4, .inl (upd wf (2 : Int32).toNatClampNeg a2))), (m_numbers, .inl (cJ, 240, .inr (.inl (vp_updL f1 (z_17 : Int32).toNatClampNeg 0))))] H := hP
              have hD : va_D A [(h0, .inr (8, [.int 0, .ref m_world, .ref m_images, .ref m_hasImage, .ref m_luck, .ref m_tape, .int 0, .ref m_five, .int 0, .int 0, .int 0, .int 0, .int 0, .int 0, .int (-1), .ref m_fresh, .ref m_waits, .int 0, .int 0, .int 0, .ref m_figures, .ref m_pile, .long 0, .ref m_times, .ref m_far, .ref m_queue, .ref m_months, .ref m_ways, .ref m_waysOn, .ref m_many, .ref m_width, .ref m_numbers, .ref m_moving])), (m_many, .inl (cI, 4, .inl (upd manyF (2 : Int32).toNatClampNeg a3))), (m_width, .inl (cI2, 4, .inl (upd wf (2 : Int32).toNatClampNeg a2))), (m_numbers, .inl (cJ, 240, .inr (.inl (vp_updL f1 (z_17 : Int32).toNatClampNeg 0))))] := hD
              obtain ⟨z_18, ez_18⟩ : ∃ y : Int32, y = nI i + 1 := ⟨_, rfl⟩
              refine lv_iinc (v := z_18) (lv' := [(4, .int z_18), (0, .ref h0), (1, .int 2), (2, .int a2), (3, .int a3)]) hx hb dX10_row_72 hl (k := 0) rfl (by rw [ez_18]; rfl) (by decide) rfl (fun ls hl => ?_)
              refine lv_goto (tgt := 52) hx hb dX10_row_75 (by decide) ?_
              obtain rfl : z_18 = nI (i + 1) := ez_18.trans (nI_1 i)
              exact ih (i + 1, vp_updL f1 (z_17 : Int32).toNatClampNeg 0) _ _ _ ⟨(show (i + 1) ≤ 60 from hlt), hP, hD, hS, lv_sub hl [0, 1, 2, 3, 4] rfl⟩ (show 60 - (i + 1) < 60 - i by omega)
          ·
            refine lv_aload_n hx hb dX10_row_35 rfl (lv_at hl 0 rfl) ?_
            refine va_get (D := (dC, dI)) (ci := 8) (v := .ref m_many) (C := RX10) (T := TX10) (N := 33) hx hb hts iX10_row_X10 hown hK hP 0 rfl rfl 29 (by decide) (hts (.fieldLink RX10 65 "LuckyTicketModel" "many" "[I") (List.mem_of_getElem? (i := 9) rfl)) (fun _ h9 => h9) rfl dX10_row_36 ?_
            refine lv_iload_n hx hb dX10_row_39 rfl (lv_at hl 1 rfl) ?_
            refine lv_iload_n hx hb dX10_row_40 rfl (lv_at hl 3 rfl) ?_
            refine va_iast hx hb hK hP hD hS 1 0 rfl rfl (vp_in_lit (by decide)) dX10_row_41 (fun H locs hP hD hS => ?_)
            have hP : va_P (dC, dI) vwCl [(h0, .inr (8, [.int 0, .ref m_world, .ref m_images, .ref m_hasImage, .ref m_luck, .ref m_tape, .int 0, .ref m_five, .int 0, .int 0, .int 0, .int 0, .int 0, .int 0, .int (-1), .ref m_fresh, .ref m_waits, .int 0, .int 0, .int 0, .ref m_figures, .ref m_pile, .long 0, .ref m_times, .ref m_far, .ref m_queue, .ref m_months, .ref m_ways, .ref m_waysOn, .ref m_many, .ref m_width, .ref m_numbers, .ref m_moving])), (m_many, .inl (cI, 4, .inl (upd manyF (3 : Int32).toNatClampNeg a3))), (m_width, .inl (cI2, 4, .inl wf)), (m_numbers, .inl (cJ, 240, .inr (.inl nf)))] H := hP
            have hD : va_D A [(h0, .inr (8, [.int 0, .ref m_world, .ref m_images, .ref m_hasImage, .ref m_luck, .ref m_tape, .int 0, .ref m_five, .int 0, .int 0, .int 0, .int 0, .int 0, .int 0, .int (-1), .ref m_fresh, .ref m_waits, .int 0, .int 0, .int 0, .ref m_figures, .ref m_pile, .long 0, .ref m_times, .ref m_far, .ref m_queue, .ref m_months, .ref m_ways, .ref m_waysOn, .ref m_many, .ref m_width, .ref m_numbers, .ref m_moving])), (m_many, .inl (cI, 4, .inl (upd manyF (3 : Int32).toNatClampNeg a3))), (m_width, .inl (cI2, 4, .inl wf)), (m_numbers, .inl (cJ, 240, .inr (.inl nf)))] := hD
            refine lv_aload_n hx hb dX10_row_42 rfl (lv_at hl 0 rfl) ?_
            refine va_get (D := (dC, dI)) (ci := 8) (v := .ref m_width) (C := RX10) (T := TX10) (N := 33) hx hb hts iX10_row_X10 hown hK hP 0 rfl rfl 30 (by decide) (hts (.fieldLink RX10 68 "LuckyTicketModel" "width" "[I") (List.mem_of_getElem? (i := 10) rfl)) (fun _ h9 => h9) rfl dX10_row_43 ?_
            refine lv_iload_n hx hb dX10_row_46 rfl (lv_at hl 1 rfl) ?_
            refine lv_iload_n hx hb dX10_row_47 rfl (lv_at hl 2 rfl) ?_
            refine va_iast hx hb hK hP hD hS 2 1 rfl rfl (vp_in_lit (by decide)) dX10_row_48 (fun H locs hP hD hS => ?_)
            have hP : va_P (dC, dI) vwCl [(h0, .inr (8, [.int 0, .ref m_world, .ref m_images, .ref m_hasImage, .ref m_luck, .ref m_tape, .int 0, .ref m_five, .int 0, .int 0, .int 0, .int 0, .int 0, .int 0, .int (-1), .ref m_fresh, .ref m_waits, .int 0, .int 0, .int 0, .ref m_figures, .ref m_pile, .long 0, .ref m_times, .ref m_far, .ref m_queue, .ref m_months, .ref m_ways, .ref m_waysOn, .ref m_many, .ref m_width, .ref m_numbers, .ref m_moving])), (m_many, .inl (cI, 4, .inl (upd manyF (3 : Int32).toNatClampNeg a3))), (m_width, .inl (cI2, 4, .inl (upd wf (3 : Int32).toNatClampNeg a2))), (m_numbers, .inl (cJ, 240, .inr (.inl nf)))] H := hP
            have hD : va_D A [(h0, .inr (8, [.int 0, .ref m_world, .ref m_images, .ref m_hasImage, .ref m_luck, .ref m_tape, .int 0, .ref m_five, .int 0, .int 0, .int 0, .int 0, .int 0, .int 0, .int (-1), .ref m_fresh, .ref m_waits, .int 0, .int 0, .int 0, .ref m_figures, .ref m_pile, .long 0, .ref m_times, .ref m_far, .ref m_queue, .ref m_months, .ref m_ways, .ref m_waysOn, .ref m_many, .ref m_width, .ref m_numbers, .ref m_moving])), (m_many, .inl (cI, 4, .inl (upd manyF (3 : Int32).toNatClampNeg a3))), (m_width, .inl (cI2, 4, .inl (upd wf (3 : Int32).toNatClampNeg a2))), (m_numbers, .inl (cJ, 240, .inr (.inl nf)))] := hD
            refine lv_iconst (v := 0) hx hb dX10_row_49 (by decide) ?_
            refine lv_istore (lv' := [(4, .int 0), (0, .ref h0), (1, .int 3), (2, .int a2), (3, .int a3)]) hx hb dX10_row_50 hl (by decide) rfl (fun ls hl => ?_)
            refine loopW (σ := Nat × (Nat → Int64)) (fun v => 60 - v.1) (fun v H locs ls => (v.1 ≤ 60) ∧ va_P (dC, dI) vwCl [(h0, .inr (8, [.int 0, .ref m_world, .ref m_images, .ref m_hasImage, .ref m_luck, .ref m_tape, .int 0, .ref m_five, .int 0, .int 0, .int 0, .int 0, .int 0, .int 0, .int (-1), .ref m_fresh, .ref m_waits, .int 0, .int 0, .int 0, .ref m_figures, .ref m_pile, .long 0, .ref m_times, .ref m_far, .ref m_queue, .ref m_months, .ref m_ways, .ref m_waysOn, .ref m_many, .ref m_width, .ref m_numbers, .ref m_moving])), (m_many, .inl (cI, 4, .inl (upd manyF (3 : Int32).toNatClampNeg a3))), (m_width, .inl (cI2, 4, .inl (upd wf (3 : Int32).toNatClampNeg a2))), (m_numbers, .inl (cJ, 240, .inr (.inl v.2)))] H ∧ va_D A [(h0, .inr (8, [.int 0, .ref m_world, .ref m_images, .ref m_hasImage, .ref m_luck, .ref m_tape, .int 0, .ref m_five, .int 0, .int 0, .int 0, .int 0, .int 0, .int 0, .int (-1), .ref m_fresh, .ref m_waits, .int 0, .int 0, .int 0, .ref m_figures, .ref m_pile, .long 0, .ref m_times, .ref m_far, .ref m_queue, .ref m_months, .ref m_ways, .ref m_waysOn, .ref m_many, .ref m_width, .ref m_numbers, .ref m_moving])), (m_many, .inl (cI, 4, .inl (upd manyF (3 : Int32).toNatClampNeg a3))), (m_width, .inl (cI2, 4, .inl (upd wf (3 : Int32).toNatClampNeg a2))), (m_numbers, .inl (cJ, 240, .inr (.inl v.2)))] ∧ va_S A s.heap H locs ∧ lv_has ls 5 [(4, .int (nI v.1)), (0, .ref h0), (1, .int 3), (2, .int a2), (3, .int a3)]) (fun v H locs ls hI ih => ?_) (0, nf) ⟨(show 0 ≤ 60 from Nat.zero_le _), hP, hD, hS, hl⟩
            obtain ⟨i, f1⟩ := v
            obtain ⟨hi, hP, hD, hS, hl⟩ := hI
            have hi : i ≤ 60 := hi
            have hP : va_P (dC, dI) vwCl [(h0, .inr (8, [.int 0, .ref m_world, .ref m_images, .ref m_hasImage, .ref m_luck, .ref m_tape, .int 0, .ref m_five, .int 0, .int 0, .int 0, .int 0, .int 0, .int 0, .int (-1), .ref m_fresh, .ref m_waits, .int 0, .int 0, .int 0, .ref m_figures, .ref m_pile, .long 0, .ref m_times, .ref m_far, .ref m_queue, .ref m_months, .ref m_ways, .ref m_waysOn, .ref m_many, .ref m_width, .ref m_numbers, .ref m_moving])), (m_many, .inl (cI, 4, .inl (upd manyF (3 : Int32).toNatClampNeg a3))), (m_width, .inl (cI2, 4, .inl (upd wf (3 : Int32).toNatClampNeg a2))), (m_numbers, .inl (cJ, 240, .inr (.inl f1)))] H := hP
            have hD : va_D A [(h0, .inr (8, [.int 0, .ref m_world, .ref m_images, .ref m_hasImage, .ref m_luck, .ref m_tape, .int 0, .ref m_five, .int 0, .int 0, .int 0, .int 0, .int 0, .int 0, .int (-1), .ref m_fresh, .ref m_waits, .int 0, .int 0, .int 0, .ref m_figures, .ref m_pile, .long 0, .ref m_times, .ref m_far, .ref m_queue, .ref m_months, .ref m_ways, .ref m_waysOn, .ref m_many, .ref m_width, .ref m_numbers, .ref m_moving])), (m_many, .inl (cI, 4, .inl (upd manyF (3 : Int32).toNatClampNeg a3))), (m_width, .inl (cI2, 4, .inl (upd wf (3 : Int32).toNatClampNeg a2))), (m_numbers, .inl (cJ, 240, .inr (.inl f1)))] := hD
            have hl : lv_has ls 5 [(4, .int (nI i)), (0, .ref h0), (1, .int 3), (2, .int a2), (3, .int a3)] := hl
            refine lv_iload hx hb dX10_row_52 (lv_at hl 0 rfl) ?_
            refine lv_bipush (v := 60) hx hb dX10_row_54 (by decide) ?_
            refine lv_icmp_ge (tgt := 78) hx hb dX10_row_56 (by decide) (fun c_19 => ?_) (fun c_19 => ?_)
            ·
              have hge : 60 ≤ i := (nI_leI (a := 60) (b := i) (by decide) (by omega)).mp c_19
              refine lv_iconst (v := 0) hx hb dX10_row_78 (by decide) ?_
              have hP9 := hP.sub (ws' := []) [] rfl
              have hD9 := hD.sub (ws' := []) [] (by decide) rfl
              have hK9 := hK.sub (tys' := []) [] rfl
              exact W.iret (v := 0) hx hb hr (fun t ht hW => ⟨⟨0, (), rfl, rw_e (fun e => c_2 (hr_1.trans e)) (fun e => c_4 (hr_3.trans ((inr_wi a2 0 3).trans e))) c_5 c_6, by rw [ht]; exact hP9, va_K.moved hW.alike hK9, hD9⟩, hS.F ht⟩) hS.2.2 dX10_row_79
            ·
              have hlt : i < 60 := Nat.lt_of_not_le (fun q => c_19 ((nI_leI (a := 60) (b := i) (by decide) (by omega)).mpr q))
              refine lv_aload_n hx hb dX10_row_59 rfl (lv_at hl 1 rfl) ?_
              refine va_get (D := (dC, dI)) (ci := 8) (v := .ref m_numbers) (C := RX10) (T := TX10) (N := 33) hx hb hts iX10_row_X10 hown hK hP 0 rfl rfl 31 (by decide) (hts (.fieldLink RX10 71 "LuckyTicketModel" "numbers" "[J") (List.mem_of_getElem? (i := 11) rfl)) (fun _ h9 => h9) rfl dX10_row_60 ?_
              refine lv_bipush (v := 60) hx hb dX10_row_63 (by decide) ?_
              refine lv_iload_n hx hb dX10_row_65 rfl (lv_at hl 2 rfl) ?_
              refine lv_imul hx hb dX10_row_66 ?_
              refine lv_topi (fun z_20 ez_20 => ?_)
              obtain rfl : z_20 = 180 := ez_20.trans (by decide)
              refine lv_iload hx hb dX10_row_67 (lv_at hl 0 rfl) ?_
              refine lv_iadd hx hb dX10_row_69 ?_
              refine lv_topi (fun z_21 ez_21 => ?_)
              refine lv_lconst (v := 0) hx hb dX10_row_70 (by decide) ?_
              refine va_last hx hb hK hP hD hS 3 2 rfl rfl (by rw [ez_21]; exact (nI_add 180 i) ▸ vp_in_nI (n := 180 + i) (by omega) (by decide)) dX10_row_71 (fun H locs hP hD hS => ?_)
              have hP : va_P (dC, dI) vwCl [(h0, .inr (8, [.int 0, .ref m_world, .ref m_images, .ref m_hasImage, .ref m_luck, .ref m_tape, .int 0, .ref m_five, .int 0, .int 0, .int 0, .int 0, .int 0, .int 0, .int (-1), .ref m_fresh, .ref m_waits, .int 0, .int 0, .int 0, .ref m_figures, .ref m_pile, .long 0, .ref m_times, .ref m_far, .ref m_queue, .ref m_months, .ref m_ways, .ref m_waysOn, .ref m_many, .ref m_width, .ref m_numbers, .ref m_moving])), (m_many, .inl (cI, 4, .inl (upd manyF (3 : Int32).toNatClampNeg a3))), (m_width, .inl (cI2, 4, .inl (upd wf (3 : Int32).toNatClampNeg a2))), (m_numbers, .inl (cJ, 240, .inr (.inl (vp_updL f1 (z_21 : Int32).toNatClampNeg 0))))] H := hP
              have hD : va_D A [(h0, .inr (8, [.int 0, .ref m_world, .ref m_images, .ref m_hasImage, .ref m_luck, .ref m_tape, .int 0, .ref m_five, .int 0, .int 0, .int 0, .int 0, .int 0, .int 0, .int (-1), .ref m_fresh, .ref m_waits, .int 0, .int 0, .int 0, .ref m_figures, .ref m_pile, .long 0, .ref m_times, .ref m_far, .ref m_queue, .ref m_months, .ref m_ways, .ref m_waysOn, .ref m_many, .ref m_width, .ref m_numbers, .ref m_moving])), (m_many, .inl (cI, 4, .inl (upd manyF (3 : Int32).toNatClampNeg a3))), (m_width, .inl (cI2, 4, .inl (upd wf (3 : Int32).toNatClampNeg a2))), (m_numbers, .inl (cJ, 240, .inr (.inl (vp_updL f1 (z_21 : Int32).toNatClampNeg 0))))] := hD
              obtain ⟨z_22, ez_22⟩ : ∃ y : Int32, y = nI i + 1 := ⟨_, rfl⟩
              refine lv_iinc (v := z_22) (lv' := [(4, .int z_22), (0, .ref h0), (1, .int 3), (2, .int a2), (3, .int a3)]) hx hb dX10_row_72 hl (k := 0) rfl (by rw [ez_22]; rfl) (by decide) rfl (fun ls hl => ?_)
              refine lv_goto (tgt := 52) hx hb dX10_row_75 (by decide) ?_
              obtain rfl : z_22 = nI (i + 1) := ez_22.trans (nI_1 i)
              exact ih (i + 1, vp_updL f1 (z_21 : Int32).toNatClampNeg 0) _ _ _ ⟨(show (i + 1) ≤ 60 from hlt), hP, hD, hS, lv_sub hl [0, 1, 2, 3, 4] rfl⟩ (show 60 - (i + 1) < 60 - i by omega)
        ·
          refine lv_bipush (v := (-3)) hx hb dX10_row_32 (by decide) ?_
          have hP9 := hP.sub (ws' := []) [] rfl
          have hD9 := hD.sub (ws' := []) [] (by decide) rfl
          have hK9 := hK.sub (tys' := []) [] rfl
          exact W.iret (v := (-3)) hx hb hr (fun t ht hW => ⟨⟨(-3), (), rfl, rw_d (fun e => c_2 (hr_1.trans e)) (fun e => c_4 (hr_3.trans ((inr_wi a2 0 3).trans e))) c_5 c_6, by rw [ht]; exact hP9, va_K.moved hW.alike hK9, hD9⟩, hS.F ht⟩) hS.2.2 dX10_row_34
      ·
        refine lv_bipush (v := (-2)) hx hb dX10_row_25 (by decide) ?_
        have hP9 := hP.sub (ws' := []) [] rfl
        have hD9 := hD.sub (ws' := []) [] (by decide) rfl
        have hK9 := hK.sub (tys' := []) [] rfl
        exact W.iret (v := (-2)) hx hb hr (fun t ht hW => ⟨⟨(-2), (), rfl, rw_c c_5, by rw [ht]; exact hP9, va_K.moved hW.alike hK9, hD9⟩, hS.F ht⟩) hS.2.2 dX10_row_27
