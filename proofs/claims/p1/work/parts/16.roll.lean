theorem dX2_makeRoom_0 : decode cX2_makeRoom 0 = .ok (.aload_n 0, 1) := by decide +kernel
theorem dX2_makeRoom_1 : decode cX2_makeRoom 1 = .ok (.getfield 9, 3) := by decide +kernel
theorem dX2_makeRoom_4 : decode cX2_makeRoom 4 = .ok (.arraylength, 1) := by decide +kernel
theorem dX2_makeRoom_5 : decode cX2_makeRoom 5 = .ok (.iload_n 1, 1) := by decide +kernel
theorem dX2_makeRoom_6 : decode cX2_makeRoom 6 = .ok (.if_icmp .ge 17, 3) := by decide +kernel
theorem dX2_makeRoom_23 : decode cX2_makeRoom 23 = .ok (.return_, 1) := by decide +kernel
def uX2_makeRoom : List Cond := .code yX2_makeRoom cX2_makeRoom 2 none :: ([.fieldLink RX2 9 "LuckyTicket$Roll" "faces" "[J"] ++ wsX20)
theorem iX2_makeRoom_X2 : ∀ w ∈ wsX20, w ∈ uX2_makeRoom := fun _ h => List.mem_cons_of_mem _ (List.mem_append_right _ h)
set_option maxHeartbeats 4000000 in
set_option maxRecDepth 100000 in
theorem kX2_makeRoom (l : Launch) (dC : Nat → ClassId) (dI : Nat → Nat → Nat) (cu : Nat) (fa : Nat) (lu : Nat) (cJ : ClassId) (ff : Nat → Int64) (sz : Nat) : Met l yX2_makeRoom uX2_makeRoom ({ frames := 0, cells := 0, slots := 0, locals := 0 }) (va_Pc [.ref cu, .int 0] (hw (dC, dI) vwCl [(cu, .inr (1, [.int 0, .int 0, .int 0, .int 0, .int 0, .ref fa, .ref lu])), (fa, .inl (cJ, 0, .inr (.inl ff)))] [(cJ, .long)] sz)) (va_Qv (fun (_ : Unit) => True) (fun (_ : Unit) t => va_P (dC, dI) vwCl [(cu, .inr (1, [.int 0, .int 0, .int 0, .int 0, .int 0, .ref fa, .ref lu])), (fa, .inl (cJ, 0, .inr (.inl ff)))] t.heap ∧ va_K (dC, dI) vwCl [(cJ, .long)] t ∧ va_D (va_A [(cu, .inr (1, [.int 0, .int 0, .int 0, .int 0, .int 0, .ref fa, .ref lu])), (fa, .inl (cJ, 0, .inr (.inl ff)))] sz) [(cu, .inr (1, [.int 0, .int 0, .int 0, .int 0, .int 0, .ref fa, .ref lu])), (fa, .inl (cJ, 0, .inr (.inl ff)))]) (va_A [(cu, .inr (1, [.int 0, .int 0, .int 0, .int 0, .int 0, .ref fa, .ref lu])), (fa, .inl (cJ, 0, .inr (.inl ff)))] sz)) 0 0 (va_A [(cu, .inr (1, [.int 0, .int 0, .int 0, .int 0, .int 0, .ref fa, .ref lu])), (fa, .inl (cJ, 0, .inr (.inl ff)))] sz) := by
  refine Met.ofW (cc := cX2_makeRoom) (maxL := 2) (ret := none) (by decide) rfl ?_
  intro p e s m args below meth c s₁ B hml hv
  obtain ⟨rfl, hsz, hP, hK, hD0, hN⟩ := hv
  have hx := B.exec
  have hb := B.bytes
  have hr := B.returns
  have hts := atoms_spec (ws := uX2_makeRoom) B.pre
  have hown : s.vm.findClass RX2 = some m.cls := findClass_of_methodNamed B.named
  have hlocks := B.notSynchronized
  subst hsz
  have hD := hD0.self (sz := s.heap.size)
  generalize hAe : va_A [(cu, .inr (1, [.int 0, .int 0, .int 0, .int 0, .int 0, .ref fa, .ref lu])), (fa, .inl (cJ, 0, .inr (.inl ff)))] s.heap.size = A at hD ⊢
  have hA : ∀ q : Nat, s.heap.size ≤ q → A q := fun q h => by rw [← hAe]; exact Or.inr h
  have hS : va_S A s.heap s.heap [] := va_S.rf
  have hP : va_P (dC, dI) vwCl [(cu, .inr (1, [.int 0, .int 0, .int 0, .int 0, .int 0, .ref fa, .ref lu])), (fa, .inl (cJ, 0, .inr (.inl ff)))] s.heap := hP
  have hl := lv_entry ([.ref cu, .int 0]) (n := 2) (Nat.le_of_ble_eq_true rfl)
  rw [lg_entry_eq]
  generalize (lg_sl ([.ref cu, .int 0]) ++ List.replicate (2 - (lg_sl ([.ref cu, .int 0])).length) Slot.unset).toArray = ls at hl ⊢
  have hl : lv_has ls 2 [(0, .ref cu), (1, .int 0)] := hl
  refine lv_aload_n hx hb dX2_makeRoom_0 rfl (lv_at hl 0 rfl) ?_
  refine va_get (D := (dC, dI)) (ci := 1) (v := .ref fa) (C := RX2) (T := TX2) (N := 7) hx hb hts iX2_makeRoom_X2 hown hK hP 0 rfl rfl 5 (by decide) (hts (.fieldLink RX2 9 "LuckyTicket$Roll" "faces" "[J") (List.mem_of_getElem? (i := 1) rfl)) (fun _ h9 => h9) rfl dX2_makeRoom_1 ?_
  refine va_alen (v := 0) hx hb hK hP 1 0 rfl rfl (by rfl) dX2_makeRoom_4 ?_
  refine lv_iload_n hx hb dX2_makeRoom_5 rfl (lv_at hl 1 rfl) ?_
  refine lv_icmp_ge (tgt := 23) hx hb dX2_makeRoom_6 (by decide) (fun _ => ?_) (fun c_1 => absurd c_1 (by decide))
  have hP9 := hP.sub (ws' := [(cu, .inr (1, [.int 0, .int 0, .int 0, .int 0, .int 0, .ref fa, .ref lu])), (fa, .inl (cJ, 0, .inr (.inl ff)))]) [0, 1] rfl
  have hD9 := hD.sub (ws' := [(cu, .inr (1, [.int 0, .int 0, .int 0, .int 0, .int 0, .ref fa, .ref lu])), (fa, .inl (cJ, 0, .inr (.inl ff)))]) [0, 1] (by decide) rfl
  have hK9 := hK.sub (tys' := [(cJ, .long)]) [0] rfl
  exact W.vret hx hb hr (fun t ht hW => ⟨⟨(), rfl, trivial, by rw [ht]; exact hP9, va_K.moved hW.alike hK9, hD9⟩, hS.F ht⟩) hS.2.2 dX2_makeRoom_23
theorem dX4_clear_0 : decode cX4_clear 0 = .ok (.aload_n 0, 1) := by decide +kernel
theorem dX4_clear_1 : decode cX4_clear 1 = .ok (.iconst 0, 1) := by decide +kernel
theorem dX4_clear_2 : decode cX4_clear 2 = .ok (.putfield 27, 3) := by decide +kernel
theorem dX4_clear_5 : decode cX4_clear 5 = .ok (.aload_n 0, 1) := by decide +kernel
theorem dX4_clear_6 : decode cX4_clear 6 = .ok (.iconst 0, 1) := by decide +kernel
theorem dX4_clear_7 : decode cX4_clear 7 = .ok (.putfield 31, 3) := by decide +kernel
theorem dX4_clear_10 : decode cX4_clear 10 = .ok (.aload_n 0, 1) := by decide +kernel
theorem dX4_clear_11 : decode cX4_clear 11 = .ok (.iconst 0, 1) := by decide +kernel
theorem dX4_clear_12 : decode cX4_clear 12 = .ok (.putfield 34, 3) := by decide +kernel
theorem dX4_clear_15 : decode cX4_clear 15 = .ok (.aload_n 0, 1) := by decide +kernel
theorem dX4_clear_16 : decode cX4_clear 16 = .ok (.iconst 0, 1) := by decide +kernel
theorem dX4_clear_17 : decode cX4_clear 17 = .ok (.putfield 37, 3) := by decide +kernel
theorem dX4_clear_20 : decode cX4_clear 20 = .ok (.aload_n 0, 1) := by decide +kernel
theorem dX4_clear_21 : decode cX4_clear 21 = .ok (.iconst 0, 1) := by decide +kernel
theorem dX4_clear_22 : decode cX4_clear 22 = .ok (.putfield 40, 3) := by decide +kernel
theorem dX4_clear_25 : decode cX4_clear 25 = .ok (.return_, 1) := by decide +kernel
def uX4_clear : List Cond := .code yX4_clear cX4_clear 1 none :: ([.fieldLink RX4 27 "LuckyTicket$Script" "length" "I", .fieldLink RX4 31 "LuckyTicket$Script" "base" "I", .fieldLink RX4 34 "LuckyTicket$Script" "lines" "I", .fieldLink RX4 37 "LuckyTicket$Script" "laws" "I", .fieldLink RX4 40 "LuckyTicket$Script" "size" "I"] ++ wsX40)
theorem iX4_clear_X4 : ∀ w ∈ wsX40, w ∈ uX4_clear := fun _ h => List.mem_cons_of_mem _ (List.mem_append_right _ h)
set_option maxHeartbeats 4000000 in
set_option maxRecDepth 100000 in
theorem kX4_clear (l : Launch) (dC : Nat → ClassId) (dI : Nat → Nat → Nat) (sc : Nat) (en : Nat) (ki : Nat) (on : Nat) (ot : Nat) (sz : Nat) : Met l yX4_clear uX4_clear ({ frames := 0, cells := 0, slots := 0, locals := 0 }) (va_Pc [.ref sc] (hw (dC, dI) vwCl [(sc, .inr (3, [.int 0, .int 0, .int 0, .int 0, .int 0, .ref en, .ref ki, .ref on, .ref ot]))] [] sz)) (va_Qv (fun (_ : Unit) => True) (fun (_ : Unit) t => va_P (dC, dI) vwCl [(sc, .inr (3, [.int 0, .int 0, .int 0, .int 0, .int 0, .ref en, .ref ki, .ref on, .ref ot]))] t.heap ∧ va_K (dC, dI) vwCl [] t ∧ va_D (va_A [(sc, .inr (3, [.int 0, .int 0, .int 0, .int 0, .int 0, .ref en, .ref ki, .ref on, .ref ot]))] sz) [(sc, .inr (3, [.int 0, .int 0, .int 0, .int 0, .int 0, .ref en, .ref ki, .ref on, .ref ot]))]) (va_A [(sc, .inr (3, [.int 0, .int 0, .int 0, .int 0, .int 0, .ref en, .ref ki, .ref on, .ref ot]))] sz)) 0 0 (va_A [(sc, .inr (3, [.int 0, .int 0, .int 0, .int 0, .int 0, .ref en, .ref ki, .ref on, .ref ot]))] sz) := by
  refine Met.ofW (cc := cX4_clear) (maxL := 1) (ret := none) (by decide) rfl ?_
  intro p e s m args below meth c s₁ B hml hv
  obtain ⟨rfl, hsz, hP, hK, hD0, hN⟩ := hv
  have hx := B.exec
  have hb := B.bytes
  have hr := B.returns
  have hts := atoms_spec (ws := uX4_clear) B.pre
  have hown : s.vm.findClass RX4 = some m.cls := findClass_of_methodNamed B.named
  have hlocks := B.notSynchronized
  subst hsz
  have hD := hD0.self (sz := s.heap.size)
  generalize hAe : va_A [(sc, .inr (3, [.int 0, .int 0, .int 0, .int 0, .int 0, .ref en, .ref ki, .ref on, .ref ot]))] s.heap.size = A at hD ⊢
  have hA : ∀ q : Nat, s.heap.size ≤ q → A q := fun q h => by rw [← hAe]; exact Or.inr h
  have hS : va_S A s.heap s.heap [] := va_S.rf
  have hP : va_P (dC, dI) vwCl [(sc, .inr (3, [.int 0, .int 0, .int 0, .int 0, .int 0, .ref en, .ref ki, .ref on, .ref ot]))] s.heap := hP
  have hl := lv_entry ([.ref sc]) (n := 1) (Nat.le_of_ble_eq_true rfl)
  rw [lg_entry_eq]
  generalize (lg_sl ([.ref sc]) ++ List.replicate (1 - (lg_sl ([.ref sc])).length) Slot.unset).toArray = ls at hl ⊢
  have hl : lv_has ls 1 [(0, .ref sc)] := hl
  refine lv_aload_n hx hb dX4_clear_0 rfl (lv_at hl 0 rfl) ?_
  refine lv_iconst (v := 0) hx hb dX4_clear_1 (by decide) ?_
  refine va_put (D := (dC, dI)) (ci := 3) (v := .int 0) (ty := .int) (C := RX4) (T := TX4) (N := 9) hx hb hts iX4_clear_X4 tyX4 tyX4_ok nmX4 hown hK hP hD hS 0 rfl rfl 0 (by decide) (hts (.fieldLink RX4 27 "LuckyTicket$Script" "length" "I") (List.mem_of_getElem? (i := 1) rfl)) (fun _ h9 => h9) rfl (by decide +kernel) rfl rfl (Nat.le_of_ble_eq_true rfl) dX4_clear_2 (fun H locs hP hD hS => ?_)
  have hP : va_P (dC, dI) vwCl [(sc, .inr (3, [.int 0, .int 0, .int 0, .int 0, .int 0, .ref en, .ref ki, .ref on, .ref ot]))] H := hP
  have hD : va_D A [(sc, .inr (3, [.int 0, .int 0, .int 0, .int 0, .int 0, .ref en, .ref ki, .ref on, .ref ot]))] := hD
  refine lv_aload_n hx hb dX4_clear_5 rfl (lv_at hl 0 rfl) ?_
  refine lv_iconst (v := 0) hx hb dX4_clear_6 (by decide) ?_
  refine va_put (D := (dC, dI)) (ci := 3) (v := .int 0) (ty := .int) (C := RX4) (T := TX4) (N := 9) hx hb hts iX4_clear_X4 tyX4 tyX4_ok nmX4 hown hK hP hD hS 0 rfl rfl 1 (by decide) (hts (.fieldLink RX4 31 "LuckyTicket$Script" "base" "I") (List.mem_of_getElem? (i := 2) rfl)) (fun _ h9 => h9) rfl (by decide +kernel) rfl rfl (Nat.le_of_ble_eq_true rfl) dX4_clear_7 (fun H locs hP hD hS => ?_)
  have hP : va_P (dC, dI) vwCl [(sc, .inr (3, [.int 0, .int 0, .int 0, .int 0, .int 0, .ref en, .ref ki, .ref on, .ref ot]))] H := hP
  have hD : va_D A [(sc, .inr (3, [.int 0, .int 0, .int 0, .int 0, .int 0, .ref en, .ref ki, .ref on, .ref ot]))] := hD
  refine lv_aload_n hx hb dX4_clear_10 rfl (lv_at hl 0 rfl) ?_
  refine lv_iconst (v := 0) hx hb dX4_clear_11 (by decide) ?_
  refine va_put (D := (dC, dI)) (ci := 3) (v := .int 0) (ty := .int) (C := RX4) (T := TX4) (N := 9) hx hb hts iX4_clear_X4 tyX4 tyX4_ok nmX4 hown hK hP hD hS 0 rfl rfl 2 (by decide) (hts (.fieldLink RX4 34 "LuckyTicket$Script" "lines" "I") (List.mem_of_getElem? (i := 3) rfl)) (fun _ h9 => h9) rfl (by decide +kernel) rfl rfl (Nat.le_of_ble_eq_true rfl) dX4_clear_12 (fun H locs hP hD hS => ?_)
  have hP : va_P (dC, dI) vwCl [(sc, .inr (3, [.int 0, .int 0, .int 0, .int 0, .int 0, .ref en, .ref ki, .ref on, .ref ot]))] H := hP
  have hD : va_D A [(sc, .inr (3, [.int 0, .int 0, .int 0, .int 0, .int 0, .ref en, .ref ki, .ref on, .ref ot]))] := hD
  refine lv_aload_n hx hb dX4_clear_15 rfl (lv_at hl 0 rfl) ?_
  refine lv_iconst (v := 0) hx hb dX4_clear_16 (by decide) ?_
  refine va_put (D := (dC, dI)) (ci := 3) (v := .int 0) (ty := .int) (C := RX4) (T := TX4) (N := 9) hx hb hts iX4_clear_X4 tyX4 tyX4_ok nmX4 hown hK hP hD hS 0 rfl rfl 3 (by decide) (hts (.fieldLink RX4 37 "LuckyTicket$Script" "laws" "I") (List.mem_of_getElem? (i := 4) rfl)) (fun _ h9 => h9) rfl (by decide +kernel) rfl rfl (Nat.le_of_ble_eq_true rfl) dX4_clear_17 (fun H locs hP hD hS => ?_)
  have hP : va_P (dC, dI) vwCl [(sc, .inr (3, [.int 0, .int 0, .int 0, .int 0, .int 0, .ref en, .ref ki, .ref on, .ref ot]))] H := hP
  have hD : va_D A [(sc, .inr (3, [.int 0, .int 0, .int 0, .int 0, .int 0, .ref en, .ref ki, .ref on, .ref ot]))] := hD
  refine lv_aload_n hx hb dX4_clear_20 rfl (lv_at hl 0 rfl) ?_
  refine lv_iconst (v := 0) hx hb dX4_clear_21 (by decide) ?_
  refine va_put (D := (dC, dI)) (ci := 3) (v := .int 0) (ty := .int) (C := RX4) (T := TX4) (N := 9) hx hb hts iX4_clear_X4 tyX4 tyX4_ok nmX4 hown hK hP hD hS 0 rfl rfl 4 (by decide) (hts (.fieldLink RX4 40 "LuckyTicket$Script" "size" "I") (List.mem_of_getElem? (i := 5) rfl)) (fun _ h9 => h9) rfl (by decide +kernel) rfl rfl (Nat.le_of_ble_eq_true rfl) dX4_clear_22 (fun H locs hP hD hS => ?_)
  have hP : va_P (dC, dI) vwCl [(sc, .inr (3, [.int 0, .int 0, .int 0, .int 0, .int 0, .ref en, .ref ki, .ref on, .ref ot]))] H := hP
  have hD : va_D A [(sc, .inr (3, [.int 0, .int 0, .int 0, .int 0, .int 0, .ref en, .ref ki, .ref on, .ref ot]))] := hD
  have hP9 := hP.sub (ws' := [(sc, .inr (3, [.int 0, .int 0, .int 0, .int 0, .int 0, .ref en, .ref ki, .ref on, .ref ot]))]) [0] rfl
  have hD9 := hD.sub (ws' := [(sc, .inr (3, [.int 0, .int 0, .int 0, .int 0, .int 0, .ref en, .ref ki, .ref on, .ref ot]))]) [0] (by decide) rfl
  have hK9 := hK.sub (tys' := []) [] rfl
  exact W.vret hx hb hr (fun t ht hW => ⟨⟨(), rfl, trivial, by rw [ht]; exact hP9, va_K.moved hW.alike hK9, hD9⟩, hS.F ht⟩) hS.2.2 dX4_clear_25
theorem dX2_buildFrom_0 : decode cX2_buildFrom 0 = .ok (.aload_n 0, 1) := by decide +kernel
theorem dX2_buildFrom_1 : decode cX2_buildFrom 1 = .ok (.aload_n 1, 1) := by decide +kernel
theorem dX2_buildFrom_2 : decode cX2_buildFrom 2 = .ok (.getfield 19, 3) := by decide +kernel
theorem dX2_buildFrom_5 : decode cX2_buildFrom 5 = .ok (.putfield 25, 3) := by decide +kernel
theorem dX2_buildFrom_8 : decode cX2_buildFrom 8 = .ok (.aload_n 0, 1) := by decide +kernel
theorem dX2_buildFrom_9 : decode cX2_buildFrom 9 = .ok (.aload_n 1, 1) := by decide +kernel
theorem dX2_buildFrom_10 : decode cX2_buildFrom 10 = .ok (.getfield 26, 3) := by decide +kernel
theorem dX2_buildFrom_13 : decode cX2_buildFrom 13 = .ok (.putfield 29, 3) := by decide +kernel
theorem dX2_buildFrom_16 : decode cX2_buildFrom 16 = .ok (.aload_n 0, 1) := by decide +kernel
theorem dX2_buildFrom_17 : decode cX2_buildFrom 17 = .ok (.aload_n 1, 1) := by decide +kernel
theorem dX2_buildFrom_18 : decode cX2_buildFrom 18 = .ok (.getfield 30, 3) := by decide +kernel
theorem dX2_buildFrom_21 : decode cX2_buildFrom 21 = .ok (.putfield 33, 3) := by decide +kernel
theorem dX2_buildFrom_24 : decode cX2_buildFrom 24 = .ok (.aload_n 0, 1) := by decide +kernel
theorem dX2_buildFrom_25 : decode cX2_buildFrom 25 = .ok (.aload_n 1, 1) := by decide +kernel
theorem dX2_buildFrom_26 : decode cX2_buildFrom 26 = .ok (.getfield 34, 3) := by decide +kernel
theorem dX2_buildFrom_29 : decode cX2_buildFrom 29 = .ok (.putfield 37, 3) := by decide +kernel
theorem dX2_buildFrom_32 : decode cX2_buildFrom 32 = .ok (.aload_n 0, 1) := by decide +kernel
theorem dX2_buildFrom_33 : decode cX2_buildFrom 33 = .ok (.aload_n 0, 1) := by decide +kernel
theorem dX2_buildFrom_34 : decode cX2_buildFrom 34 = .ok (.getfield 37, 3) := by decide +kernel
theorem dX2_buildFrom_37 : decode cX2_buildFrom 37 = .ok (.ifCond .ne 7, 3) := by decide +kernel
theorem dX2_buildFrom_40 : decode cX2_buildFrom 40 = .ok (.iconst 0, 1) := by decide +kernel
theorem dX2_buildFrom_41 : decode cX2_buildFrom 41 = .ok (.goto 14, 3) := by decide +kernel
theorem dX2_buildFrom_55 : decode cX2_buildFrom 55 = .ok (.putfield 42, 3) := by decide +kernel
theorem dX2_buildFrom_58 : decode cX2_buildFrom 58 = .ok (.aload_n 0, 1) := by decide +kernel
theorem dX2_buildFrom_59 : decode cX2_buildFrom 59 = .ok (.aload_n 0, 1) := by decide +kernel
theorem dX2_buildFrom_60 : decode cX2_buildFrom 60 = .ok (.getfield 42, 3) := by decide +kernel
theorem dX2_buildFrom_63 : decode cX2_buildFrom 63 = .ok (.invokevirtual 45, 3) := by decide +kernel
theorem dX2_buildFrom_66 : decode cX2_buildFrom 66 = .ok (.iconst 0, 1) := by decide +kernel
theorem dX2_buildFrom_67 : decode cX2_buildFrom 67 = .ok (.istore_n 2, 1) := by decide +kernel
theorem dX2_buildFrom_68 : decode cX2_buildFrom 68 = .ok (.iload_n 2, 1) := by decide +kernel
theorem dX2_buildFrom_69 : decode cX2_buildFrom 69 = .ok (.aload_n 0, 1) := by decide +kernel
theorem dX2_buildFrom_70 : decode cX2_buildFrom 70 = .ok (.getfield 42, 3) := by decide +kernel
theorem dX2_buildFrom_73 : decode cX2_buildFrom 73 = .ok (.if_icmp .ge 60, 3) := by decide +kernel
theorem dX2_buildFrom_133 : decode cX2_buildFrom 133 = .ok (.return_, 1) := by decide +kernel
def uX2_buildFrom : List Cond := .code yX2_buildFrom cX2_buildFrom 3 none :: ([.fieldLink RX2 25 "LuckyTicket$Roll" "length" "I", .fieldLink RX2 29 "LuckyTicket$Roll" "base" "I", .fieldLink RX2 33 "LuckyTicket$Roll" "laws" "I", .fieldLink RX2 37 "LuckyTicket$Roll" "lines" "I", .fieldLink RX2 42 "LuckyTicket$Roll" "tickets" "I", .methodLink RX2 45 yX2_makeRoom, .instanceMethod yX2_makeRoom, .selects RX2 yX2_makeRoom yX2_makeRoom, .initialized RX2, .code yX2_makeRoom cX2_makeRoom 2 none, .fieldLink RX2 9 "LuckyTicket$Roll" "faces" "[J"] ++ wsX40 ++ wsX20)
theorem iX2_buildFrom_X4 : ∀ w ∈ wsX40, w ∈ uX2_buildFrom := fun _ h => List.mem_cons_of_mem _ (List.mem_append_left _ (List.mem_append_right _ h))
theorem iX2_buildFrom_X2 : ∀ w ∈ wsX20, w ∈ uX2_buildFrom := fun _ h => List.mem_cons_of_mem _ (List.mem_append_right _ h)
set_option maxRecDepth 20000 in
theorem gX2_buildFrom__X2_makeRoom_V45 : GoodIn uX2_buildFrom (wsV RX2 45 RX2 yX2_makeRoom uX2_makeRoom) := goodIn_p _ [10] rfl (by decide +kernel)
set_option maxHeartbeats 4000000 in
set_option maxRecDepth 100000 in
theorem kX2_buildFrom (l : Launch) (dC : Nat → ClassId) (dI : Nat → Nat → Nat) (cu : Nat) (fa : Nat) (lu : Nat) (sc : Nat) (en : Nat) (ki : Nat) (on : Nat) (ot : Nat) (cJ : ClassId) (ff : Nat → Int64) (sz : Nat) : Met l yX2_buildFrom uX2_buildFrom ({ frames := 1, cells := 0, slots := 0, locals := 21 }) (va_Pc [.ref cu, .ref sc] (hw (dC, dI) vwCl [(cu, .inr (1, [.int 0, .int 0, .int 0, .int 0, .int 0, .ref fa, .ref lu])), (sc, .inr (3, [.int 0, .int 0, .int 0, .int 0, .int 0, .ref en, .ref ki, .ref on, .ref ot])), (fa, .inl (cJ, 0, .inr (.inl ff)))] [(cJ, .long)] sz)) (va_Qv (fun (_ : Unit) => True) (fun (_ : Unit) t => va_P (dC, dI) vwCl [(cu, .inr (1, [.int 0, .int 0, .int 0, .int 0, .int 0, .ref fa, .ref lu]))] t.heap ∧ va_K (dC, dI) vwCl [] t ∧ va_D (va_A [(cu, .inr (1, [.int 0, .int 0, .int 0, .int 0, .int 0, .ref fa, .ref lu])), (sc, .inr (3, [.int 0, .int 0, .int 0, .int 0, .int 0, .ref en, .ref ki, .ref on, .ref ot])), (fa, .inl (cJ, 0, .inr (.inl ff)))] sz) [(cu, .inr (1, [.int 0, .int 0, .int 0, .int 0, .int 0, .ref fa, .ref lu]))]) (va_A [(cu, .inr (1, [.int 0, .int 0, .int 0, .int 0, .int 0, .ref fa, .ref lu])), (sc, .inr (3, [.int 0, .int 0, .int 0, .int 0, .int 0, .ref en, .ref ki, .ref on, .ref ot])), (fa, .inl (cJ, 0, .inr (.inl ff)))] sz)) 0 0 (va_A [(cu, .inr (1, [.int 0, .int 0, .int 0, .int 0, .int 0, .ref fa, .ref lu])), (sc, .inr (3, [.int 0, .int 0, .int 0, .int 0, .int 0, .ref en, .ref ki, .ref on, .ref ot])), (fa, .inl (cJ, 0, .inr (.inl ff)))] sz) := by
  refine Met.ofW (cc := cX2_buildFrom) (maxL := 3) (ret := none) (by decide) rfl ?_
  intro p e s m args below meth c s₁ B hml hv
  obtain ⟨rfl, hsz, hP, hK, hD0, hN⟩ := hv
  have hx := B.exec
  have hb := B.bytes
  have hr := B.returns
  have hts := atoms_spec (ws := uX2_buildFrom) B.pre
  have hown : s.vm.findClass RX2 = some m.cls := findClass_of_methodNamed B.named
  have hlocks := B.notSynchronized
  subst hsz
  have hD := hD0.self (sz := s.heap.size)
  generalize hAe : va_A [(cu, .inr (1, [.int 0, .int 0, .int 0, .int 0, .int 0, .ref fa, .ref lu])), (sc, .inr (3, [.int 0, .int 0, .int 0, .int 0, .int 0, .ref en, .ref ki, .ref on, .ref ot])), (fa, .inl (cJ, 0, .inr (.inl ff)))] s.heap.size = A at hD ⊢
  have hA : ∀ q : Nat, s.heap.size ≤ q → A q := fun q h => by rw [← hAe]; exact Or.inr h
  have hS : va_S A s.heap s.heap [] := va_S.rf
  have hP : va_P (dC, dI) vwCl [(cu, .inr (1, [.int 0, .int 0, .int 0, .int 0, .int 0, .ref fa, .ref lu])), (sc, .inr (3, [.int 0, .int 0, .int 0, .int 0, .int 0, .ref en, .ref ki, .ref on, .ref ot])), (fa, .inl (cJ, 0, .inr (.inl ff)))] s.heap := hP
  have hl := lv_entry ([.ref cu, .ref sc]) (n := 3) (Nat.le_of_ble_eq_true rfl)
  rw [lg_entry_eq]
  generalize (lg_sl ([.ref cu, .ref sc]) ++ List.replicate (3 - (lg_sl ([.ref cu, .ref sc])).length) Slot.unset).toArray = ls at hl ⊢
  have hl : lv_has ls 3 [(0, .ref cu), (1, .ref sc)] := hl
  refine lv_aload_n hx hb dX2_buildFrom_0 rfl (lv_at hl 0 rfl) ?_
  refine lv_aload_n hx hb dX2_buildFrom_1 rfl (lv_at hl 1 rfl) ?_
  refine va_getN (own := RX2) (index := 19) (ref := RX4) (host := RX9) (D := (dC, dI)) (ci := 3) (v := .int 0) (C := RX4) (T := TX4) (N := 9) hx hb hts iX2_buildFrom_X4 hown hK hP 1 rfl rfl 0 (by decide) (va_Nw.use rfl (hN _ (List.mem_of_getElem? (i := 3) rfl))) (fun _ h9 => h9) rfl dX2_buildFrom_2 ?_
  refine va_put (D := (dC, dI)) (ci := 1) (v := .int 0) (ty := .int) (C := RX2) (T := TX2) (N := 7) hx hb hts iX2_buildFrom_X2 tyX2 tyX2_ok nmX2 hown hK hP hD hS 0 rfl rfl 0 (by decide) (hts (.fieldLink RX2 25 "LuckyTicket$Roll" "length" "I") (List.mem_of_getElem? (i := 1) rfl)) (fun _ h9 => h9) rfl (by decide +kernel) rfl rfl (Nat.le_of_ble_eq_true rfl) dX2_buildFrom_5 (fun H locs hP hD hS => ?_)
  have hP : va_P (dC, dI) vwCl [(cu, .inr (1, [.int 0, .int 0, .int 0, .int 0, .int 0, .ref fa, .ref lu])), (sc, .inr (3, [.int 0, .int 0, .int 0, .int 0, .int 0, .ref en, .ref ki, .ref on, .ref ot])), (fa, .inl (cJ, 0, .inr (.inl ff)))] H := hP
  have hD : va_D A [(cu, .inr (1, [.int 0, .int 0, .int 0, .int 0, .int 0, .ref fa, .ref lu])), (sc, .inr (3, [.int 0, .int 0, .int 0, .int 0, .int 0, .ref en, .ref ki, .ref on, .ref ot])), (fa, .inl (cJ, 0, .inr (.inl ff)))] := hD
  refine lv_aload_n hx hb dX2_buildFrom_8 rfl (lv_at hl 0 rfl) ?_
  refine lv_aload_n hx hb dX2_buildFrom_9 rfl (lv_at hl 1 rfl) ?_
  refine va_getN (own := RX2) (index := 26) (ref := RX4) (host := RX9) (D := (dC, dI)) (ci := 3) (v := .int 0) (C := RX4) (T := TX4) (N := 9) hx hb hts iX2_buildFrom_X4 hown hK hP 1 rfl rfl 1 (by decide) (va_Nw.use rfl (hN _ (List.mem_of_getElem? (i := 5) rfl))) (fun _ h9 => h9) rfl dX2_buildFrom_10 ?_
  refine va_put (D := (dC, dI)) (ci := 1) (v := .int 0) (ty := .int) (C := RX2) (T := TX2) (N := 7) hx hb hts iX2_buildFrom_X2 tyX2 tyX2_ok nmX2 hown hK hP hD hS 0 rfl rfl 1 (by decide) (hts (.fieldLink RX2 29 "LuckyTicket$Roll" "base" "I") (List.mem_of_getElem? (i := 2) rfl)) (fun _ h9 => h9) rfl (by decide +kernel) rfl rfl (Nat.le_of_ble_eq_true rfl) dX2_buildFrom_13 (fun H locs hP hD hS => ?_)
  have hP : va_P (dC, dI) vwCl [(cu, .inr (1, [.int 0, .int 0, .int 0, .int 0, .int 0, .ref fa, .ref lu])), (sc, .inr (3, [.int 0, .int 0, .int 0, .int 0, .int 0, .ref en, .ref ki, .ref on, .ref ot])), (fa, .inl (cJ, 0, .inr (.inl ff)))] H := hP
  have hD : va_D A [(cu, .inr (1, [.int 0, .int 0, .int 0, .int 0, .int 0, .ref fa, .ref lu])), (sc, .inr (3, [.int 0, .int 0, .int 0, .int 0, .int 0, .ref en, .ref ki, .ref on, .ref ot])), (fa, .inl (cJ, 0, .inr (.inl ff)))] := hD
  refine lv_aload_n hx hb dX2_buildFrom_16 rfl (lv_at hl 0 rfl) ?_
  refine lv_aload_n hx hb dX2_buildFrom_17 rfl (lv_at hl 1 rfl) ?_
  refine va_getN (own := RX2) (index := 30) (ref := RX4) (host := RX9) (D := (dC, dI)) (ci := 3) (v := .int 0) (C := RX4) (T := TX4) (N := 9) hx hb hts iX2_buildFrom_X4 hown hK hP 1 rfl rfl 3 (by decide) (va_Nw.use rfl (hN _ (List.mem_of_getElem? (i := 9) rfl))) (fun _ h9 => h9) rfl dX2_buildFrom_18 ?_
  refine va_put (D := (dC, dI)) (ci := 1) (v := .int 0) (ty := .int) (C := RX2) (T := TX2) (N := 7) hx hb hts iX2_buildFrom_X2 tyX2 tyX2_ok nmX2 hown hK hP hD hS 0 rfl rfl 3 (by decide) (hts (.fieldLink RX2 33 "LuckyTicket$Roll" "laws" "I") (List.mem_of_getElem? (i := 3) rfl)) (fun _ h9 => h9) rfl (by decide +kernel) rfl rfl (Nat.le_of_ble_eq_true rfl) dX2_buildFrom_21 (fun H locs hP hD hS => ?_)
  have hP : va_P (dC, dI) vwCl [(cu, .inr (1, [.int 0, .int 0, .int 0, .int 0, .int 0, .ref fa, .ref lu])), (sc, .inr (3, [.int 0, .int 0, .int 0, .int 0, .int 0, .ref en, .ref ki, .ref on, .ref ot])), (fa, .inl (cJ, 0, .inr (.inl ff)))] H := hP
  have hD : va_D A [(cu, .inr (1, [.int 0, .int 0, .int 0, .int 0, .int 0, .ref fa, .ref lu])), (sc, .inr (3, [.int 0, .int 0, .int 0, .int 0, .int 0, .ref en, .ref ki, .ref on, .ref ot])), (fa, .inl (cJ, 0, .inr (.inl ff)))] := hD
  refine lv_aload_n hx hb dX2_buildFrom_24 rfl (lv_at hl 0 rfl) ?_
  refine lv_aload_n hx hb dX2_buildFrom_25 rfl (lv_at hl 1 rfl) ?_
  refine va_getN (own := RX2) (index := 34) (ref := RX4) (host := RX9) (D := (dC, dI)) (ci := 3) (v := .int 0) (C := RX4) (T := TX4) (N := 9) hx hb hts iX2_buildFrom_X4 hown hK hP 1 rfl rfl 2 (by decide) (va_Nw.use rfl (hN _ (List.mem_of_getElem? (i := 7) rfl))) (fun _ h9 => h9) rfl dX2_buildFrom_26 ?_
  refine va_put (D := (dC, dI)) (ci := 1) (v := .int 0) (ty := .int) (C := RX2) (T := TX2) (N := 7) hx hb hts iX2_buildFrom_X2 tyX2 tyX2_ok nmX2 hown hK hP hD hS 0 rfl rfl 4 (by decide) (hts (.fieldLink RX2 37 "LuckyTicket$Roll" "lines" "I") (List.mem_of_getElem? (i := 4) rfl)) (fun _ h9 => h9) rfl (by decide +kernel) rfl rfl (Nat.le_of_ble_eq_true rfl) dX2_buildFrom_29 (fun H locs hP hD hS => ?_)
  have hP : va_P (dC, dI) vwCl [(cu, .inr (1, [.int 0, .int 0, .int 0, .int 0, .int 0, .ref fa, .ref lu])), (sc, .inr (3, [.int 0, .int 0, .int 0, .int 0, .int 0, .ref en, .ref ki, .ref on, .ref ot])), (fa, .inl (cJ, 0, .inr (.inl ff)))] H := hP
  have hD : va_D A [(cu, .inr (1, [.int 0, .int 0, .int 0, .int 0, .int 0, .ref fa, .ref lu])), (sc, .inr (3, [.int 0, .int 0, .int 0, .int 0, .int 0, .ref en, .ref ki, .ref on, .ref ot])), (fa, .inl (cJ, 0, .inr (.inl ff)))] := hD
  refine lv_aload_n hx hb dX2_buildFrom_32 rfl (lv_at hl 0 rfl) ?_
  refine lv_aload_n hx hb dX2_buildFrom_33 rfl (lv_at hl 0 rfl) ?_
  refine va_get (D := (dC, dI)) (ci := 1) (v := .int 0) (C := RX2) (T := TX2) (N := 7) hx hb hts iX2_buildFrom_X2 hown hK hP 0 rfl rfl 4 (by decide) (hts (.fieldLink RX2 37 "LuckyTicket$Roll" "lines" "I") (List.mem_of_getElem? (i := 4) rfl)) (fun _ h9 => h9) rfl dX2_buildFrom_34 ?_
  refine lv_if_ne (tgt := 44) hx hb dX2_buildFrom_37 (by decide) (fun c_1 => absurd c_1 (by decide)) (fun _ => ?_)
  refine lv_iconst (v := 0) hx hb dX2_buildFrom_40 (by decide) ?_
  refine lv_goto (tgt := 55) hx hb dX2_buildFrom_41 (by decide) ?_
  refine va_put (D := (dC, dI)) (ci := 1) (v := .int 0) (ty := .int) (C := RX2) (T := TX2) (N := 7) hx hb hts iX2_buildFrom_X2 tyX2 tyX2_ok nmX2 hown hK hP hD hS 0 rfl rfl 2 (by decide) (hts (.fieldLink RX2 42 "LuckyTicket$Roll" "tickets" "I") (List.mem_of_getElem? (i := 5) rfl)) (fun _ h9 => h9) rfl (by decide +kernel) rfl rfl (Nat.le_of_ble_eq_true rfl) dX2_buildFrom_55 (fun H locs hP hD hS => ?_)
  have hP : va_P (dC, dI) vwCl [(cu, .inr (1, [.int 0, .int 0, .int 0, .int 0, .int 0, .ref fa, .ref lu])), (sc, .inr (3, [.int 0, .int 0, .int 0, .int 0, .int 0, .ref en, .ref ki, .ref on, .ref ot])), (fa, .inl (cJ, 0, .inr (.inl ff)))] H := hP
  have hD : va_D A [(cu, .inr (1, [.int 0, .int 0, .int 0, .int 0, .int 0, .ref fa, .ref lu])), (sc, .inr (3, [.int 0, .int 0, .int 0, .int 0, .int 0, .ref en, .ref ki, .ref on, .ref ot])), (fa, .inl (cJ, 0, .inr (.inl ff)))] := hD
  refine lv_aload_n hx hb dX2_buildFrom_58 rfl (lv_at hl 0 rfl) ?_
  refine lv_aload_n hx hb dX2_buildFrom_59 rfl (lv_at hl 0 rfl) ?_
  refine va_get (D := (dC, dI)) (ci := 1) (v := .int 0) (C := RX2) (T := TX2) (N := 7) hx hb hts iX2_buildFrom_X2 hown hK hP 0 rfl rfl 2 (by decide) (hts (.fieldLink RX2 42 "LuckyTicket$Roll" "tickets" "I") (List.mem_of_getElem? (i := 5) rfl)) (fun _ h9 => h9) rfl dX2_buildFrom_60 ?_
  have hFc := va_free (wc := [(cu, .inr (1, [.int 0, .int 0, .int 0, .int 0, .int 0, .ref fa, .ref lu])), (fa, .inl (cJ, 0, .inr (.inl ff)))]) hD hS hA [0, 2] rfl
  refine va_callv (va_runV (As := [.int 0]) (rest := []) ⟨hx, hb, hml, hown, hts⟩ (kX2_makeRoom l dC dI cu fa lu cJ ff (H.size)) (cwV 1 hts gX2_buildFrom__X2_makeRoom_V45 rfl rfl rfl (by decide +kernel) ⟨lel 1 1 rfl, lel 21 21 rfl⟩) ⟨hw_fb, va_recv hK hP (ci := 1) (q0 := 0) rfl rfl, (hw_use hP hD hK hN [0, 2] rfl (by decide) rfl [0] rfl)⟩ rfl rfl hl.1 rfl (lv_room (Nat.le_of_ble_eq_true rfl)) dX2_buildFrom_63 ⟨lel 0 0 rfl, lel 0 0 rfl⟩) hS (fun q _ h => hFc q h) hFc (fun u_3 t H1 locs ht hvm hwr_2 hB hz1 hk1 hS => ?_)
  obtain ⟨hP1, hK1, hD1⟩ := hB
  rw [ht] at hP1
  have hK1 := va_K.moved hvm.symm hK1
  obtain ⟨hP, hD⟩ := va_join (wr := [(sc, .inr (3, [.int 0, .int 0, .int 0, .int 0, .int 0, .ref en, .ref ki, .ref on, .ref ot]))]) (w1 := [(cu, .inr (1, [.int 0, .int 0, .int 0, .int 0, .int 0, .ref fa, .ref lu])), (fa, .inl (cJ, 0, .inr (.inl ff)))]) hP hD [0, 2] [1] rfl rfl (by decide) (by decide) hk1 hFc hP1 hD1
  have hK := (hK.sub (tys' := []) [] rfl).app hK1
  generalize H1 = H at hP hS ⊢
  have hP : va_P (dC, dI) vwCl [(sc, .inr (3, [.int 0, .int 0, .int 0, .int 0, .int 0, .ref en, .ref ki, .ref on, .ref ot])), (cu, .inr (1, [.int 0, .int 0, .int 0, .int 0, .int 0, .ref fa, .ref lu])), (fa, .inl (cJ, 0, .inr (.inl ff)))] H := hP
  have hD : va_D A [(sc, .inr (3, [.int 0, .int 0, .int 0, .int 0, .int 0, .ref en, .ref ki, .ref on, .ref ot])), (cu, .inr (1, [.int 0, .int 0, .int 0, .int 0, .int 0, .ref fa, .ref lu])), (fa, .inl (cJ, 0, .inr (.inl ff)))] := hD
  have hK : va_K (dC, dI) vwCl [(cJ, .long)] s := hK
  refine lv_iconst (v := 0) hx hb dX2_buildFrom_66 (by decide) ?_
  refine lv_istore_n (lv' := [(2, .int 0), (0, .ref cu), (1, .ref sc)]) hx hb dX2_buildFrom_67 rfl hl (by decide) rfl (fun ls hl => ?_)
  refine lv_iload_n hx hb dX2_buildFrom_68 rfl (lv_at hl 0 rfl) ?_
  refine lv_aload_n hx hb dX2_buildFrom_69 rfl (lv_at hl 1 rfl) ?_
  refine va_get (D := (dC, dI)) (ci := 1) (v := .int 0) (C := RX2) (T := TX2) (N := 7) hx hb hts iX2_buildFrom_X2 hown hK hP 1 rfl rfl 2 (by decide) (hts (.fieldLink RX2 42 "LuckyTicket$Roll" "tickets" "I") (List.mem_of_getElem? (i := 5) rfl)) (fun _ h9 => h9) rfl dX2_buildFrom_70 ?_
  refine lv_icmp_ge (tgt := 133) hx hb dX2_buildFrom_73 (by decide) (fun _ => ?_) (fun c_4 => absurd c_4 (by decide))
  have hP9 := hP.sub (ws' := [(cu, .inr (1, [.int 0, .int 0, .int 0, .int 0, .int 0, .ref fa, .ref lu]))]) [1] rfl
  have hD9 := hD.sub (ws' := [(cu, .inr (1, [.int 0, .int 0, .int 0, .int 0, .int 0, .ref fa, .ref lu]))]) [1] (by decide) rfl
  have hK9 := hK.sub (tys' := []) [] rfl
  exact W.vret hx hb hr (fun t ht hW => ⟨⟨(), rfl, trivial, by rw [ht]; exact hP9, va_K.moved hW.alike hK9, hD9⟩, hS.F ht⟩) hS.2.2 dX2_buildFrom_133
theorem dX1_advance_0 : decode cX1_advance 0 = .ok (.aload_n 0, 1) := by decide +kernel
theorem dX1_advance_1 : decode cX1_advance 1 = .ok (.getfield 15, 3) := by decide +kernel
theorem dX1_advance_4 : decode cX1_advance 4 = .ok (.getfield 186, 3) := by decide +kernel
theorem dX1_advance_7 : decode cX1_advance 7 = .ok (.astore_n 1, 1) := by decide +kernel
theorem dX1_advance_8 : decode cX1_advance 8 = .ok (.aload_n 0, 1) := by decide +kernel
theorem dX1_advance_9 : decode cX1_advance 9 = .ok (.getfield 15, 3) := by decide +kernel
theorem dX1_advance_12 : decode cX1_advance 12 = .ok (.getfield 194, 3) := by decide +kernel
theorem dX1_advance_15 : decode cX1_advance 15 = .ok (.istore_n 2, 1) := by decide +kernel
theorem dX1_advance_16 : decode cX1_advance 16 = .ok (.aload_n 0, 1) := by decide +kernel
theorem dX1_advance_17 : decode cX1_advance 17 = .ok (.getfield 26, 3) := by decide +kernel
theorem dX1_advance_20 : decode cX1_advance 20 = .ok (.iload_n 2, 1) := by decide +kernel
theorem dX1_advance_21 : decode cX1_advance 21 = .ok (.if_icmp .ge 38, 3) := by decide +kernel
theorem dX1_advance_59 : decode cX1_advance 59 = .ok (.aload_n 0, 1) := by decide +kernel
theorem dX1_advance_60 : decode cX1_advance 60 = .ok (.aload_n 0, 1) := by decide +kernel
theorem dX1_advance_61 : decode cX1_advance 61 = .ok (.getfield 26, 3) := by decide +kernel
theorem dX1_advance_64 : decode cX1_advance 64 = .ok (.putfield 178, 3) := by decide +kernel
theorem dX1_advance_67 : decode cX1_advance 67 = .ok (.aload_n 0, 1) := by decide +kernel
theorem dX1_advance_68 : decode cX1_advance 68 = .ok (.iconst 0, 1) := by decide +kernel
theorem dX1_advance_69 : decode cX1_advance 69 = .ok (.putfield 172, 3) := by decide +kernel
theorem dX1_advance_72 : decode cX1_advance 72 = .ok (.aload_n 0, 1) := by decide +kernel
theorem dX1_advance_73 : decode cX1_advance 73 = .ok (.getfield 178, 3) := by decide +kernel
theorem dX1_advance_76 : decode cX1_advance 76 = .ok (.iload_n 2, 1) := by decide +kernel
theorem dX1_advance_77 : decode cX1_advance 77 = .ok (.if_icmp .lt 11, 3) := by decide +kernel
theorem dX1_advance_80 : decode cX1_advance 80 = .ok (.aload_n 0, 1) := by decide +kernel
theorem dX1_advance_81 : decode cX1_advance 81 = .ok (.iconst 0, 1) := by decide +kernel
theorem dX1_advance_82 : decode cX1_advance 82 = .ok (.putfield 39, 3) := by decide +kernel
theorem dX1_advance_85 : decode cX1_advance 85 = .ok (.goto 237, 3) := by decide +kernel
theorem dX1_advance_322 : decode cX1_advance 322 = .ok (.return_, 1) := by decide +kernel
def uX1_advance : List Cond := .code yX1_advance cX1_advance 3 none :: ([.fieldLink RX1 15 "LuckyTicket$Reader" "tape" "LLuckyTicket$Tape;", .fieldLink RX1 26 "LuckyTicket$Reader" "stop" "I", .fieldLink RX1 178 "LuckyTicket$Reader" "start" "I", .fieldLink RX1 172 "LuckyTicket$Reader" "value" "I", .fieldLink RX1 39 "LuckyTicket$Reader" "token" "I"] ++ wsX10 ++ wsX70)
theorem iX1_advance_X1 : ∀ w ∈ wsX10, w ∈ uX1_advance := fun _ h => List.mem_cons_of_mem _ (List.mem_append_left _ (List.mem_append_right _ h))
theorem iX1_advance_X7 : ∀ w ∈ wsX70, w ∈ uX1_advance := fun _ h => List.mem_cons_of_mem _ (List.mem_append_right _ h)
set_option maxHeartbeats 4000000 in
set_option maxRecDepth 100000 in
theorem kX1_advance (l : Launch) (dC : Nat → ClassId) (dI : Nat → Nat → Nat) (rd : Nat) (tp : Nat) (sc : Nat) (tb : Nat) (cB : ClassId) (tf : Nat → Int32) (sz : Nat) : Met l yX1_advance uX1_advance ({ frames := 0, cells := 0, slots := 0, locals := 0 }) (va_Pc [.ref rd] (hw (dC, dI) vwCl [(rd, .inr (0, [.ref tp, .ref sc, .int 0, .int (-1), .int 0, .int 0, .int 0, .int 0, .int 0])), (tp, .inr (6, [.ref tb, .int 0])), (tb, .inl (cB, 1200, .inl tf))] [(cB, .byte)] sz)) (va_Qv (fun (_ : Unit) => True) (fun (_ : Unit) t => va_P (dC, dI) vwCl [(rd, .inr (0, [.ref tp, .ref sc, .int 0, .int (-1), .int 0, .int 0, .int 0, .int 0, .int 0])), (tp, .inr (6, [.ref tb, .int 0])), (tb, .inl (cB, 1200, .inl tf))] t.heap ∧ va_K (dC, dI) vwCl [(cB, .byte)] t ∧ va_D (va_A [(rd, .inr (0, [.ref tp, .ref sc, .int 0, .int (-1), .int 0, .int 0, .int 0, .int 0, .int 0])), (tp, .inr (6, [.ref tb, .int 0])), (tb, .inl (cB, 1200, .inl tf))] sz) [(rd, .inr (0, [.ref tp, .ref sc, .int 0, .int (-1), .int 0, .int 0, .int 0, .int 0, .int 0])), (tp, .inr (6, [.ref tb, .int 0])), (tb, .inl (cB, 1200, .inl tf))]) (va_A [(rd, .inr (0, [.ref tp, .ref sc, .int 0, .int (-1), .int 0, .int 0, .int 0, .int 0, .int 0])), (tp, .inr (6, [.ref tb, .int 0])), (tb, .inl (cB, 1200, .inl tf))] sz)) 0 0 (va_A [(rd, .inr (0, [.ref tp, .ref sc, .int 0, .int (-1), .int 0, .int 0, .int 0, .int 0, .int 0])), (tp, .inr (6, [.ref tb, .int 0])), (tb, .inl (cB, 1200, .inl tf))] sz) := by
  refine Met.ofW (cc := cX1_advance) (maxL := 3) (ret := none) (by decide) rfl ?_
  intro p e s m args below meth c s₁ B hml hv
  obtain ⟨rfl, hsz, hP, hK, hD0, hN⟩ := hv
  have hx := B.exec
  have hb := B.bytes
  have hr := B.returns
  have hts := atoms_spec (ws := uX1_advance) B.pre
  have hown : s.vm.findClass RX1 = some m.cls := findClass_of_methodNamed B.named
  have hlocks := B.notSynchronized
  subst hsz
  have hD := hD0.self (sz := s.heap.size)
  generalize hAe : va_A [(rd, .inr (0, [.ref tp, .ref sc, .int 0, .int (-1), .int 0, .int 0, .int 0, .int 0, .int 0])), (tp, .inr (6, [.ref tb, .int 0])), (tb, .inl (cB, 1200, .inl tf))] s.heap.size = A at hD ⊢
  have hA : ∀ q : Nat, s.heap.size ≤ q → A q := fun q h => by rw [← hAe]; exact Or.inr h
  have hS : va_S A s.heap s.heap [] := va_S.rf
  have hP : va_P (dC, dI) vwCl [(rd, .inr (0, [.ref tp, .ref sc, .int 0, .int (-1), .int 0, .int 0, .int 0, .int 0, .int 0])), (tp, .inr (6, [.ref tb, .int 0])), (tb, .inl (cB, 1200, .inl tf))] s.heap := hP
  have hl := lv_entry ([.ref rd]) (n := 3) (Nat.le_of_ble_eq_true rfl)
  rw [lg_entry_eq]
  generalize (lg_sl ([.ref rd]) ++ List.replicate (3 - (lg_sl ([.ref rd])).length) Slot.unset).toArray = ls at hl ⊢
  have hl : lv_has ls 3 [(0, .ref rd)] := hl
  refine lv_aload_n hx hb dX1_advance_0 rfl (lv_at hl 0 rfl) ?_
  refine va_get (D := (dC, dI)) (ci := 0) (v := .ref tp) (C := RX1) (T := TX1) (N := 9) hx hb hts iX1_advance_X1 hown hK hP 0 rfl rfl 0 (by decide) (hts (.fieldLink RX1 15 "LuckyTicket$Reader" "tape" "LLuckyTicket$Tape;") (List.mem_of_getElem? (i := 1) rfl)) (fun _ h9 => h9) rfl dX1_advance_1 ?_
  refine va_getN (own := RX1) (index := 186) (ref := RX7) (host := RX9) (D := (dC, dI)) (ci := 6) (v := .ref tb) (C := RX7) (T := TX7) (N := 2) hx hb hts iX1_advance_X7 hown hK hP 1 rfl rfl 0 (by decide) (va_Nw.use rfl (hN _ (List.mem_of_getElem? (i := 0) rfl))) (fun _ h9 => h9) rfl dX1_advance_4 ?_
  refine lv_astore_n (lv' := [(1, .ref tb), (0, .ref rd)]) hx hb dX1_advance_7 rfl hl (by decide) rfl (fun ls hl => ?_)
  refine lv_aload_n hx hb dX1_advance_8 rfl (lv_at hl 1 rfl) ?_
  refine va_get (D := (dC, dI)) (ci := 0) (v := .ref tp) (C := RX1) (T := TX1) (N := 9) hx hb hts iX1_advance_X1 hown hK hP 0 rfl rfl 0 (by decide) (hts (.fieldLink RX1 15 "LuckyTicket$Reader" "tape" "LLuckyTicket$Tape;") (List.mem_of_getElem? (i := 1) rfl)) (fun _ h9 => h9) rfl dX1_advance_9 ?_
  refine va_getN (own := RX1) (index := 194) (ref := RX7) (host := RX9) (D := (dC, dI)) (ci := 6) (v := .int 0) (C := RX7) (T := TX7) (N := 2) hx hb hts iX1_advance_X7 hown hK hP 1 rfl rfl 1 (by decide) (va_Nw.use rfl (hN _ (List.mem_of_getElem? (i := 2) rfl))) (fun _ h9 => h9) rfl dX1_advance_12 ?_
  refine lv_istore_n (lv' := [(2, .int 0), (1, .ref tb), (0, .ref rd)]) hx hb dX1_advance_15 rfl hl (by decide) rfl (fun ls hl => ?_)
  refine lv_aload_n hx hb dX1_advance_16 rfl (lv_at hl 2 rfl) ?_
  refine va_get (D := (dC, dI)) (ci := 0) (v := .int 0) (C := RX1) (T := TX1) (N := 9) hx hb hts iX1_advance_X1 hown hK hP 0 rfl rfl 6 (by decide) (hts (.fieldLink RX1 26 "LuckyTicket$Reader" "stop" "I") (List.mem_of_getElem? (i := 2) rfl)) (fun _ h9 => h9) rfl dX1_advance_17 ?_
  refine lv_iload_n hx hb dX1_advance_20 rfl (lv_at hl 0 rfl) ?_
  refine lv_icmp_ge (tgt := 59) hx hb dX1_advance_21 (by decide) (fun _ => ?_) (fun c_1 => absurd c_1 (by decide))
  refine lv_aload_n hx hb dX1_advance_59 rfl (lv_at hl 2 rfl) ?_
  refine lv_aload_n hx hb dX1_advance_60 rfl (lv_at hl 2 rfl) ?_
  refine va_get (D := (dC, dI)) (ci := 0) (v := .int 0) (C := RX1) (T := TX1) (N := 9) hx hb hts iX1_advance_X1 hown hK hP 0 rfl rfl 6 (by decide) (hts (.fieldLink RX1 26 "LuckyTicket$Reader" "stop" "I") (List.mem_of_getElem? (i := 2) rfl)) (fun _ h9 => h9) rfl dX1_advance_61 ?_
  refine va_put (D := (dC, dI)) (ci := 0) (v := .int 0) (ty := .int) (C := RX1) (T := TX1) (N := 9) hx hb hts iX1_advance_X1 tyX1 tyX1_ok nmX1 hown hK hP hD hS 0 rfl rfl 5 (by decide) (hts (.fieldLink RX1 178 "LuckyTicket$Reader" "start" "I") (List.mem_of_getElem? (i := 3) rfl)) (fun _ h9 => h9) rfl (by decide +kernel) rfl rfl (Nat.le_of_ble_eq_true rfl) dX1_advance_64 (fun H locs hP hD hS => ?_)
  have hP : va_P (dC, dI) vwCl [(rd, .inr (0, [.ref tp, .ref sc, .int 0, .int (-1), .int 0, .int 0, .int 0, .int 0, .int 0])), (tp, .inr (6, [.ref tb, .int 0])), (tb, .inl (cB, 1200, .inl tf))] H := hP
  have hD : va_D A [(rd, .inr (0, [.ref tp, .ref sc, .int 0, .int (-1), .int 0, .int 0, .int 0, .int 0, .int 0])), (tp, .inr (6, [.ref tb, .int 0])), (tb, .inl (cB, 1200, .inl tf))] := hD
  refine lv_aload_n hx hb dX1_advance_67 rfl (lv_at hl 2 rfl) ?_
  refine lv_iconst (v := 0) hx hb dX1_advance_68 (by decide) ?_
  refine va_put (D := (dC, dI)) (ci := 0) (v := .int 0) (ty := .int) (C := RX1) (T := TX1) (N := 9) hx hb hts iX1_advance_X1 tyX1 tyX1_ok nmX1 hown hK hP hD hS 0 rfl rfl 7 (by decide) (hts (.fieldLink RX1 172 "LuckyTicket$Reader" "value" "I") (List.mem_of_getElem? (i := 4) rfl)) (fun _ h9 => h9) rfl (by decide +kernel) rfl rfl (Nat.le_of_ble_eq_true rfl) dX1_advance_69 (fun H locs hP hD hS => ?_)
  have hP : va_P (dC, dI) vwCl [(rd, .inr (0, [.ref tp, .ref sc, .int 0, .int (-1), .int 0, .int 0, .int 0, .int 0, .int 0])), (tp, .inr (6, [.ref tb, .int 0])), (tb, .inl (cB, 1200, .inl tf))] H := hP
  have hD : va_D A [(rd, .inr (0, [.ref tp, .ref sc, .int 0, .int (-1), .int 0, .int 0, .int 0, .int 0, .int 0])), (tp, .inr (6, [.ref tb, .int 0])), (tb, .inl (cB, 1200, .inl tf))] := hD
  refine lv_aload_n hx hb dX1_advance_72 rfl (lv_at hl 2 rfl) ?_
  refine va_get (D := (dC, dI)) (ci := 0) (v := .int 0) (C := RX1) (T := TX1) (N := 9) hx hb hts iX1_advance_X1 hown hK hP 0 rfl rfl 5 (by decide) (hts (.fieldLink RX1 178 "LuckyTicket$Reader" "start" "I") (List.mem_of_getElem? (i := 3) rfl)) (fun _ h9 => h9) rfl dX1_advance_73 ?_
  refine lv_iload_n hx hb dX1_advance_76 rfl (lv_at hl 0 rfl) ?_
  refine lv_icmp_lt (tgt := 88) hx hb dX1_advance_77 (by decide) (fun c_2 => absurd c_2 (by decide)) (fun _ => ?_)
  refine lv_aload_n hx hb dX1_advance_80 rfl (lv_at hl 2 rfl) ?_
  refine lv_iconst (v := 0) hx hb dX1_advance_81 (by decide) ?_
  refine va_put (D := (dC, dI)) (ci := 0) (v := .int 0) (ty := .int) (C := RX1) (T := TX1) (N := 9) hx hb hts iX1_advance_X1 tyX1 tyX1_ok nmX1 hown hK hP hD hS 0 rfl rfl 4 (by decide) (hts (.fieldLink RX1 39 "LuckyTicket$Reader" "token" "I") (List.mem_of_getElem? (i := 5) rfl)) (fun _ h9 => h9) rfl (by decide +kernel) rfl rfl (Nat.le_of_ble_eq_true rfl) dX1_advance_82 (fun H locs hP hD hS => ?_)
  have hP : va_P (dC, dI) vwCl [(rd, .inr (0, [.ref tp, .ref sc, .int 0, .int (-1), .int 0, .int 0, .int 0, .int 0, .int 0])), (tp, .inr (6, [.ref tb, .int 0])), (tb, .inl (cB, 1200, .inl tf))] H := hP
  have hD : va_D A [(rd, .inr (0, [.ref tp, .ref sc, .int 0, .int (-1), .int 0, .int 0, .int 0, .int 0, .int 0])), (tp, .inr (6, [.ref tb, .int 0])), (tb, .inl (cB, 1200, .inl tf))] := hD
  refine lv_goto (tgt := 322) hx hb dX1_advance_85 (by decide) ?_
  have hP9 := hP.sub (ws' := [(rd, .inr (0, [.ref tp, .ref sc, .int 0, .int (-1), .int 0, .int 0, .int 0, .int 0, .int 0])), (tp, .inr (6, [.ref tb, .int 0])), (tb, .inl (cB, 1200, .inl tf))]) [0, 1, 2] rfl
  have hD9 := hD.sub (ws' := [(rd, .inr (0, [.ref tp, .ref sc, .int 0, .int (-1), .int 0, .int 0, .int 0, .int 0, .int 0])), (tp, .inr (6, [.ref tb, .int 0])), (tb, .inl (cB, 1200, .inl tf))]) [0, 1, 2] (by decide) rfl
  have hK9 := hK.sub (tys' := [(cB, .byte)]) [0] rfl
  exact W.vret hx hb hr (fun t ht hW => ⟨⟨(), rfl, trivial, by rw [ht]; exact hP9, va_K.moved hW.alike hK9, hD9⟩, hS.F ht⟩) hS.2.2 dX1_advance_322
theorem dX1_readTape_0 : decode cX1_readTape 0 = .ok (.aload_n 0, 1) := by decide +kernel
theorem dX1_readTape_1 : decode cX1_readTape 1 = .ok (.iconst 0, 1) := by decide +kernel
theorem dX1_readTape_2 : decode cX1_readTape 2 = .ok (.putfield 23, 3) := by decide +kernel
theorem dX1_readTape_5 : decode cX1_readTape 5 = .ok (.aload_n 0, 1) := by decide +kernel
theorem dX1_readTape_6 : decode cX1_readTape 6 = .ok (.iconst (-1), 1) := by decide +kernel
theorem dX1_readTape_7 : decode cX1_readTape 7 = .ok (.putfield 9, 3) := by decide +kernel
theorem dX1_readTape_10 : decode cX1_readTape 10 = .ok (.aload_n 0, 1) := by decide +kernel
theorem dX1_readTape_11 : decode cX1_readTape 11 = .ok (.iconst 0, 1) := by decide +kernel
theorem dX1_readTape_12 : decode cX1_readTape 12 = .ok (.putfield 26, 3) := by decide +kernel
theorem dX1_readTape_15 : decode cX1_readTape 15 = .ok (.aload_n 0, 1) := by decide +kernel
theorem dX1_readTape_16 : decode cX1_readTape 16 = .ok (.getfield 19, 3) := by decide +kernel
theorem dX1_readTape_19 : decode cX1_readTape 19 = .ok (.invokevirtual 29, 3) := by decide +kernel
theorem dX1_readTape_22 : decode cX1_readTape 22 = .ok (.aload_n 0, 1) := by decide +kernel
theorem dX1_readTape_23 : decode cX1_readTape 23 = .ok (.invokevirtual 34, 3) := by decide +kernel
theorem dX1_readTape_26 : decode cX1_readTape 26 = .ok (.iconst 0, 1) := by decide +kernel
theorem dX1_readTape_27 : decode cX1_readTape 27 = .ok (.istore_n 1, 1) := by decide +kernel
theorem dX1_readTape_28 : decode cX1_readTape 28 = .ok (.iload_n 1, 1) := by decide +kernel
theorem dX1_readTape_29 : decode cX1_readTape 29 = .ok (.sipush 1200, 3) := by decide +kernel
theorem dX1_readTape_32 : decode cX1_readTape 32 = .ok (.if_icmp .ge 75, 3) := by decide +kernel
theorem dX1_readTape_35 : decode cX1_readTape 35 = .ok (.aload_n 0, 1) := by decide +kernel
theorem dX1_readTape_36 : decode cX1_readTape 36 = .ok (.getfield 23, 3) := by decide +kernel
theorem dX1_readTape_39 : decode cX1_readTape 39 = .ok (.ifCond .ne 68, 3) := by decide +kernel
theorem dX1_readTape_42 : decode cX1_readTape 42 = .ok (.aload_n 0, 1) := by decide +kernel
theorem dX1_readTape_43 : decode cX1_readTape 43 = .ok (.getfield 39, 3) := by decide +kernel
theorem dX1_readTape_46 : decode cX1_readTape 46 = .ok (.ifCond .eq 61, 3) := by decide +kernel
theorem dX1_readTape_107 : decode cX1_readTape 107 = .ok (.return_, 1) := by decide +kernel
def uX1_readTape : List Cond := .code yX1_readTape cX1_readTape 2 none :: ([.fieldLink RX1 23 "LuckyTicket$Reader" "fault" "I", .fieldLink RX1 9 "LuckyTicket$Reader" "faultPlace" "I", .fieldLink RX1 26 "LuckyTicket$Reader" "stop" "I", .fieldLink RX1 19 "LuckyTicket$Reader" "script" "LLuckyTicket$Script;", .methodLink RX1 29 yX4_clear, .instanceMethod yX4_clear, .selects RX4 yX4_clear yX4_clear, .initialized RX4, .code yX4_clear cX4_clear 1 none, .fieldLink RX4 27 "LuckyTicket$Script" "length" "I", .fieldLink RX4 31 "LuckyTicket$Script" "base" "I", .fieldLink RX4 34 "LuckyTicket$Script" "lines" "I", .fieldLink RX4 37 "LuckyTicket$Script" "laws" "I", .fieldLink RX4 40 "LuckyTicket$Script" "size" "I", .methodLink RX1 34 yX1_advance, .instanceMethod yX1_advance, .selects RX1 yX1_advance yX1_advance, .initialized RX1, .code yX1_advance cX1_advance 3 none, .fieldLink RX1 15 "LuckyTicket$Reader" "tape" "LLuckyTicket$Tape;", .fieldLink RX1 178 "LuckyTicket$Reader" "start" "I", .fieldLink RX1 172 "LuckyTicket$Reader" "value" "I", .fieldLink RX1 39 "LuckyTicket$Reader" "token" "I"] ++ wsX10 ++ wsX40 ++ wsX70)
theorem iX1_readTape_X1 : ∀ w ∈ wsX10, w ∈ uX1_readTape := fun _ h => List.mem_cons_of_mem _ (List.mem_append_left _ (List.mem_append_left _ (List.mem_append_right _ h)))
theorem iX1_readTape_X4 : ∀ w ∈ wsX40, w ∈ uX1_readTape := fun _ h => List.mem_cons_of_mem _ (List.mem_append_left _ (List.mem_append_right _ h))
theorem iX1_readTape_X7 : ∀ w ∈ wsX70, w ∈ uX1_readTape := fun _ h => List.mem_cons_of_mem _ (List.mem_append_right _ h)
set_option maxRecDepth 20000 in
theorem gX1_readTape__X4_clear_V29 : GoodIn uX1_readTape (wsV RX1 29 RX4 yX4_clear uX4_clear) := goodIn_p _ [9] rfl (by decide +kernel)
set_option maxRecDepth 20000 in
theorem gX1_readTape__X1_advance_V34 : GoodIn uX1_readTape (wsV RX1 34 RX1 yX1_advance uX1_advance) := goodIn_p _ [19] rfl (by decide +kernel)
set_option maxHeartbeats 4000000 in
set_option maxRecDepth 100000 in
theorem kX1_readTape (l : Launch) (dC : Nat → ClassId) (dI : Nat → Nat → Nat) (rd : Nat) (tp : Nat) (sc : Nat) (en : Nat) (ki : Nat) (on : Nat) (ot : Nat) (tb : Nat) (cB : ClassId) (tf : Nat → Int32) (sz : Nat) : Met l yX1_readTape uX1_readTape ({ frames := 1, cells := 0, slots := 0, locals := 22 }) (va_Pc [.ref rd] (hw (dC, dI) vwCl [(rd, .inr (0, [.ref tp, .ref sc, .int 0, .int (-1), .int 0, .int 0, .int 0, .int 0, .int 0])), (sc, .inr (3, [.int 0, .int 0, .int 0, .int 0, .int 0, .ref en, .ref ki, .ref on, .ref ot])), (tp, .inr (6, [.ref tb, .int 0])), (tb, .inl (cB, 1200, .inl tf))] [(cB, .byte)] sz)) (va_Qv (fun (_ : Unit) => True) (fun (_ : Unit) t => va_P (dC, dI) vwCl [(sc, .inr (3, [.int 0, .int 0, .int 0, .int 0, .int 0, .ref en, .ref ki, .ref on, .ref ot])), (rd, .inr (0, [.ref tp, .ref sc, .int 0, .int (-1), .int 0, .int 0, .int 0, .int 0, .int 0])), (tp, .inr (6, [.ref tb, .int 0])), (tb, .inl (cB, 1200, .inl tf))] t.heap ∧ va_K (dC, dI) vwCl [(cB, .byte)] t ∧ va_D (va_A [(rd, .inr (0, [.ref tp, .ref sc, .int 0, .int (-1), .int 0, .int 0, .int 0, .int 0, .int 0])), (sc, .inr (3, [.int 0, .int 0, .int 0, .int 0, .int 0, .ref en, .ref ki, .ref on, .ref ot])), (tp, .inr (6, [.ref tb, .int 0])), (tb, .inl (cB, 1200, .inl tf))] sz) [(sc, .inr (3, [.int 0, .int 0, .int 0, .int 0, .int 0, .ref en, .ref ki, .ref on, .ref ot])), (rd, .inr (0, [.ref tp, .ref sc, .int 0, .int (-1), .int 0, .int 0, .int 0, .int 0, .int 0])), (tp, .inr (6, [.ref tb, .int 0])), (tb, .inl (cB, 1200, .inl tf))]) (va_A [(rd, .inr (0, [.ref tp, .ref sc, .int 0, .int (-1), .int 0, .int 0, .int 0, .int 0, .int 0])), (sc, .inr (3, [.int 0, .int 0, .int 0, .int 0, .int 0, .ref en, .ref ki, .ref on, .ref ot])), (tp, .inr (6, [.ref tb, .int 0])), (tb, .inl (cB, 1200, .inl tf))] sz)) 0 0 (va_A [(rd, .inr (0, [.ref tp, .ref sc, .int 0, .int (-1), .int 0, .int 0, .int 0, .int 0, .int 0])), (sc, .inr (3, [.int 0, .int 0, .int 0, .int 0, .int 0, .ref en, .ref ki, .ref on, .ref ot])), (tp, .inr (6, [.ref tb, .int 0])), (tb, .inl (cB, 1200, .inl tf))] sz) := by
  refine Met.ofW (cc := cX1_readTape) (maxL := 2) (ret := none) (by decide) rfl ?_
  intro p e s m args below meth c s₁ B hml hv
  obtain ⟨rfl, hsz, hP, hK, hD0, hN⟩ := hv
  have hx := B.exec
  have hb := B.bytes
  have hr := B.returns
  have hts := atoms_spec (ws := uX1_readTape) B.pre
  have hown : s.vm.findClass RX1 = some m.cls := findClass_of_methodNamed B.named
  have hlocks := B.notSynchronized
  subst hsz
  have hD := hD0.self (sz := s.heap.size)
  generalize hAe : va_A [(rd, .inr (0, [.ref tp, .ref sc, .int 0, .int (-1), .int 0, .int 0, .int 0, .int 0, .int 0])), (sc, .inr (3, [.int 0, .int 0, .int 0, .int 0, .int 0, .ref en, .ref ki, .ref on, .ref ot])), (tp, .inr (6, [.ref tb, .int 0])), (tb, .inl (cB, 1200, .inl tf))] s.heap.size = A at hD ⊢
  have hA : ∀ q : Nat, s.heap.size ≤ q → A q := fun q h => by rw [← hAe]; exact Or.inr h
  have hS : va_S A s.heap s.heap [] := va_S.rf
  have hP : va_P (dC, dI) vwCl [(rd, .inr (0, [.ref tp, .ref sc, .int 0, .int (-1), .int 0, .int 0, .int 0, .int 0, .int 0])), (sc, .inr (3, [.int 0, .int 0, .int 0, .int 0, .int 0, .ref en, .ref ki, .ref on, .ref ot])), (tp, .inr (6, [.ref tb, .int 0])), (tb, .inl (cB, 1200, .inl tf))] s.heap := hP
  have hl := lv_entry ([.ref rd]) (n := 2) (Nat.le_of_ble_eq_true rfl)
  rw [lg_entry_eq]
  generalize (lg_sl ([.ref rd]) ++ List.replicate (2 - (lg_sl ([.ref rd])).length) Slot.unset).toArray = ls at hl ⊢
  have hl : lv_has ls 2 [(0, .ref rd)] := hl
  refine lv_aload_n hx hb dX1_readTape_0 rfl (lv_at hl 0 rfl) ?_
  refine lv_iconst (v := 0) hx hb dX1_readTape_1 (by decide) ?_
  refine va_put (D := (dC, dI)) (ci := 0) (v := .int 0) (ty := .int) (C := RX1) (T := TX1) (N := 9) hx hb hts iX1_readTape_X1 tyX1 tyX1_ok nmX1 hown hK hP hD hS 0 rfl rfl 2 (by decide) (hts (.fieldLink RX1 23 "LuckyTicket$Reader" "fault" "I") (List.mem_of_getElem? (i := 1) rfl)) (fun _ h9 => h9) rfl (by decide +kernel) rfl rfl (Nat.le_of_ble_eq_true rfl) dX1_readTape_2 (fun H locs hP hD hS => ?_)
  have hP : va_P (dC, dI) vwCl [(rd, .inr (0, [.ref tp, .ref sc, .int 0, .int (-1), .int 0, .int 0, .int 0, .int 0, .int 0])), (sc, .inr (3, [.int 0, .int 0, .int 0, .int 0, .int 0, .ref en, .ref ki, .ref on, .ref ot])), (tp, .inr (6, [.ref tb, .int 0])), (tb, .inl (cB, 1200, .inl tf))] H := hP
  have hD : va_D A [(rd, .inr (0, [.ref tp, .ref sc, .int 0, .int (-1), .int 0, .int 0, .int 0, .int 0, .int 0])), (sc, .inr (3, [.int 0, .int 0, .int 0, .int 0, .int 0, .ref en, .ref ki, .ref on, .ref ot])), (tp, .inr (6, [.ref tb, .int 0])), (tb, .inl (cB, 1200, .inl tf))] := hD
  refine lv_aload_n hx hb dX1_readTape_5 rfl (lv_at hl 0 rfl) ?_
  refine lv_iconst (v := (-1)) hx hb dX1_readTape_6 (by decide) ?_
  refine va_put (D := (dC, dI)) (ci := 0) (v := .int (-1)) (ty := .int) (C := RX1) (T := TX1) (N := 9) hx hb hts iX1_readTape_X1 tyX1 tyX1_ok nmX1 hown hK hP hD hS 0 rfl rfl 3 (by decide) (hts (.fieldLink RX1 9 "LuckyTicket$Reader" "faultPlace" "I") (List.mem_of_getElem? (i := 2) rfl)) (fun _ h9 => h9) rfl (by decide +kernel) rfl rfl (Nat.le_of_ble_eq_true rfl) dX1_readTape_7 (fun H locs hP hD hS => ?_)
  have hP : va_P (dC, dI) vwCl [(rd, .inr (0, [.ref tp, .ref sc, .int 0, .int (-1), .int 0, .int 0, .int 0, .int 0, .int 0])), (sc, .inr (3, [.int 0, .int 0, .int 0, .int 0, .int 0, .ref en, .ref ki, .ref on, .ref ot])), (tp, .inr (6, [.ref tb, .int 0])), (tb, .inl (cB, 1200, .inl tf))] H := hP
  have hD : va_D A [(rd, .inr (0, [.ref tp, .ref sc, .int 0, .int (-1), .int 0, .int 0, .int 0, .int 0, .int 0])), (sc, .inr (3, [.int 0, .int 0, .int 0, .int 0, .int 0, .ref en, .ref ki, .ref on, .ref ot])), (tp, .inr (6, [.ref tb, .int 0])), (tb, .inl (cB, 1200, .inl tf))] := hD
  refine lv_aload_n hx hb dX1_readTape_10 rfl (lv_at hl 0 rfl) ?_
  refine lv_iconst (v := 0) hx hb dX1_readTape_11 (by decide) ?_
  refine va_put (D := (dC, dI)) (ci := 0) (v := .int 0) (ty := .int) (C := RX1) (T := TX1) (N := 9) hx hb hts iX1_readTape_X1 tyX1 tyX1_ok nmX1 hown hK hP hD hS 0 rfl rfl 6 (by decide) (hts (.fieldLink RX1 26 "LuckyTicket$Reader" "stop" "I") (List.mem_of_getElem? (i := 3) rfl)) (fun _ h9 => h9) rfl (by decide +kernel) rfl rfl (Nat.le_of_ble_eq_true rfl) dX1_readTape_12 (fun H locs hP hD hS => ?_)
  have hP : va_P (dC, dI) vwCl [(rd, .inr (0, [.ref tp, .ref sc, .int 0, .int (-1), .int 0, .int 0, .int 0, .int 0, .int 0])), (sc, .inr (3, [.int 0, .int 0, .int 0, .int 0, .int 0, .ref en, .ref ki, .ref on, .ref ot])), (tp, .inr (6, [.ref tb, .int 0])), (tb, .inl (cB, 1200, .inl tf))] H := hP
  have hD : va_D A [(rd, .inr (0, [.ref tp, .ref sc, .int 0, .int (-1), .int 0, .int 0, .int 0, .int 0, .int 0])), (sc, .inr (3, [.int 0, .int 0, .int 0, .int 0, .int 0, .ref en, .ref ki, .ref on, .ref ot])), (tp, .inr (6, [.ref tb, .int 0])), (tb, .inl (cB, 1200, .inl tf))] := hD
  refine lv_aload_n hx hb dX1_readTape_15 rfl (lv_at hl 0 rfl) ?_
  refine va_get (D := (dC, dI)) (ci := 0) (v := .ref sc) (C := RX1) (T := TX1) (N := 9) hx hb hts iX1_readTape_X1 hown hK hP 0 rfl rfl 1 (by decide) (hts (.fieldLink RX1 19 "LuckyTicket$Reader" "script" "LLuckyTicket$Script;") (List.mem_of_getElem? (i := 4) rfl)) (fun _ h9 => h9) rfl dX1_readTape_16 ?_
  have hFc := va_free (wc := [(sc, .inr (3, [.int 0, .int 0, .int 0, .int 0, .int 0, .ref en, .ref ki, .ref on, .ref ot]))]) hD hS hA [1] rfl
  refine va_callv (va_runV (As := []) (rest := []) ⟨hx, hb, hml, hown, hts⟩ (kX4_clear l dC dI sc en ki on ot (H.size)) (cwV 0 hts gX1_readTape__X4_clear_V29 rfl rfl rfl (by decide +kernel) ⟨lel 1 1 rfl, lel 20 22 rfl⟩) ⟨hw_fb, va_recv hK hP (ci := 3) (q0 := 1) rfl rfl, (hw_use hP hD hK hN [1] rfl (by decide) rfl [] rfl)⟩ rfl rfl hl.1 rfl (lv_room (Nat.le_of_ble_eq_true rfl)) dX1_readTape_19 ⟨lel 0 0 rfl, lel 0 0 rfl⟩) hS (fun q _ h => hFc q h) hFc (fun u_2 t H1 locs ht hvm hwr_1 hB hz1 hk1 hS => ?_)
  obtain ⟨hP1, hK1, hD1⟩ := hB
  rw [ht] at hP1
  have hK1 := va_K.moved hvm.symm hK1
  obtain ⟨hP, hD⟩ := va_join (wr := [(rd, .inr (0, [.ref tp, .ref sc, .int 0, .int (-1), .int 0, .int 0, .int 0, .int 0, .int 0])), (tp, .inr (6, [.ref tb, .int 0])), (tb, .inl (cB, 1200, .inl tf))]) (w1 := [(sc, .inr (3, [.int 0, .int 0, .int 0, .int 0, .int 0, .ref en, .ref ki, .ref on, .ref ot]))]) hP hD [1] [0, 2, 3] rfl rfl (by decide) (by decide) hk1 hFc hP1 hD1
  have hK := (hK.sub (tys' := [(cB, .byte)]) [0] rfl).app hK1
  generalize H1 = H at hP hS ⊢
  have hP : va_P (dC, dI) vwCl [(rd, .inr (0, [.ref tp, .ref sc, .int 0, .int (-1), .int 0, .int 0, .int 0, .int 0, .int 0])), (tp, .inr (6, [.ref tb, .int 0])), (tb, .inl (cB, 1200, .inl tf)), (sc, .inr (3, [.int 0, .int 0, .int 0, .int 0, .int 0, .ref en, .ref ki, .ref on, .ref ot]))] H := hP
  have hD : va_D A [(rd, .inr (0, [.ref tp, .ref sc, .int 0, .int (-1), .int 0, .int 0, .int 0, .int 0, .int 0])), (tp, .inr (6, [.ref tb, .int 0])), (tb, .inl (cB, 1200, .inl tf)), (sc, .inr (3, [.int 0, .int 0, .int 0, .int 0, .int 0, .ref en, .ref ki, .ref on, .ref ot]))] := hD
  have hK : va_K (dC, dI) vwCl [(cB, .byte)] s := hK
  refine lv_aload_n hx hb dX1_readTape_22 rfl (lv_at hl 0 rfl) ?_
  have hFc := va_free (wc := [(rd, .inr (0, [.ref tp, .ref sc, .int 0, .int (-1), .int 0, .int 0, .int 0, .int 0, .int 0])), (tp, .inr (6, [.ref tb, .int 0])), (tb, .inl (cB, 1200, .inl tf))]) hD hS hA [0, 1, 2] rfl
  refine va_callv (va_runV (As := []) (rest := []) ⟨hx, hb, hml, hown, hts⟩ (kX1_advance l dC dI rd tp sc tb cB tf (H.size)) (cwV 0 hts gX1_readTape__X1_advance_V34 rfl rfl rfl (by decide +kernel) ⟨lel 1 1 rfl, lel 22 22 rfl⟩) ⟨hw_fb, va_recv hK hP (ci := 0) (q0 := 0) rfl rfl, (hw_use hP hD hK hN [0, 1, 2] rfl (by decide) rfl [0] rfl)⟩ rfl rfl hl.1 rfl (lv_room (Nat.le_of_ble_eq_true rfl)) dX1_readTape_23 ⟨lel 0 0 rfl, lel 0 0 rfl⟩) hS (fun q _ h => hFc q h) hFc (fun u_4 t H1 locs ht hvm hwr_3 hB hz1 hk1 hS => ?_)
  obtain ⟨hP1, hK1, hD1⟩ := hB
  rw [ht] at hP1
  have hK1 := va_K.moved hvm.symm hK1
  obtain ⟨hP, hD⟩ := va_join (wr := [(sc, .inr (3, [.int 0, .int 0, .int 0, .int 0, .int 0, .ref en, .ref ki, .ref on, .ref ot]))]) (w1 := [(rd, .inr (0, [.ref tp, .ref sc, .int 0, .int (-1), .int 0, .int 0, .int 0, .int 0, .int 0])), (tp, .inr (6, [.ref tb, .int 0])), (tb, .inl (cB, 1200, .inl tf))]) hP hD [0, 1, 2] [3] rfl rfl (by decide) (by decide) hk1 hFc hP1 hD1
  have hK := (hK.sub (tys' := []) [] rfl).app hK1
  generalize H1 = H at hP hS ⊢
  have hP : va_P (dC, dI) vwCl [(sc, .inr (3, [.int 0, .int 0, .int 0, .int 0, .int 0, .ref en, .ref ki, .ref on, .ref ot])), (rd, .inr (0, [.ref tp, .ref sc, .int 0, .int (-1), .int 0, .int 0, .int 0, .int 0, .int 0])), (tp, .inr (6, [.ref tb, .int 0])), (tb, .inl (cB, 1200, .inl tf))] H := hP
  have hD : va_D A [(sc, .inr (3, [.int 0, .int 0, .int 0, .int 0, .int 0, .ref en, .ref ki, .ref on, .ref ot])), (rd, .inr (0, [.ref tp, .ref sc, .int 0, .int (-1), .int 0, .int 0, .int 0, .int 0, .int 0])), (tp, .inr (6, [.ref tb, .int 0])), (tb, .inl (cB, 1200, .inl tf))] := hD
  have hK : va_K (dC, dI) vwCl [(cB, .byte)] s := hK
  refine lv_iconst (v := 0) hx hb dX1_readTape_26 (by decide) ?_
  refine lv_istore_n (lv' := [(1, .int 0), (0, .ref rd)]) hx hb dX1_readTape_27 rfl hl (by decide) rfl (fun ls hl => ?_)
  refine lv_iload_n hx hb dX1_readTape_28 rfl (lv_at hl 0 rfl) ?_
  refine lv_sipush (v := 1200) hx hb dX1_readTape_29 (by decide) ?_
  refine lv_icmp_ge (tgt := 107) hx hb dX1_readTape_32 (by decide) (fun c_5 => absurd c_5 (by decide)) (fun _ => ?_)
  refine lv_aload_n hx hb dX1_readTape_35 rfl (lv_at hl 1 rfl) ?_
  refine va_get (D := (dC, dI)) (ci := 0) (v := .int 0) (C := RX1) (T := TX1) (N := 9) hx hb hts iX1_readTape_X1 hown hK hP 1 rfl rfl 2 (by decide) (hts (.fieldLink RX1 23 "LuckyTicket$Reader" "fault" "I") (List.mem_of_getElem? (i := 1) rfl)) (fun _ h9 => h9) rfl dX1_readTape_36 ?_
  refine lv_if_ne (tgt := 107) hx hb dX1_readTape_39 (by decide) (fun c_6 => absurd c_6 (by decide)) (fun _ => ?_)
  refine lv_aload_n hx hb dX1_readTape_42 rfl (lv_at hl 1 rfl) ?_
  refine va_get (D := (dC, dI)) (ci := 0) (v := .int 0) (C := RX1) (T := TX1) (N := 9) hx hb hts iX1_readTape_X1 hown hK hP 1 rfl rfl 4 (by decide) (hts (.fieldLink RX1 39 "LuckyTicket$Reader" "token" "I") (List.mem_of_getElem? (i := 23) rfl)) (fun _ h9 => h9) rfl dX1_readTape_43 ?_
  refine lv_if_eq (tgt := 107) hx hb dX1_readTape_46 (by decide) (fun _ => ?_) (fun c_7 => absurd c_7 (by decide))
  have hP9 := hP.sub (ws' := [(sc, .inr (3, [.int 0, .int 0, .int 0, .int 0, .int 0, .ref en, .ref ki, .ref on, .ref ot])), (rd, .inr (0, [.ref tp, .ref sc, .int 0, .int (-1), .int 0, .int 0, .int 0, .int 0, .int 0])), (tp, .inr (6, [.ref tb, .int 0])), (tb, .inl (cB, 1200, .inl tf))]) [0, 1, 2, 3] rfl
  have hD9 := hD.sub (ws' := [(sc, .inr (3, [.int 0, .int 0, .int 0, .int 0, .int 0, .ref en, .ref ki, .ref on, .ref ot])), (rd, .inr (0, [.ref tp, .ref sc, .int 0, .int (-1), .int 0, .int 0, .int 0, .int 0, .int 0])), (tp, .inr (6, [.ref tb, .int 0])), (tb, .inl (cB, 1200, .inl tf))]) [0, 1, 2, 3] (by decide) rfl
  have hK9 := hK.sub (tys' := [(cB, .byte)]) [0] rfl
  exact W.vret hx hb hr (fun t ht hW => ⟨⟨(), rfl, trivial, by rw [ht]; exact hP9, va_K.moved hW.alike hK9, hD9⟩, hS.F ht⟩) hS.2.2 dX1_readTape_107
theorem dX9_roll_0 : decode cX9_roll 0 = .ok (.aload_n 0, 1) := by decide +kernel
theorem dX9_roll_1 : decode cX9_roll 1 = .ok (.getfield 28, 3) := by decide +kernel
theorem dX9_roll_4 : decode cX9_roll 4 = .ok (.invokevirtual 84, 3) := by decide +kernel
theorem dX9_roll_7 : decode cX9_roll 7 = .ok (.aload_n 0, 1) := by decide +kernel
theorem dX9_roll_8 : decode cX9_roll 8 = .ok (.getfield 28, 3) := by decide +kernel
theorem dX9_roll_11 : decode cX9_roll 11 = .ok (.getfield 87, 3) := by decide +kernel
theorem dX9_roll_14 : decode cX9_roll 14 = .ok (.ifCond .eq 6, 3) := by decide +kernel
theorem dX9_roll_20 : decode cX9_roll 20 = .ok (.aload_n 0, 1) := by decide +kernel
theorem dX9_roll_21 : decode cX9_roll 21 = .ok (.getfield 10, 3) := by decide +kernel
theorem dX9_roll_24 : decode cX9_roll 24 = .ok (.iconst 0, 1) := by decide +kernel
theorem dX9_roll_25 : decode cX9_roll 25 = .ok (.putfield 80, 3) := by decide +kernel
theorem dX9_roll_28 : decode cX9_roll 28 = .ok (.aload_n 0, 1) := by decide +kernel
theorem dX9_roll_29 : decode cX9_roll 29 = .ok (.getfield 35, 3) := by decide +kernel
theorem dX9_roll_32 : decode cX9_roll 32 = .ok (.aload_n 0, 1) := by decide +kernel
theorem dX9_roll_33 : decode cX9_roll 33 = .ok (.getfield 19, 3) := by decide +kernel
theorem dX9_roll_36 : decode cX9_roll 36 = .ok (.invokevirtual 90, 3) := by decide +kernel
theorem dX9_roll_39 : decode cX9_roll 39 = .ok (.aload_n 0, 1) := by decide +kernel
theorem dX9_roll_40 : decode cX9_roll 40 = .ok (.getfield 35, 3) := by decide +kernel
theorem dX9_roll_43 : decode cX9_roll 43 = .ok (.getfield 94, 3) := by decide +kernel
theorem dX9_roll_46 : decode cX9_roll 46 = .ok (.ireturn, 1) := by decide +kernel
def uX9_roll : List Cond := .code yX9_roll cX9_roll 1 (some .int) :: ([.fieldLink RX9 28 "LuckyTicket" "reader" "LLuckyTicket$Reader;", .methodLink RX9 84 yX1_readTape, .instanceMethod yX1_readTape, .selects RX1 yX1_readTape yX1_readTape, .initialized RX1, .code yX1_readTape cX1_readTape 2 none, .fieldLink RX1 23 "LuckyTicket$Reader" "fault" "I", .fieldLink RX1 9 "LuckyTicket$Reader" "faultPlace" "I", .fieldLink RX1 26 "LuckyTicket$Reader" "stop" "I", .fieldLink RX1 19 "LuckyTicket$Reader" "script" "LLuckyTicket$Script;", .methodLink RX1 29 yX4_clear, .instanceMethod yX4_clear, .selects RX4 yX4_clear yX4_clear, .initialized RX4, .code yX4_clear cX4_clear 1 none, .fieldLink RX4 27 "LuckyTicket$Script" "length" "I", .fieldLink RX4 31 "LuckyTicket$Script" "base" "I", .fieldLink RX4 34 "LuckyTicket$Script" "lines" "I", .fieldLink RX4 37 "LuckyTicket$Script" "laws" "I", .fieldLink RX4 40 "LuckyTicket$Script" "size" "I", .methodLink RX1 34 yX1_advance, .instanceMethod yX1_advance, .selects RX1 yX1_advance yX1_advance, .code yX1_advance cX1_advance 3 none, .fieldLink RX1 15 "LuckyTicket$Reader" "tape" "LLuckyTicket$Tape;", .fieldLink RX1 178 "LuckyTicket$Reader" "start" "I", .fieldLink RX1 172 "LuckyTicket$Reader" "value" "I", .fieldLink RX1 39 "LuckyTicket$Reader" "token" "I", .fieldLink RX9 10 "LuckyTicket" "tape" "LLuckyTicket$Tape;", .fieldLink RX9 35 "LuckyTicket" "current" "LLuckyTicket$Roll;", .fieldLink RX9 19 "LuckyTicket" "script" "LLuckyTicket$Script;", .methodLink RX9 90 yX2_buildFrom, .instanceMethod yX2_buildFrom, .selects RX2 yX2_buildFrom yX2_buildFrom, .initialized RX2, .code yX2_buildFrom cX2_buildFrom 3 none, .fieldLink RX2 25 "LuckyTicket$Roll" "length" "I", .fieldLink RX2 29 "LuckyTicket$Roll" "base" "I", .fieldLink RX2 33 "LuckyTicket$Roll" "laws" "I", .fieldLink RX2 37 "LuckyTicket$Roll" "lines" "I", .fieldLink RX2 42 "LuckyTicket$Roll" "tickets" "I", .methodLink RX2 45 yX2_makeRoom, .instanceMethod yX2_makeRoom, .selects RX2 yX2_makeRoom yX2_makeRoom, .code yX2_makeRoom cX2_makeRoom 2 none, .fieldLink RX2 9 "LuckyTicket$Roll" "faces" "[J"] ++ wsX90 ++ wsX10 ++ wsX40 ++ wsX70 ++ wsX20)
theorem iX9_roll_X9 : ∀ w ∈ wsX90, w ∈ uX9_roll := fun _ h => List.mem_cons_of_mem _ (List.mem_append_left _ (List.mem_append_left _ (List.mem_append_left _ (List.mem_append_left _ (List.mem_append_right _ h)))))
theorem iX9_roll_X1 : ∀ w ∈ wsX10, w ∈ uX9_roll := fun _ h => List.mem_cons_of_mem _ (List.mem_append_left _ (List.mem_append_left _ (List.mem_append_left _ (List.mem_append_right _ h))))
theorem iX9_roll_X4 : ∀ w ∈ wsX40, w ∈ uX9_roll := fun _ h => List.mem_cons_of_mem _ (List.mem_append_left _ (List.mem_append_left _ (List.mem_append_right _ h)))
theorem iX9_roll_X7 : ∀ w ∈ wsX70, w ∈ uX9_roll := fun _ h => List.mem_cons_of_mem _ (List.mem_append_left _ (List.mem_append_right _ h))
theorem iX9_roll_X2 : ∀ w ∈ wsX20, w ∈ uX9_roll := fun _ h => List.mem_cons_of_mem _ (List.mem_append_right _ h)
set_option maxRecDepth 20000 in
theorem gX9_roll__X1_readTape_V84 : GoodIn uX9_roll (wsV RX9 84 RX1 yX1_readTape uX1_readTape) := goodIn_p _ [6, 15, 24] rfl (by decide +kernel)
set_option maxRecDepth 20000 in
theorem gX9_roll__X2_buildFrom_V90 : GoodIn uX9_roll (wsV RX9 90 RX2 yX2_buildFrom uX2_buildFrom) := goodIn_p _ [36, 45] rfl (by decide +kernel)
set_option maxHeartbeats 4000000 in
set_option maxRecDepth 100000 in
theorem kX9_roll (l : Launch) (dC : Nat → ClassId) (dI : Nat → Nat → Nat) (h0 : Nat) (tp : Nat) (sc : Nat) (rd : Nat) (cu : Nat) (im : Nat) (ig : Nat) (sl : Nat) (se : Nat) (su : Nat) (fc : Nat) (fa : Nat) (lu : Nat) (en : Nat) (ki : Nat) (on : Nat) (ot : Nat) (tb : Nat) (cB : ClassId) (tf : Nat → Int32) (cJ : ClassId) (ff : Nat → Int64) (sz : Nat) : Met l yX9_roll uX9_roll ({ frames := 2, cells := 0, slots := 0, locals := 43 }) (va_Pc [.ref h0] (hw (dC, dI) vwCl [(h0, .inr (7, [.ref tp, .ref sc, .ref rd, .ref cu, .ref im, .ref ig, .ref sl, .ref se, .ref su, .ref fc])), (rd, .inr (0, [.ref tp, .ref sc, .int 0, .int (-1), .int 0, .int 0, .int 0, .int 0, .int 0])), (sc, .inr (3, [.int 0, .int 0, .int 0, .int 0, .int 0, .ref en, .ref ki, .ref on, .ref ot])), (tp, .inr (6, [.ref tb, .int 0])), (tb, .inl (cB, 1200, .inl tf)), (cu, .inr (1, [.int 0, .int 0, .int 0, .int 0, .int 0, .ref fa, .ref lu])), (fa, .inl (cJ, 0, .inr (.inl ff)))] [(cB, .byte), (cJ, .long)] sz)) (va_Qi (fun (r : Int32) (_ : Unit) => r = 0) (fun (_ : Unit) t => va_P (dC, dI) vwCl [] t.heap ∧ va_K (dC, dI) vwCl [] t ∧ va_D (va_A [(h0, .inr (7, [.ref tp, .ref sc, .ref rd, .ref cu, .ref im, .ref ig, .ref sl, .ref se, .ref su, .ref fc])), (rd, .inr (0, [.ref tp, .ref sc, .int 0, .int (-1), .int 0, .int 0, .int 0, .int 0, .int 0])), (sc, .inr (3, [.int 0, .int 0, .int 0, .int 0, .int 0, .ref en, .ref ki, .ref on, .ref ot])), (tp, .inr (6, [.ref tb, .int 0])), (tb, .inl (cB, 1200, .inl tf)), (cu, .inr (1, [.int 0, .int 0, .int 0, .int 0, .int 0, .ref fa, .ref lu])), (fa, .inl (cJ, 0, .inr (.inl ff)))] sz) []) (va_A [(h0, .inr (7, [.ref tp, .ref sc, .ref rd, .ref cu, .ref im, .ref ig, .ref sl, .ref se, .ref su, .ref fc])), (rd, .inr (0, [.ref tp, .ref sc, .int 0, .int (-1), .int 0, .int 0, .int 0, .int 0, .int 0])), (sc, .inr (3, [.int 0, .int 0, .int 0, .int 0, .int 0, .ref en, .ref ki, .ref on, .ref ot])), (tp, .inr (6, [.ref tb, .int 0])), (tb, .inl (cB, 1200, .inl tf)), (cu, .inr (1, [.int 0, .int 0, .int 0, .int 0, .int 0, .ref fa, .ref lu])), (fa, .inl (cJ, 0, .inr (.inl ff)))] sz)) 0 0 (va_A [(h0, .inr (7, [.ref tp, .ref sc, .ref rd, .ref cu, .ref im, .ref ig, .ref sl, .ref se, .ref su, .ref fc])), (rd, .inr (0, [.ref tp, .ref sc, .int 0, .int (-1), .int 0, .int 0, .int 0, .int 0, .int 0])), (sc, .inr (3, [.int 0, .int 0, .int 0, .int 0, .int 0, .ref en, .ref ki, .ref on, .ref ot])), (tp, .inr (6, [.ref tb, .int 0])), (tb, .inl (cB, 1200, .inl tf)), (cu, .inr (1, [.int 0, .int 0, .int 0, .int 0, .int 0, .ref fa, .ref lu])), (fa, .inl (cJ, 0, .inr (.inl ff)))] sz) := by
  refine Met.ofW (cc := cX9_roll) (maxL := 1) (ret := (some .int)) (by decide) rfl ?_
  intro p e s m args below meth c s₁ B hml hv
  obtain ⟨rfl, hsz, hP, hK, hD0, hN⟩ := hv
  have hx := B.exec
  have hb := B.bytes
  have hr := B.returns
  have hts := atoms_spec (ws := uX9_roll) B.pre
  have hown : s.vm.findClass RX9 = some m.cls := findClass_of_methodNamed B.named
  have hlocks := B.notSynchronized
  subst hsz
  have hD := hD0.self (sz := s.heap.size)
  generalize hAe : va_A [(h0, .inr (7, [.ref tp, .ref sc, .ref rd, .ref cu, .ref im, .ref ig, .ref sl, .ref se, .ref su, .ref fc])), (rd, .inr (0, [.ref tp, .ref sc, .int 0, .int (-1), .int 0, .int 0, .int 0, .int 0, .int 0])), (sc, .inr (3, [.int 0, .int 0, .int 0, .int 0, .int 0, .ref en, .ref ki, .ref on, .ref ot])), (tp, .inr (6, [.ref tb, .int 0])), (tb, .inl (cB, 1200, .inl tf)), (cu, .inr (1, [.int 0, .int 0, .int 0, .int 0, .int 0, .ref fa, .ref lu])), (fa, .inl (cJ, 0, .inr (.inl ff)))] s.heap.size = A at hD ⊢
  have hA : ∀ q : Nat, s.heap.size ≤ q → A q := fun q h => by rw [← hAe]; exact Or.inr h
  have hS : va_S A s.heap s.heap [] := va_S.rf
  have hP : va_P (dC, dI) vwCl [(h0, .inr (7, [.ref tp, .ref sc, .ref rd, .ref cu, .ref im, .ref ig, .ref sl, .ref se, .ref su, .ref fc])), (rd, .inr (0, [.ref tp, .ref sc, .int 0, .int (-1), .int 0, .int 0, .int 0, .int 0, .int 0])), (sc, .inr (3, [.int 0, .int 0, .int 0, .int 0, .int 0, .ref en, .ref ki, .ref on, .ref ot])), (tp, .inr (6, [.ref tb, .int 0])), (tb, .inl (cB, 1200, .inl tf)), (cu, .inr (1, [.int 0, .int 0, .int 0, .int 0, .int 0, .ref fa, .ref lu])), (fa, .inl (cJ, 0, .inr (.inl ff)))] s.heap := hP
  have hl := lv_entry ([.ref h0]) (n := 1) (Nat.le_of_ble_eq_true rfl)
  rw [lg_entry_eq]
  generalize (lg_sl ([.ref h0]) ++ List.replicate (1 - (lg_sl ([.ref h0])).length) Slot.unset).toArray = ls at hl ⊢
  have hl : lv_has ls 1 [(0, .ref h0)] := hl
  refine lv_aload_n hx hb dX9_roll_0 rfl (lv_at hl 0 rfl) ?_
  refine va_get (D := (dC, dI)) (ci := 7) (v := .ref rd) (C := RX9) (T := TX9) (N := 10) hx hb hts iX9_roll_X9 hown hK hP 0 rfl rfl 2 (by decide) (hts (.fieldLink RX9 28 "LuckyTicket" "reader" "LLuckyTicket$Reader;") (List.mem_of_getElem? (i := 1) rfl)) (fun _ h9 => h9) rfl dX9_roll_1 ?_
  have hFc := va_free (wc := [(rd, .inr (0, [.ref tp, .ref sc, .int 0, .int (-1), .int 0, .int 0, .int 0, .int 0, .int 0])), (sc, .inr (3, [.int 0, .int 0, .int 0, .int 0, .int 0, .ref en, .ref ki, .ref on, .ref ot])), (tp, .inr (6, [.ref tb, .int 0])), (tb, .inl (cB, 1200, .inl tf))]) hD hS hA [1, 2, 3, 4] rfl
  refine va_callv (va_runV (As := []) (rest := []) ⟨hx, hb, hml, hown, hts⟩ (kX1_readTape l dC dI rd tp sc en ki on ot tb cB tf (s.heap.size)) (cwV 0 hts gX9_roll__X1_readTape_V84 rfl rfl rfl (by decide +kernel) ⟨lel 2 2 rfl, lel 43 43 rfl⟩) ⟨hw_fb, va_recv hK hP (ci := 0) (q0 := 1) rfl rfl, (hw_use hP hD hK hN [1, 2, 3, 4] rfl (by decide) rfl [0] rfl)⟩ rfl rfl hl.1 rfl (lv_room (Nat.le_of_ble_eq_true rfl)) dX9_roll_4 ⟨lel 0 0 rfl, lel 0 0 rfl⟩) hS (fun q _ h => hFc q h) hFc (fun u_2 t H1 locs ht hvm hwr_1 hB hz1 hk1 hS => ?_)
  obtain ⟨hP1, hK1, hD1⟩ := hB
  rw [ht] at hP1
  have hK1 := va_K.moved hvm.symm hK1
  obtain ⟨hP, hD⟩ := va_join (wr := [(h0, .inr (7, [.ref tp, .ref sc, .ref rd, .ref cu, .ref im, .ref ig, .ref sl, .ref se, .ref su, .ref fc])), (cu, .inr (1, [.int 0, .int 0, .int 0, .int 0, .int 0, .ref fa, .ref lu])), (fa, .inl (cJ, 0, .inr (.inl ff)))]) (w1 := [(sc, .inr (3, [.int 0, .int 0, .int 0, .int 0, .int 0, .ref en, .ref ki, .ref on, .ref ot])), (rd, .inr (0, [.ref tp, .ref sc, .int 0, .int (-1), .int 0, .int 0, .int 0, .int 0, .int 0])), (tp, .inr (6, [.ref tb, .int 0])), (tb, .inl (cB, 1200, .inl tf))]) hP hD [1, 2, 3, 4] [0, 5, 6] rfl rfl (by decide) (by decide) hk1 hFc hP1 hD1
  have hK := (hK.sub (tys' := [(cJ, .long)]) [1] rfl).app hK1
  generalize H1 = H at hP hS ⊢
  have hP : va_P (dC, dI) vwCl [(h0, .inr (7, [.ref tp, .ref sc, .ref rd, .ref cu, .ref im, .ref ig, .ref sl, .ref se, .ref su, .ref fc])), (cu, .inr (1, [.int 0, .int 0, .int 0, .int 0, .int 0, .ref fa, .ref lu])), (fa, .inl (cJ, 0, .inr (.inl ff))), (sc, .inr (3, [.int 0, .int 0, .int 0, .int 0, .int 0, .ref en, .ref ki, .ref on, .ref ot])), (rd, .inr (0, [.ref tp, .ref sc, .int 0, .int (-1), .int 0, .int 0, .int 0, .int 0, .int 0])), (tp, .inr (6, [.ref tb, .int 0])), (tb, .inl (cB, 1200, .inl tf))] H := hP
  have hD : va_D A [(h0, .inr (7, [.ref tp, .ref sc, .ref rd, .ref cu, .ref im, .ref ig, .ref sl, .ref se, .ref su, .ref fc])), (cu, .inr (1, [.int 0, .int 0, .int 0, .int 0, .int 0, .ref fa, .ref lu])), (fa, .inl (cJ, 0, .inr (.inl ff))), (sc, .inr (3, [.int 0, .int 0, .int 0, .int 0, .int 0, .ref en, .ref ki, .ref on, .ref ot])), (rd, .inr (0, [.ref tp, .ref sc, .int 0, .int (-1), .int 0, .int 0, .int 0, .int 0, .int 0])), (tp, .inr (6, [.ref tb, .int 0])), (tb, .inl (cB, 1200, .inl tf))] := hD
  have hK : va_K (dC, dI) vwCl [(cJ, .long), (cB, .byte)] s := hK
  refine lv_aload_n hx hb dX9_roll_7 rfl (lv_at hl 0 rfl) ?_
  refine va_get (D := (dC, dI)) (ci := 7) (v := .ref rd) (C := RX9) (T := TX9) (N := 10) hx hb hts iX9_roll_X9 hown hK hP 0 rfl rfl 2 (by decide) (hts (.fieldLink RX9 28 "LuckyTicket" "reader" "LLuckyTicket$Reader;") (List.mem_of_getElem? (i := 1) rfl)) (fun _ h9 => h9) rfl dX9_roll_8 ?_
  refine va_getN (own := RX9) (index := 87) (ref := RX1) (host := RX9) (D := (dC, dI)) (ci := 0) (v := .int 0) (C := RX1) (T := TX1) (N := 9) hx hb hts iX9_roll_X1 hown hK hP 4 rfl rfl 2 (by decide) (va_Nw.use rfl (hN _ (List.mem_of_getElem? (i := 11) rfl))) (fun _ h9 => h9) rfl dX9_roll_11 ?_
  refine lv_if_eq (tgt := 20) hx hb dX9_roll_14 (by decide) (fun _ => ?_) (fun c_3 => absurd c_3 (by decide))
  refine lv_aload_n hx hb dX9_roll_20 rfl (lv_at hl 0 rfl) ?_
  refine va_get (D := (dC, dI)) (ci := 7) (v := .ref tp) (C := RX9) (T := TX9) (N := 10) hx hb hts iX9_roll_X9 hown hK hP 0 rfl rfl 0 (by decide) (hts (.fieldLink RX9 10 "LuckyTicket" "tape" "LLuckyTicket$Tape;") (List.mem_of_getElem? (i := 29) rfl)) (fun _ h9 => h9) rfl dX9_roll_21 ?_
  refine lv_iconst (v := 0) hx hb dX9_roll_24 (by decide) ?_
  refine va_putN (own := RX9) (index := 80) (ref := RX7) (host := RX9) (D := (dC, dI)) (ci := 6) (v := .int 0) (ty := .int) (C := RX7) (T := TX7) (N := 2) hx hb hts iX9_roll_X7 tyX7 tyX7_ok nmX7 hown hK hP hD hS 5 rfl rfl 1 (by decide) (va_Nw.use rfl (hN _ (List.mem_of_getElem? (i := 1) rfl))) (fun _ h9 => h9) rfl (by decide +kernel) rfl rfl (Nat.le_of_ble_eq_true rfl) dX9_roll_25 (fun H locs hP hD hS => ?_)
  have hP : va_P (dC, dI) vwCl [(h0, .inr (7, [.ref tp, .ref sc, .ref rd, .ref cu, .ref im, .ref ig, .ref sl, .ref se, .ref su, .ref fc])), (cu, .inr (1, [.int 0, .int 0, .int 0, .int 0, .int 0, .ref fa, .ref lu])), (fa, .inl (cJ, 0, .inr (.inl ff))), (sc, .inr (3, [.int 0, .int 0, .int 0, .int 0, .int 0, .ref en, .ref ki, .ref on, .ref ot])), (rd, .inr (0, [.ref tp, .ref sc, .int 0, .int (-1), .int 0, .int 0, .int 0, .int 0, .int 0])), (tp, .inr (6, [.ref tb, .int 0])), (tb, .inl (cB, 1200, .inl tf))] H := hP
  have hD : va_D A [(h0, .inr (7, [.ref tp, .ref sc, .ref rd, .ref cu, .ref im, .ref ig, .ref sl, .ref se, .ref su, .ref fc])), (cu, .inr (1, [.int 0, .int 0, .int 0, .int 0, .int 0, .ref fa, .ref lu])), (fa, .inl (cJ, 0, .inr (.inl ff))), (sc, .inr (3, [.int 0, .int 0, .int 0, .int 0, .int 0, .ref en, .ref ki, .ref on, .ref ot])), (rd, .inr (0, [.ref tp, .ref sc, .int 0, .int (-1), .int 0, .int 0, .int 0, .int 0, .int 0])), (tp, .inr (6, [.ref tb, .int 0])), (tb, .inl (cB, 1200, .inl tf))] := hD
  refine lv_aload_n hx hb dX9_roll_28 rfl (lv_at hl 0 rfl) ?_
  refine va_get (D := (dC, dI)) (ci := 7) (v := .ref cu) (C := RX9) (T := TX9) (N := 10) hx hb hts iX9_roll_X9 hown hK hP 0 rfl rfl 3 (by decide) (hts (.fieldLink RX9 35 "LuckyTicket" "current" "LLuckyTicket$Roll;") (List.mem_of_getElem? (i := 30) rfl)) (fun _ h9 => h9) rfl dX9_roll_29 ?_
  refine lv_aload_n hx hb dX9_roll_32 rfl (lv_at hl 0 rfl) ?_
  refine va_get (D := (dC, dI)) (ci := 7) (v := .ref sc) (C := RX9) (T := TX9) (N := 10) hx hb hts iX9_roll_X9 hown hK hP 0 rfl rfl 1 (by decide) (hts (.fieldLink RX9 19 "LuckyTicket" "script" "LLuckyTicket$Script;") (List.mem_of_getElem? (i := 31) rfl)) (fun _ h9 => h9) rfl dX9_roll_33 ?_
  have hFc := va_free (wc := [(cu, .inr (1, [.int 0, .int 0, .int 0, .int 0, .int 0, .ref fa, .ref lu])), (sc, .inr (3, [.int 0, .int 0, .int 0, .int 0, .int 0, .ref en, .ref ki, .ref on, .ref ot])), (fa, .inl (cJ, 0, .inr (.inl ff)))]) hD hS hA [1, 3, 2] rfl
  refine va_callv (va_runV (As := [.ref sc]) (rest := []) ⟨hx, hb, hml, hown, hts⟩ (kX2_buildFrom l dC dI cu fa lu sc en ki on ot cJ ff (H.size)) (cwV 1 hts gX9_roll__X2_buildFrom_V90 rfl rfl rfl (by decide +kernel) ⟨lel 2 2 rfl, lel 43 43 rfl⟩) ⟨hw_fb, va_recv hK hP (ci := 1) (q0 := 1) rfl rfl, (hw_use hP hD hK hN [1, 3, 2] rfl (by decide) rfl [0] rfl)⟩ rfl rfl hl.1 rfl (lv_room (Nat.le_of_ble_eq_true rfl)) dX9_roll_36 ⟨lel 0 0 rfl, lel 0 0 rfl⟩) hS (fun q _ h => hFc q h) hFc (fun u_5 t H1 locs ht hvm hwr_4 hB hz1 hk1 hS => ?_)
  obtain ⟨hP1, hK1, hD1⟩ := hB
  rw [ht] at hP1
  have hK1 := va_K.moved hvm.symm hK1
  obtain ⟨hP, hD⟩ := va_join (wr := [(h0, .inr (7, [.ref tp, .ref sc, .ref rd, .ref cu, .ref im, .ref ig, .ref sl, .ref se, .ref su, .ref fc])), (rd, .inr (0, [.ref tp, .ref sc, .int 0, .int (-1), .int 0, .int 0, .int 0, .int 0, .int 0])), (tp, .inr (6, [.ref tb, .int 0])), (tb, .inl (cB, 1200, .inl tf))]) (w1 := [(cu, .inr (1, [.int 0, .int 0, .int 0, .int 0, .int 0, .ref fa, .ref lu]))]) hP hD [1, 3, 2] [0, 4, 5, 6] rfl rfl (by decide) (by decide) hk1 hFc hP1 hD1
  have hK := (hK.sub (tys' := [(cB, .byte)]) [1] rfl).app hK1
  generalize H1 = H at hP hS ⊢
  have hP : va_P (dC, dI) vwCl [(h0, .inr (7, [.ref tp, .ref sc, .ref rd, .ref cu, .ref im, .ref ig, .ref sl, .ref se, .ref su, .ref fc])), (rd, .inr (0, [.ref tp, .ref sc, .int 0, .int (-1), .int 0, .int 0, .int 0, .int 0, .int 0])), (tp, .inr (6, [.ref tb, .int 0])), (tb, .inl (cB, 1200, .inl tf)), (cu, .inr (1, [.int 0, .int 0, .int 0, .int 0, .int 0, .ref fa, .ref lu]))] H := hP
  have hD : va_D A [(h0, .inr (7, [.ref tp, .ref sc, .ref rd, .ref cu, .ref im, .ref ig, .ref sl, .ref se, .ref su, .ref fc])), (rd, .inr (0, [.ref tp, .ref sc, .int 0, .int (-1), .int 0, .int 0, .int 0, .int 0, .int 0])), (tp, .inr (6, [.ref tb, .int 0])), (tb, .inl (cB, 1200, .inl tf)), (cu, .inr (1, [.int 0, .int 0, .int 0, .int 0, .int 0, .ref fa, .ref lu]))] := hD
  have hK : va_K (dC, dI) vwCl [(cB, .byte)] s := hK
  refine lv_aload_n hx hb dX9_roll_39 rfl (lv_at hl 0 rfl) ?_
  refine va_get (D := (dC, dI)) (ci := 7) (v := .ref cu) (C := RX9) (T := TX9) (N := 10) hx hb hts iX9_roll_X9 hown hK hP 0 rfl rfl 3 (by decide) (hts (.fieldLink RX9 35 "LuckyTicket" "current" "LLuckyTicket$Roll;") (List.mem_of_getElem? (i := 30) rfl)) (fun _ h9 => h9) rfl dX9_roll_40 ?_
  refine va_getN (own := RX9) (index := 94) (ref := RX2) (host := RX9) (D := (dC, dI)) (ci := 1) (v := .int 0) (C := RX2) (T := TX2) (N := 7) hx hb hts iX9_roll_X2 hown hK hP 4 rfl rfl 4 (by decide) (va_Nw.use rfl (hN _ (List.mem_of_getElem? (i := 20) rfl))) (fun _ h9 => h9) rfl dX9_roll_43 ?_
  have hP9 := hP.sub (ws' := []) [] rfl
  have hD9 := hD.sub (ws' := []) [] (by decide) rfl
  have hK9 := hK.sub (tys' := []) [] rfl
  exact W.iret (v := 0) hx hb hr (fun t ht hW => ⟨⟨0, (), rfl, rfl, by rw [ht]; exact hP9, va_K.moved hW.alike hK9, hD9⟩, hS.F ht⟩) hS.2.2 dX9_roll_46
theorem dX2_copyFrom_0 : decode cX2_copyFrom 0 = .ok (.aload_n 0, 1) := by decide +kernel
theorem dX2_copyFrom_1 : decode cX2_copyFrom 1 = .ok (.aload_n 1, 1) := by decide +kernel
theorem dX2_copyFrom_2 : decode cX2_copyFrom 2 = .ok (.getfield 25, 3) := by decide +kernel
theorem dX2_copyFrom_5 : decode cX2_copyFrom 5 = .ok (.putfield 25, 3) := by decide +kernel
theorem dX2_copyFrom_8 : decode cX2_copyFrom 8 = .ok (.aload_n 0, 1) := by decide +kernel
theorem dX2_copyFrom_9 : decode cX2_copyFrom 9 = .ok (.aload_n 1, 1) := by decide +kernel
theorem dX2_copyFrom_10 : decode cX2_copyFrom 10 = .ok (.getfield 29, 3) := by decide +kernel
theorem dX2_copyFrom_13 : decode cX2_copyFrom 13 = .ok (.putfield 29, 3) := by decide +kernel
theorem dX2_copyFrom_16 : decode cX2_copyFrom 16 = .ok (.aload_n 0, 1) := by decide +kernel
theorem dX2_copyFrom_17 : decode cX2_copyFrom 17 = .ok (.aload_n 1, 1) := by decide +kernel
theorem dX2_copyFrom_18 : decode cX2_copyFrom 18 = .ok (.getfield 42, 3) := by decide +kernel
theorem dX2_copyFrom_21 : decode cX2_copyFrom 21 = .ok (.putfield 42, 3) := by decide +kernel
theorem dX2_copyFrom_24 : decode cX2_copyFrom 24 = .ok (.aload_n 0, 1) := by decide +kernel
theorem dX2_copyFrom_25 : decode cX2_copyFrom 25 = .ok (.aload_n 1, 1) := by decide +kernel
theorem dX2_copyFrom_26 : decode cX2_copyFrom 26 = .ok (.getfield 33, 3) := by decide +kernel
theorem dX2_copyFrom_29 : decode cX2_copyFrom 29 = .ok (.putfield 33, 3) := by decide +kernel
theorem dX2_copyFrom_32 : decode cX2_copyFrom 32 = .ok (.aload_n 0, 1) := by decide +kernel
theorem dX2_copyFrom_33 : decode cX2_copyFrom 33 = .ok (.aload_n 1, 1) := by decide +kernel
theorem dX2_copyFrom_34 : decode cX2_copyFrom 34 = .ok (.getfield 37, 3) := by decide +kernel
theorem dX2_copyFrom_37 : decode cX2_copyFrom 37 = .ok (.putfield 37, 3) := by decide +kernel
theorem dX2_copyFrom_40 : decode cX2_copyFrom 40 = .ok (.aload_n 0, 1) := by decide +kernel
theorem dX2_copyFrom_41 : decode cX2_copyFrom 41 = .ok (.aload_n 0, 1) := by decide +kernel
theorem dX2_copyFrom_42 : decode cX2_copyFrom 42 = .ok (.getfield 42, 3) := by decide +kernel
theorem dX2_copyFrom_45 : decode cX2_copyFrom 45 = .ok (.invokevirtual 45, 3) := by decide +kernel
theorem dX2_copyFrom_48 : decode cX2_copyFrom 48 = .ok (.aload_n 1, 1) := by decide +kernel
theorem dX2_copyFrom_49 : decode cX2_copyFrom 49 = .ok (.getfield 9, 3) := by decide +kernel
theorem dX2_copyFrom_52 : decode cX2_copyFrom 52 = .ok (.iconst 0, 1) := by decide +kernel
theorem dX2_copyFrom_53 : decode cX2_copyFrom 53 = .ok (.aload_n 0, 1) := by decide +kernel
theorem dX2_copyFrom_54 : decode cX2_copyFrom 54 = .ok (.getfield 9, 3) := by decide +kernel
theorem dX2_copyFrom_57 : decode cX2_copyFrom 57 = .ok (.iconst 0, 1) := by decide +kernel
theorem dX2_copyFrom_58 : decode cX2_copyFrom 58 = .ok (.aload_n 0, 1) := by decide +kernel
theorem dX2_copyFrom_59 : decode cX2_copyFrom 59 = .ok (.getfield 42, 3) := by decide +kernel
theorem dX2_copyFrom_62 : decode cX2_copyFrom 62 = .ok (.invokestatic 53, 3) := by decide +kernel
theorem dX2_copyFrom_65 : decode cX2_copyFrom 65 = .ok (.aload_n 1, 1) := by decide +kernel
theorem dX2_copyFrom_66 : decode cX2_copyFrom 66 = .ok (.getfield 15, 3) := by decide +kernel
theorem dX2_copyFrom_69 : decode cX2_copyFrom 69 = .ok (.iconst 0, 1) := by decide +kernel
theorem dX2_copyFrom_70 : decode cX2_copyFrom 70 = .ok (.aload_n 0, 1) := by decide +kernel
theorem dX2_copyFrom_71 : decode cX2_copyFrom 71 = .ok (.getfield 15, 3) := by decide +kernel
theorem dX2_copyFrom_74 : decode cX2_copyFrom 74 = .ok (.iconst 0, 1) := by decide +kernel
theorem dX2_copyFrom_75 : decode cX2_copyFrom 75 = .ok (.aload_n 0, 1) := by decide +kernel
theorem dX2_copyFrom_76 : decode cX2_copyFrom 76 = .ok (.getfield 42, 3) := by decide +kernel
theorem dX2_copyFrom_79 : decode cX2_copyFrom 79 = .ok (.invokestatic 53, 3) := by decide +kernel
theorem dX2_copyFrom_82 : decode cX2_copyFrom 82 = .ok (.return_, 1) := by decide +kernel
def uX2_copyFrom : List Cond := .code yX2_copyFrom cX2_copyFrom 2 none :: ([.fieldLink RX2 25 "LuckyTicket$Roll" "length" "I", .fieldLink RX2 29 "LuckyTicket$Roll" "base" "I", .fieldLink RX2 42 "LuckyTicket$Roll" "tickets" "I", .fieldLink RX2 33 "LuckyTicket$Roll" "laws" "I", .fieldLink RX2 37 "LuckyTicket$Roll" "lines" "I", .methodLink RX2 45 yX2_makeRoom, .instanceMethod yX2_makeRoom, .selects RX2 yX2_makeRoom yX2_makeRoom, .initialized RX2, .code yX2_makeRoom cX2_makeRoom 2 none, .fieldLink RX2 9 "LuckyTicket$Roll" "faces" "[J", .methodLink RX2 53 arraycopyName, .native arraycopyName, .static arraycopyName, .initialized RJ10, .fieldLink RX2 15 "LuckyTicket$Roll" "luck" "[I"] ++ wsX20)
theorem iX2_copyFrom_X2 : ∀ w ∈ wsX20, w ∈ uX2_copyFrom := fun _ h => List.mem_cons_of_mem _ (List.mem_append_right _ h)
set_option maxRecDepth 20000 in
theorem gX2_copyFrom__X2_makeRoom_V45 : GoodIn uX2_copyFrom (wsV RX2 45 RX2 yX2_makeRoom uX2_makeRoom) := goodIn_p _ [10] rfl (by decide +kernel)
set_option maxHeartbeats 4000000 in
set_option maxRecDepth 100000 in
theorem kX2_copyFrom (l : Launch) (dC : Nat → ClassId) (dI : Nat → Nat → Nat) (cu : Nat) (fa : Nat) (lu : Nat) (cu2 : Nat) (fa2 : Nat) (lu2 : Nat) (cJ : ClassId) (cL : ClassId) (cJ2 : ClassId) (cL2 : ClassId) (ff : Nat → Int64) (ff2 : Nat → Int64) (lf : Nat → Int32) (lf2 : Nat → Int32) (sz : Nat) : Met l yX2_copyFrom uX2_copyFrom ({ frames := 1, cells := 0, slots := 0, locals := 64 }) (va_Pc [.ref cu, .ref cu2] (hw (dC, dI) vwCl [(cu, .inr (1, [.int 0, .int 0, .int 0, .int 0, .int 0, .ref fa, .ref lu])), (fa, .inl (cJ, 0, .inr (.inl ff))), (lu, .inl (cL, 0, .inl lf)), (cu2, .inr (1, [.int 0, .int 0, .int 0, .int 0, .int 0, .ref fa2, .ref lu2])), (fa2, .inl (cJ2, 0, .inr (.inl ff2))), (lu2, .inl (cL2, 0, .inl lf2))] [(cJ, .long), (cL, .int), (cJ2, .long), (cL2, .int)] sz)) (va_Qv (fun (_ : Unit) => True) (fun (_ : Unit) t => va_P (dC, dI) vwCl [] t.heap ∧ va_K (dC, dI) vwCl [] t ∧ va_D (va_A [(cu, .inr (1, [.int 0, .int 0, .int 0, .int 0, .int 0, .ref fa, .ref lu])), (fa, .inl (cJ, 0, .inr (.inl ff))), (lu, .inl (cL, 0, .inl lf)), (cu2, .inr (1, [.int 0, .int 0, .int 0, .int 0, .int 0, .ref fa2, .ref lu2])), (fa2, .inl (cJ2, 0, .inr (.inl ff2))), (lu2, .inl (cL2, 0, .inl lf2))] sz) []) (va_A [(cu, .inr (1, [.int 0, .int 0, .int 0, .int 0, .int 0, .ref fa, .ref lu])), (fa, .inl (cJ, 0, .inr (.inl ff))), (lu, .inl (cL, 0, .inl lf)), (cu2, .inr (1, [.int 0, .int 0, .int 0, .int 0, .int 0, .ref fa2, .ref lu2])), (fa2, .inl (cJ2, 0, .inr (.inl ff2))), (lu2, .inl (cL2, 0, .inl lf2))] sz)) 0 0 (va_A [(cu, .inr (1, [.int 0, .int 0, .int 0, .int 0, .int 0, .ref fa, .ref lu])), (fa, .inl (cJ, 0, .inr (.inl ff))), (lu, .inl (cL, 0, .inl lf)), (cu2, .inr (1, [.int 0, .int 0, .int 0, .int 0, .int 0, .ref fa2, .ref lu2])), (fa2, .inl (cJ2, 0, .inr (.inl ff2))), (lu2, .inl (cL2, 0, .inl lf2))] sz) := by
  refine Met.ofW (cc := cX2_copyFrom) (maxL := 2) (ret := none) (by decide) rfl ?_
  intro p e s m args below meth c s₁ B hml hv
  obtain ⟨rfl, hsz, hP, hK, hD0, hN⟩ := hv
  have hx := B.exec
  have hb := B.bytes
  have hr := B.returns
  have hts := atoms_spec (ws := uX2_copyFrom) B.pre
  have hown : s.vm.findClass RX2 = some m.cls := findClass_of_methodNamed B.named
  have hlocks := B.notSynchronized
  subst hsz
  have hD := hD0.self (sz := s.heap.size)
  generalize hAe : va_A [(cu, .inr (1, [.int 0, .int 0, .int 0, .int 0, .int 0, .ref fa, .ref lu])), (fa, .inl (cJ, 0, .inr (.inl ff))), (lu, .inl (cL, 0, .inl lf)), (cu2, .inr (1, [.int 0, .int 0, .int 0, .int 0, .int 0, .ref fa2, .ref lu2])), (fa2, .inl (cJ2, 0, .inr (.inl ff2))), (lu2, .inl (cL2, 0, .inl lf2))] s.heap.size = A at hD ⊢
  have hA : ∀ q : Nat, s.heap.size ≤ q → A q := fun q h => by rw [← hAe]; exact Or.inr h
  have hS : va_S A s.heap s.heap [] := va_S.rf
  have hP : va_P (dC, dI) vwCl [(cu, .inr (1, [.int 0, .int 0, .int 0, .int 0, .int 0, .ref fa, .ref lu])), (fa, .inl (cJ, 0, .inr (.inl ff))), (lu, .inl (cL, 0, .inl lf)), (cu2, .inr (1, [.int 0, .int 0, .int 0, .int 0, .int 0, .ref fa2, .ref lu2])), (fa2, .inl (cJ2, 0, .inr (.inl ff2))), (lu2, .inl (cL2, 0, .inl lf2))] s.heap := hP
  have hl := lv_entry ([.ref cu, .ref cu2]) (n := 2) (Nat.le_of_ble_eq_true rfl)
  rw [lg_entry_eq]
  generalize (lg_sl ([.ref cu, .ref cu2]) ++ List.replicate (2 - (lg_sl ([.ref cu, .ref cu2])).length) Slot.unset).toArray = ls at hl ⊢
  have hl : lv_has ls 2 [(0, .ref cu), (1, .ref cu2)] := hl
  refine lv_aload_n hx hb dX2_copyFrom_0 rfl (lv_at hl 0 rfl) ?_
  refine lv_aload_n hx hb dX2_copyFrom_1 rfl (lv_at hl 1 rfl) ?_
  refine va_get (D := (dC, dI)) (ci := 1) (v := .int 0) (C := RX2) (T := TX2) (N := 7) hx hb hts iX2_copyFrom_X2 hown hK hP 3 rfl rfl 0 (by decide) (hts (.fieldLink RX2 25 "LuckyTicket$Roll" "length" "I") (List.mem_of_getElem? (i := 1) rfl)) (fun _ h9 => h9) rfl dX2_copyFrom_2 ?_
  refine va_put (D := (dC, dI)) (ci := 1) (v := .int 0) (ty := .int) (C := RX2) (T := TX2) (N := 7) hx hb hts iX2_copyFrom_X2 tyX2 tyX2_ok nmX2 hown hK hP hD hS 0 rfl rfl 0 (by decide) (hts (.fieldLink RX2 25 "LuckyTicket$Roll" "length" "I") (List.mem_of_getElem? (i := 1) rfl)) (fun _ h9 => h9) rfl (by decide +kernel) rfl rfl (Nat.le_of_ble_eq_true rfl) dX2_copyFrom_5 (fun H locs hP hD hS => ?_)
  have hP : va_P (dC, dI) vwCl [(cu, .inr (1, [.int 0, .int 0, .int 0, .int 0, .int 0, .ref fa, .ref lu])), (fa, .inl (cJ, 0, .inr (.inl ff))), (lu, .inl (cL, 0, .inl lf)), (cu2, .inr (1, [.int 0, .int 0, .int 0, .int 0, .int 0, .ref fa2, .ref lu2])), (fa2, .inl (cJ2, 0, .inr (.inl ff2))), (lu2, .inl (cL2, 0, .inl lf2))] H := hP
  have hD : va_D A [(cu, .inr (1, [.int 0, .int 0, .int 0, .int 0, .int 0, .ref fa, .ref lu])), (fa, .inl (cJ, 0, .inr (.inl ff))), (lu, .inl (cL, 0, .inl lf)), (cu2, .inr (1, [.int 0, .int 0, .int 0, .int 0, .int 0, .ref fa2, .ref lu2])), (fa2, .inl (cJ2, 0, .inr (.inl ff2))), (lu2, .inl (cL2, 0, .inl lf2))] := hD
  refine lv_aload_n hx hb dX2_copyFrom_8 rfl (lv_at hl 0 rfl) ?_
  refine lv_aload_n hx hb dX2_copyFrom_9 rfl (lv_at hl 1 rfl) ?_
  refine va_get (D := (dC, dI)) (ci := 1) (v := .int 0) (C := RX2) (T := TX2) (N := 7) hx hb hts iX2_copyFrom_X2 hown hK hP 3 rfl rfl 1 (by decide) (hts (.fieldLink RX2 29 "LuckyTicket$Roll" "base" "I") (List.mem_of_getElem? (i := 2) rfl)) (fun _ h9 => h9) rfl dX2_copyFrom_10 ?_
  refine va_put (D := (dC, dI)) (ci := 1) (v := .int 0) (ty := .int) (C := RX2) (T := TX2) (N := 7) hx hb hts iX2_copyFrom_X2 tyX2 tyX2_ok nmX2 hown hK hP hD hS 0 rfl rfl 1 (by decide) (hts (.fieldLink RX2 29 "LuckyTicket$Roll" "base" "I") (List.mem_of_getElem? (i := 2) rfl)) (fun _ h9 => h9) rfl (by decide +kernel) rfl rfl (Nat.le_of_ble_eq_true rfl) dX2_copyFrom_13 (fun H locs hP hD hS => ?_)
  have hP : va_P (dC, dI) vwCl [(cu, .inr (1, [.int 0, .int 0, .int 0, .int 0, .int 0, .ref fa, .ref lu])), (fa, .inl (cJ, 0, .inr (.inl ff))), (lu, .inl (cL, 0, .inl lf)), (cu2, .inr (1, [.int 0, .int 0, .int 0, .int 0, .int 0, .ref fa2, .ref lu2])), (fa2, .inl (cJ2, 0, .inr (.inl ff2))), (lu2, .inl (cL2, 0, .inl lf2))] H := hP
  have hD : va_D A [(cu, .inr (1, [.int 0, .int 0, .int 0, .int 0, .int 0, .ref fa, .ref lu])), (fa, .inl (cJ, 0, .inr (.inl ff))), (lu, .inl (cL, 0, .inl lf)), (cu2, .inr (1, [.int 0, .int 0, .int 0, .int 0, .int 0, .ref fa2, .ref lu2])), (fa2, .inl (cJ2, 0, .inr (.inl ff2))), (lu2, .inl (cL2, 0, .inl lf2))] := hD
  refine lv_aload_n hx hb dX2_copyFrom_16 rfl (lv_at hl 0 rfl) ?_
  refine lv_aload_n hx hb dX2_copyFrom_17 rfl (lv_at hl 1 rfl) ?_
  refine va_get (D := (dC, dI)) (ci := 1) (v := .int 0) (C := RX2) (T := TX2) (N := 7) hx hb hts iX2_copyFrom_X2 hown hK hP 3 rfl rfl 2 (by decide) (hts (.fieldLink RX2 42 "LuckyTicket$Roll" "tickets" "I") (List.mem_of_getElem? (i := 3) rfl)) (fun _ h9 => h9) rfl dX2_copyFrom_18 ?_
  refine va_put (D := (dC, dI)) (ci := 1) (v := .int 0) (ty := .int) (C := RX2) (T := TX2) (N := 7) hx hb hts iX2_copyFrom_X2 tyX2 tyX2_ok nmX2 hown hK hP hD hS 0 rfl rfl 2 (by decide) (hts (.fieldLink RX2 42 "LuckyTicket$Roll" "tickets" "I") (List.mem_of_getElem? (i := 3) rfl)) (fun _ h9 => h9) rfl (by decide +kernel) rfl rfl (Nat.le_of_ble_eq_true rfl) dX2_copyFrom_21 (fun H locs hP hD hS => ?_)
  have hP : va_P (dC, dI) vwCl [(cu, .inr (1, [.int 0, .int 0, .int 0, .int 0, .int 0, .ref fa, .ref lu])), (fa, .inl (cJ, 0, .inr (.inl ff))), (lu, .inl (cL, 0, .inl lf)), (cu2, .inr (1, [.int 0, .int 0, .int 0, .int 0, .int 0, .ref fa2, .ref lu2])), (fa2, .inl (cJ2, 0, .inr (.inl ff2))), (lu2, .inl (cL2, 0, .inl lf2))] H := hP
  have hD : va_D A [(cu, .inr (1, [.int 0, .int 0, .int 0, .int 0, .int 0, .ref fa, .ref lu])), (fa, .inl (cJ, 0, .inr (.inl ff))), (lu, .inl (cL, 0, .inl lf)), (cu2, .inr (1, [.int 0, .int 0, .int 0, .int 0, .int 0, .ref fa2, .ref lu2])), (fa2, .inl (cJ2, 0, .inr (.inl ff2))), (lu2, .inl (cL2, 0, .inl lf2))] := hD
  refine lv_aload_n hx hb dX2_copyFrom_24 rfl (lv_at hl 0 rfl) ?_
  refine lv_aload_n hx hb dX2_copyFrom_25 rfl (lv_at hl 1 rfl) ?_
  refine va_get (D := (dC, dI)) (ci := 1) (v := .int 0) (C := RX2) (T := TX2) (N := 7) hx hb hts iX2_copyFrom_X2 hown hK hP 3 rfl rfl 3 (by decide) (hts (.fieldLink RX2 33 "LuckyTicket$Roll" "laws" "I") (List.mem_of_getElem? (i := 4) rfl)) (fun _ h9 => h9) rfl dX2_copyFrom_26 ?_
  refine va_put (D := (dC, dI)) (ci := 1) (v := .int 0) (ty := .int) (C := RX2) (T := TX2) (N := 7) hx hb hts iX2_copyFrom_X2 tyX2 tyX2_ok nmX2 hown hK hP hD hS 0 rfl rfl 3 (by decide) (hts (.fieldLink RX2 33 "LuckyTicket$Roll" "laws" "I") (List.mem_of_getElem? (i := 4) rfl)) (fun _ h9 => h9) rfl (by decide +kernel) rfl rfl (Nat.le_of_ble_eq_true rfl) dX2_copyFrom_29 (fun H locs hP hD hS => ?_)
  have hP : va_P (dC, dI) vwCl [(cu, .inr (1, [.int 0, .int 0, .int 0, .int 0, .int 0, .ref fa, .ref lu])), (fa, .inl (cJ, 0, .inr (.inl ff))), (lu, .inl (cL, 0, .inl lf)), (cu2, .inr (1, [.int 0, .int 0, .int 0, .int 0, .int 0, .ref fa2, .ref lu2])), (fa2, .inl (cJ2, 0, .inr (.inl ff2))), (lu2, .inl (cL2, 0, .inl lf2))] H := hP
  have hD : va_D A [(cu, .inr (1, [.int 0, .int 0, .int 0, .int 0, .int 0, .ref fa, .ref lu])), (fa, .inl (cJ, 0, .inr (.inl ff))), (lu, .inl (cL, 0, .inl lf)), (cu2, .inr (1, [.int 0, .int 0, .int 0, .int 0, .int 0, .ref fa2, .ref lu2])), (fa2, .inl (cJ2, 0, .inr (.inl ff2))), (lu2, .inl (cL2, 0, .inl lf2))] := hD
  refine lv_aload_n hx hb dX2_copyFrom_32 rfl (lv_at hl 0 rfl) ?_
  refine lv_aload_n hx hb dX2_copyFrom_33 rfl (lv_at hl 1 rfl) ?_
  refine va_get (D := (dC, dI)) (ci := 1) (v := .int 0) (C := RX2) (T := TX2) (N := 7) hx hb hts iX2_copyFrom_X2 hown hK hP 3 rfl rfl 4 (by decide) (hts (.fieldLink RX2 37 "LuckyTicket$Roll" "lines" "I") (List.mem_of_getElem? (i := 5) rfl)) (fun _ h9 => h9) rfl dX2_copyFrom_34 ?_
  refine va_put (D := (dC, dI)) (ci := 1) (v := .int 0) (ty := .int) (C := RX2) (T := TX2) (N := 7) hx hb hts iX2_copyFrom_X2 tyX2 tyX2_ok nmX2 hown hK hP hD hS 0 rfl rfl 4 (by decide) (hts (.fieldLink RX2 37 "LuckyTicket$Roll" "lines" "I") (List.mem_of_getElem? (i := 5) rfl)) (fun _ h9 => h9) rfl (by decide +kernel) rfl rfl (Nat.le_of_ble_eq_true rfl) dX2_copyFrom_37 (fun H locs hP hD hS => ?_)
  have hP : va_P (dC, dI) vwCl [(cu, .inr (1, [.int 0, .int 0, .int 0, .int 0, .int 0, .ref fa, .ref lu])), (fa, .inl (cJ, 0, .inr (.inl ff))), (lu, .inl (cL, 0, .inl lf)), (cu2, .inr (1, [.int 0, .int 0, .int 0, .int 0, .int 0, .ref fa2, .ref lu2])), (fa2, .inl (cJ2, 0, .inr (.inl ff2))), (lu2, .inl (cL2, 0, .inl lf2))] H := hP
  have hD : va_D A [(cu, .inr (1, [.int 0, .int 0, .int 0, .int 0, .int 0, .ref fa, .ref lu])), (fa, .inl (cJ, 0, .inr (.inl ff))), (lu, .inl (cL, 0, .inl lf)), (cu2, .inr (1, [.int 0, .int 0, .int 0, .int 0, .int 0, .ref fa2, .ref lu2])), (fa2, .inl (cJ2, 0, .inr (.inl ff2))), (lu2, .inl (cL2, 0, .inl lf2))] := hD
  refine lv_aload_n hx hb dX2_copyFrom_40 rfl (lv_at hl 0 rfl) ?_
  refine lv_aload_n hx hb dX2_copyFrom_41 rfl (lv_at hl 0 rfl) ?_
  refine va_get (D := (dC, dI)) (ci := 1) (v := .int 0) (C := RX2) (T := TX2) (N := 7) hx hb hts iX2_copyFrom_X2 hown hK hP 0 rfl rfl 2 (by decide) (hts (.fieldLink RX2 42 "LuckyTicket$Roll" "tickets" "I") (List.mem_of_getElem? (i := 3) rfl)) (fun _ h9 => h9) rfl dX2_copyFrom_42 ?_
  have hFc := va_free (wc := [(cu, .inr (1, [.int 0, .int 0, .int 0, .int 0, .int 0, .ref fa, .ref lu])), (fa, .inl (cJ, 0, .inr (.inl ff)))]) hD hS hA [0, 1] rfl
  refine va_callv (va_runV (As := [.int 0]) (rest := []) ⟨hx, hb, hml, hown, hts⟩ (kX2_makeRoom l dC dI cu fa lu cJ ff (H.size)) (cwV 1 hts gX2_copyFrom__X2_makeRoom_V45 rfl rfl rfl (by decide +kernel) ⟨lel 1 1 rfl, lel 21 64 rfl⟩) ⟨hw_fb, va_recv hK hP (ci := 1) (q0 := 0) rfl rfl, (hw_use hP hD hK hN [0, 1] rfl (by decide) rfl [0] rfl)⟩ rfl rfl hl.1 rfl (lv_room (Nat.le_of_ble_eq_true rfl)) dX2_copyFrom_45 ⟨lel 0 0 rfl, lel 0 0 rfl⟩) hS (fun q _ h => hFc q h) hFc (fun u_2 t H1 locs ht hvm hwr_1 hB hz1 hk1 hS => ?_)
  obtain ⟨hP1, hK1, hD1⟩ := hB
  rw [ht] at hP1
  have hK1 := va_K.moved hvm.symm hK1
  obtain ⟨hP, hD⟩ := va_join (wr := [(lu, .inl (cL, 0, .inl lf)), (cu2, .inr (1, [.int 0, .int 0, .int 0, .int 0, .int 0, .ref fa2, .ref lu2])), (fa2, .inl (cJ2, 0, .inr (.inl ff2))), (lu2, .inl (cL2, 0, .inl lf2))]) (w1 := [(cu, .inr (1, [.int 0, .int 0, .int 0, .int 0, .int 0, .ref fa, .ref lu])), (fa, .inl (cJ, 0, .inr (.inl ff)))]) hP hD [0, 1] [2, 3, 4, 5] rfl rfl (by decide) (by decide) hk1 hFc hP1 hD1
  have hK := (hK.sub (tys' := [(cL, .int), (cJ2, .long), (cL2, .int)]) [1, 2, 3] rfl).app hK1
  generalize H1 = H at hP hS ⊢
  have hP : va_P (dC, dI) vwCl [(lu, .inl (cL, 0, .inl lf)), (cu2, .inr (1, [.int 0, .int 0, .int 0, .int 0, .int 0, .ref fa2, .ref lu2])), (fa2, .inl (cJ2, 0, .inr (.inl ff2))), (lu2, .inl (cL2, 0, .inl lf2)), (cu, .inr (1, [.int 0, .int 0, .int 0, .int 0, .int 0, .ref fa, .ref lu])), (fa, .inl (cJ, 0, .inr (.inl ff)))] H := hP
  have hD : va_D A [(lu, .inl (cL, 0, .inl lf)), (cu2, .inr (1, [.int 0, .int 0, .int 0, .int 0, .int 0, .ref fa2, .ref lu2])), (fa2, .inl (cJ2, 0, .inr (.inl ff2))), (lu2, .inl (cL2, 0, .inl lf2)), (cu, .inr (1, [.int 0, .int 0, .int 0, .int 0, .int 0, .ref fa, .ref lu])), (fa, .inl (cJ, 0, .inr (.inl ff)))] := hD
  have hK : va_K (dC, dI) vwCl [(cL, .int), (cJ2, .long), (cL2, .int), (cJ, .long)] s := hK
  refine lv_aload_n hx hb dX2_copyFrom_48 rfl (lv_at hl 1 rfl) ?_
  refine va_get (D := (dC, dI)) (ci := 1) (v := .ref fa2) (C := RX2) (T := TX2) (N := 7) hx hb hts iX2_copyFrom_X2 hown hK hP 1 rfl rfl 5 (by decide) (hts (.fieldLink RX2 9 "LuckyTicket$Roll" "faces" "[J") (List.mem_of_getElem? (i := 11) rfl)) (fun _ h9 => h9) rfl dX2_copyFrom_49 ?_
  refine lv_iconst (v := 0) hx hb dX2_copyFrom_52 (by decide) ?_
  refine lv_aload_n hx hb dX2_copyFrom_53 rfl (lv_at hl 0 rfl) ?_
  refine va_get (D := (dC, dI)) (ci := 1) (v := .ref fa) (C := RX2) (T := TX2) (N := 7) hx hb hts iX2_copyFrom_X2 hown hK hP 4 rfl rfl 5 (by decide) (hts (.fieldLink RX2 9 "LuckyTicket$Roll" "faces" "[J") (List.mem_of_getElem? (i := 11) rfl)) (fun _ h9 => h9) rfl dX2_copyFrom_54 ?_
  refine lv_iconst (v := 0) hx hb dX2_copyFrom_57 (by decide) ?_
  refine lv_aload_n hx hb dX2_copyFrom_58 rfl (lv_at hl 0 rfl) ?_
  refine va_get (D := (dC, dI)) (ci := 1) (v := .int 0) (C := RX2) (T := TX2) (N := 7) hx hb hts iX2_copyFrom_X2 hown hK hP 4 rfl rfl 2 (by decide) (hts (.fieldLink RX2 42 "LuckyTicket$Roll" "tickets" "I") (List.mem_of_getElem? (i := 3) rfl)) (fun _ h9 => h9) rfl dX2_copyFrom_59 ?_
  refine va_copyl (ty := .long) hx hb (hml.trans hl.1.symm) hown (hts (.methodLink RX2 53 arraycopyName) (List.mem_of_getElem? (i := 12) rfl)) (hts (.native arraycopyName) (List.mem_of_getElem? (i := 13) rfl)) (hts (.static arraycopyName) (List.mem_of_getElem? (i := 14) rfl)) (hts (.initialized RJ10) (List.mem_of_getElem? (i := 15) rfl)) hK hP hD hS 2 5 1 3 rfl rfl rfl rfl rfl (by decide) (by decide) (by decide) (by decide) (by decide) (fun i hi => absurd hi (Nat.not_lt_zero i)) (lel 1 1 rfl) (Nat.le_of_ble_eq_true rfl) dX2_copyFrom_62 (fun H locs hP hD hS => ?_)
  have hP : va_P (dC, dI) vwCl [(lu, .inl (cL, 0, .inl lf)), (cu2, .inr (1, [.int 0, .int 0, .int 0, .int 0, .int 0, .ref fa2, .ref lu2])), (fa2, .inl (cJ2, 0, .inr (.inl ff2))), (lu2, .inl (cL2, 0, .inl lf2)), (cu, .inr (1, [.int 0, .int 0, .int 0, .int 0, .int 0, .ref fa, .ref lu])), (fa, .inl (cJ, 0, .inr (.inl (va_cpy ff2 ff (0 : Int32).toNatClampNeg (0 : Int32).toNatClampNeg (0 : Int32).toNatClampNeg))))] H := hP
  have hD : va_D A [(lu, .inl (cL, 0, .inl lf)), (cu2, .inr (1, [.int 0, .int 0, .int 0, .int 0, .int 0, .ref fa2, .ref lu2])), (fa2, .inl (cJ2, 0, .inr (.inl ff2))), (lu2, .inl (cL2, 0, .inl lf2)), (cu, .inr (1, [.int 0, .int 0, .int 0, .int 0, .int 0, .ref fa, .ref lu])), (fa, .inl (cJ, 0, .inr (.inl (va_cpy ff2 ff (0 : Int32).toNatClampNeg (0 : Int32).toNatClampNeg (0 : Int32).toNatClampNeg))))] := hD
  refine lv_aload_n hx hb dX2_copyFrom_65 rfl (lv_at hl 1 rfl) ?_
  refine va_get (D := (dC, dI)) (ci := 1) (v := .ref lu2) (C := RX2) (T := TX2) (N := 7) hx hb hts iX2_copyFrom_X2 hown hK hP 1 rfl rfl 6 (by decide) (hts (.fieldLink RX2 15 "LuckyTicket$Roll" "luck" "[I") (List.mem_of_getElem? (i := 16) rfl)) (fun _ h9 => h9) rfl dX2_copyFrom_66 ?_
  refine lv_iconst (v := 0) hx hb dX2_copyFrom_69 (by decide) ?_
  refine lv_aload_n hx hb dX2_copyFrom_70 rfl (lv_at hl 0 rfl) ?_
  refine va_get (D := (dC, dI)) (ci := 1) (v := .ref lu) (C := RX2) (T := TX2) (N := 7) hx hb hts iX2_copyFrom_X2 hown hK hP 4 rfl rfl 6 (by decide) (hts (.fieldLink RX2 15 "LuckyTicket$Roll" "luck" "[I") (List.mem_of_getElem? (i := 16) rfl)) (fun _ h9 => h9) rfl dX2_copyFrom_71 ?_
  refine lv_iconst (v := 0) hx hb dX2_copyFrom_74 (by decide) ?_
  refine lv_aload_n hx hb dX2_copyFrom_75 rfl (lv_at hl 0 rfl) ?_
  refine va_get (D := (dC, dI)) (ci := 1) (v := .int 0) (C := RX2) (T := TX2) (N := 7) hx hb hts iX2_copyFrom_X2 hown hK hP 4 rfl rfl 2 (by decide) (hts (.fieldLink RX2 42 "LuckyTicket$Roll" "tickets" "I") (List.mem_of_getElem? (i := 3) rfl)) (fun _ h9 => h9) rfl dX2_copyFrom_76 ?_
  refine va_copyi (ty := .int) hx hb (hml.trans hl.1.symm) hown (hts (.methodLink RX2 53 arraycopyName) (List.mem_of_getElem? (i := 12) rfl)) (hts (.native arraycopyName) (List.mem_of_getElem? (i := 13) rfl)) (hts (.static arraycopyName) (List.mem_of_getElem? (i := 14) rfl)) (hts (.initialized RJ10) (List.mem_of_getElem? (i := 15) rfl)) hK hP hD hS 3 0 2 0 rfl rfl rfl rfl rfl (by decide) (by decide) (by decide) (by decide) (by decide) (fun i hi => absurd hi (Nat.not_lt_zero i)) (lel 1 1 rfl) (Nat.le_of_ble_eq_true rfl) dX2_copyFrom_79 (fun H locs hP hD hS => ?_)
  have hP : va_P (dC, dI) vwCl [(lu, .inl (cL, 0, .inl (va_cpy lf2 lf (0 : Int32).toNatClampNeg (0 : Int32).toNatClampNeg (0 : Int32).toNatClampNeg))), (cu2, .inr (1, [.int 0, .int 0, .int 0, .int 0, .int 0, .ref fa2, .ref lu2])), (fa2, .inl (cJ2, 0, .inr (.inl ff2))), (lu2, .inl (cL2, 0, .inl lf2)), (cu, .inr (1, [.int 0, .int 0, .int 0, .int 0, .int 0, .ref fa, .ref lu])), (fa, .inl (cJ, 0, .inr (.inl (va_cpy ff2 ff (0 : Int32).toNatClampNeg (0 : Int32).toNatClampNeg (0 : Int32).toNatClampNeg))))] H := hP
  have hD : va_D A [(lu, .inl (cL, 0, .inl (va_cpy lf2 lf (0 : Int32).toNatClampNeg (0 : Int32).toNatClampNeg (0 : Int32).toNatClampNeg))), (cu2, .inr (1, [.int 0, .int 0, .int 0, .int 0, .int 0, .ref fa2, .ref lu2])), (fa2, .inl (cJ2, 0, .inr (.inl ff2))), (lu2, .inl (cL2, 0, .inl lf2)), (cu, .inr (1, [.int 0, .int 0, .int 0, .int 0, .int 0, .ref fa, .ref lu])), (fa, .inl (cJ, 0, .inr (.inl (va_cpy ff2 ff (0 : Int32).toNatClampNeg (0 : Int32).toNatClampNeg (0 : Int32).toNatClampNeg))))] := hD
  have hP9 := hP.sub (ws' := []) [] rfl
  have hD9 := hD.sub (ws' := []) [] (by decide) rfl
  have hK9 := hK.sub (tys' := []) [] rfl
  exact W.vret hx hb hr (fun t ht hW => ⟨⟨(), rfl, trivial, by rw [ht]; exact hP9, va_K.moved hW.alike hK9, hD9⟩, hS.F ht⟩) hS.2.2 dX2_copyFrom_82
theorem dX9_image_0 : decode cX9_image 0 = .ok (.iload_n 1, 1) := by decide +kernel
theorem dX9_image_1 : decode cX9_image 1 = .ok (.iconst 0, 1) := by decide +kernel
theorem dX9_image_2 : decode cX9_image 2 = .ok (.aload_n 0, 1) := by decide +kernel
theorem dX9_image_3 : decode cX9_image 3 = .ok (.getfield 39, 3) := by decide +kernel
theorem dX9_image_6 : decode cX9_image 6 = .ok (.arraylength, 1) := by decide +kernel
theorem dX9_image_7 : decode cX9_image 7 = .ok (.iconst 1, 1) := by decide +kernel
theorem dX9_image_8 : decode cX9_image 8 = .ok (.isub, 1) := by decide +kernel
theorem dX9_image_9 : decode cX9_image 9 = .ok (.invokestatic 158, 3) := by decide +kernel
theorem dX9_image_12 : decode cX9_image 12 = .ok (.ifCond .ne 6, 3) := by decide +kernel
theorem dX9_image_15 : decode cX9_image 15 = .ok (.bipush (-2), 2) := by decide +kernel
theorem dX9_image_17 : decode cX9_image 17 = .ok (.ireturn, 1) := by decide +kernel
theorem dX9_image_18 : decode cX9_image 18 = .ok (.aload_n 0, 1) := by decide +kernel
theorem dX9_image_19 : decode cX9_image 19 = .ok (.getfield 39, 3) := by decide +kernel
theorem dX9_image_22 : decode cX9_image 22 = .ok (.iload_n 1, 1) := by decide +kernel
theorem dX9_image_23 : decode cX9_image 23 = .ok (.aaload, 1) := by decide +kernel
theorem dX9_image_24 : decode cX9_image 24 = .ok (.aload_n 0, 1) := by decide +kernel
theorem dX9_image_25 : decode cX9_image 25 = .ok (.getfield 35, 3) := by decide +kernel
theorem dX9_image_28 : decode cX9_image 28 = .ok (.invokevirtual 337, 3) := by decide +kernel
theorem dX9_image_31 : decode cX9_image 31 = .ok (.aload_n 0, 1) := by decide +kernel
theorem dX9_image_32 : decode cX9_image 32 = .ok (.getfield 43, 3) := by decide +kernel
theorem dX9_image_35 : decode cX9_image 35 = .ok (.iload_n 1, 1) := by decide +kernel
theorem dX9_image_36 : decode cX9_image 36 = .ok (.iconst 1, 1) := by decide +kernel
theorem dX9_image_37 : decode cX9_image 37 = .ok (.bastore, 1) := by decide +kernel
theorem dX9_image_38 : decode cX9_image 38 = .ok (.iconst 0, 1) := by decide +kernel
theorem dX9_image_39 : decode cX9_image 39 = .ok (.ireturn, 1) := by decide +kernel
def uX9_image : List Cond := .code yX9_image cX9_image 2 (some .int) :: ([.fieldLink RX9 39 "LuckyTicket" "images" "[LLuckyTicket$Roll;", .methodLink RX9 158 yX9_isWithin, .static yX9_isWithin, .initialized RX9, .code yX9_isWithin cX9_isWithin 3 (some .boolean), .fieldLink RX9 35 "LuckyTicket" "current" "LLuckyTicket$Roll;", .methodLink RX9 337 yX2_copyFrom, .instanceMethod yX2_copyFrom, .selects RX2 yX2_copyFrom yX2_copyFrom, .initialized RX2, .code yX2_copyFrom cX2_copyFrom 2 none, .fieldLink RX2 25 "LuckyTicket$Roll" "length" "I", .fieldLink RX2 29 "LuckyTicket$Roll" "base" "I", .fieldLink RX2 42 "LuckyTicket$Roll" "tickets" "I", .fieldLink RX2 33 "LuckyTicket$Roll" "laws" "I", .fieldLink RX2 37 "LuckyTicket$Roll" "lines" "I", .methodLink RX2 45 yX2_makeRoom, .instanceMethod yX2_makeRoom, .selects RX2 yX2_makeRoom yX2_makeRoom, .code yX2_makeRoom cX2_makeRoom 2 none, .fieldLink RX2 9 "LuckyTicket$Roll" "faces" "[J", .methodLink RX2 53 arraycopyName, .native arraycopyName, .static arraycopyName, .initialized RJ10, .fieldLink RX2 15 "LuckyTicket$Roll" "luck" "[I", .fieldLink RX9 43 "LuckyTicket" "imaged" "[Z"] ++ wsX90 ++ wsX20)
theorem iX9_image_X9 : ∀ w ∈ wsX90, w ∈ uX9_image := fun _ h => List.mem_cons_of_mem _ (List.mem_append_left _ (List.mem_append_right _ h))
theorem iX9_image_X2 : ∀ w ∈ wsX20, w ∈ uX9_image := fun _ h => List.mem_cons_of_mem _ (List.mem_append_right _ h)
set_option maxRecDepth 20000 in
theorem gX9_image__X9_isWithin_S158 : GoodIn uX9_image (va_wsS RX9 158 yX9_isWithin uX9_isWithin) := goodIn_p _ [5] rfl (by decide +kernel)
set_option maxRecDepth 20000 in
theorem gX9_image__X2_copyFrom_V337 : GoodIn uX9_image (wsV RX9 337 RX2 yX2_copyFrom uX2_copyFrom) := goodIn_p _ [11, 20] rfl (by decide +kernel)
set_option maxHeartbeats 4000000 in
set_option maxRecDepth 100000 in
theorem kX9_image (l : Launch) (dC : Nat → ClassId) (dI : Nat → Nat → Nat) (h0 : Nat) (tp : Nat) (sc : Nat) (rd : Nat) (cu : Nat) (im : Nat) (ig : Nat) (sl : Nat) (se : Nat) (su : Nat) (fc : Nat) (fa : Nat) (lu : Nat) (cR : ClassId) (cZ : ClassId) (i0 : Nat) (i1 : Nat) (i2 : Nat) (if0 : Nat) (if1 : Nat) (if2 : Nat) (il0 : Nat) (il1 : Nat) (il2 : Nat) (cJ0 : ClassId) (cJ1 : ClassId) (cJ2 : ClassId) (cL0 : ClassId) (cL1 : ClassId) (cL2 : ClassId) (jf0 : Nat → Int64) (jf1 : Nat → Int64) (jf2 : Nat → Int64) (jl0 : Nat → Int32) (jl1 : Nat → Int32) (jl2 : Nat → Int32) (cJ : ClassId) (cL : ClassId) (ff : Nat → Int64) (lf : Nat → Int32) (a1 : Int32) (sz : Nat) : Met l yX9_image uX9_image ({ frames := 2, cells := 0, slots := 0, locals := 85 }) (va_Pc [.ref h0, .int a1] (hw (dC, dI) vwCl [(h0, .inr (7, [.ref tp, .ref sc, .ref rd, .ref cu, .ref im, .ref ig, .ref sl, .ref se, .ref su, .ref fc])), (im, .inl (cR, 3, .inr (.inr (.inr (.inr (sf3 i0 i1 i2)))))), (ig, .inl (cZ, 3, .inl (fun _ => 0))), (cu, .inr (1, [.int 0, .int 0, .int 0, .int 0, .int 0, .ref fa, .ref lu])), (fa, .inl (cJ, 0, .inr (.inl ff))), (lu, .inl (cL, 0, .inl lf)), (i0, .inr (1, [.int 0, .int 0, .int 0, .int 0, .int 0, .ref if0, .ref il0])), (i1, .inr (1, [.int 0, .int 0, .int 0, .int 0, .int 0, .ref if1, .ref il1])), (i2, .inr (1, [.int 0, .int 0, .int 0, .int 0, .int 0, .ref if2, .ref il2])), (if0, .inl (cJ0, 0, .inr (.inl jf0))), (il0, .inl (cL0, 0, .inl jl0)), (if1, .inl (cJ1, 0, .inr (.inl jf1))), (il1, .inl (cL1, 0, .inl jl1)), (if2, .inl (cJ2, 0, .inr (.inl jf2))), (il2, .inl (cL2, 0, .inl jl2))] [(cR, .object RX2), (cZ, .boolean), (cJ, .long), (cL, .int), (cJ0, .long), (cL0, .int), (cJ1, .long), (cL1, .int), (cJ2, .long), (cL2, .int)] sz)) (va_Qi (fun (r : Int32) (_ : Unit) => r = im3 a1) (fun (_ : Unit) t => va_P (dC, dI) vwCl [] t.heap ∧ va_K (dC, dI) vwCl [] t ∧ va_D (va_A [(h0, .inr (7, [.ref tp, .ref sc, .ref rd, .ref cu, .ref im, .ref ig, .ref sl, .ref se, .ref su, .ref fc])), (im, .inl (cR, 3, .inr (.inr (.inr (.inr (sf3 i0 i1 i2)))))), (ig, .inl (cZ, 3, .inl (fun _ => 0))), (cu, .inr (1, [.int 0, .int 0, .int 0, .int 0, .int 0, .ref fa, .ref lu])), (fa, .inl (cJ, 0, .inr (.inl ff))), (lu, .inl (cL, 0, .inl lf)), (i0, .inr (1, [.int 0, .int 0, .int 0, .int 0, .int 0, .ref if0, .ref il0])), (i1, .inr (1, [.int 0, .int 0, .int 0, .int 0, .int 0, .ref if1, .ref il1])), (i2, .inr (1, [.int 0, .int 0, .int 0, .int 0, .int 0, .ref if2, .ref il2])), (if0, .inl (cJ0, 0, .inr (.inl jf0))), (il0, .inl (cL0, 0, .inl jl0)), (if1, .inl (cJ1, 0, .inr (.inl jf1))), (il1, .inl (cL1, 0, .inl jl1)), (if2, .inl (cJ2, 0, .inr (.inl jf2))), (il2, .inl (cL2, 0, .inl jl2))] sz) []) (va_A [(h0, .inr (7, [.ref tp, .ref sc, .ref rd, .ref cu, .ref im, .ref ig, .ref sl, .ref se, .ref su, .ref fc])), (im, .inl (cR, 3, .inr (.inr (.inr (.inr (sf3 i0 i1 i2)))))), (ig, .inl (cZ, 3, .inl (fun _ => 0))), (cu, .inr (1, [.int 0, .int 0, .int 0, .int 0, .int 0, .ref fa, .ref lu])), (fa, .inl (cJ, 0, .inr (.inl ff))), (lu, .inl (cL, 0, .inl lf)), (i0, .inr (1, [.int 0, .int 0, .int 0, .int 0, .int 0, .ref if0, .ref il0])), (i1, .inr (1, [.int 0, .int 0, .int 0, .int 0, .int 0, .ref if1, .ref il1])), (i2, .inr (1, [.int 0, .int 0, .int 0, .int 0, .int 0, .ref if2, .ref il2])), (if0, .inl (cJ0, 0, .inr (.inl jf0))), (il0, .inl (cL0, 0, .inl jl0)), (if1, .inl (cJ1, 0, .inr (.inl jf1))), (il1, .inl (cL1, 0, .inl jl1)), (if2, .inl (cJ2, 0, .inr (.inl jf2))), (il2, .inl (cL2, 0, .inl jl2))] sz)) 0 0 (va_A [(h0, .inr (7, [.ref tp, .ref sc, .ref rd, .ref cu, .ref im, .ref ig, .ref sl, .ref se, .ref su, .ref fc])), (im, .inl (cR, 3, .inr (.inr (.inr (.inr (sf3 i0 i1 i2)))))), (ig, .inl (cZ, 3, .inl (fun _ => 0))), (cu, .inr (1, [.int 0, .int 0, .int 0, .int 0, .int 0, .ref fa, .ref lu])), (fa, .inl (cJ, 0, .inr (.inl ff))), (lu, .inl (cL, 0, .inl lf)), (i0, .inr (1, [.int 0, .int 0, .int 0, .int 0, .int 0, .ref if0, .ref il0])), (i1, .inr (1, [.int 0, .int 0, .int 0, .int 0, .int 0, .ref if1, .ref il1])), (i2, .inr (1, [.int 0, .int 0, .int 0, .int 0, .int 0, .ref if2, .ref il2])), (if0, .inl (cJ0, 0, .inr (.inl jf0))), (il0, .inl (cL0, 0, .inl jl0)), (if1, .inl (cJ1, 0, .inr (.inl jf1))), (il1, .inl (cL1, 0, .inl jl1)), (if2, .inl (cJ2, 0, .inr (.inl jf2))), (il2, .inl (cL2, 0, .inl jl2))] sz) := by
  refine Met.ofW (cc := cX9_image) (maxL := 2) (ret := (some .int)) (by decide) rfl ?_
  intro p e s m args below meth c s₁ B hml hv
  obtain ⟨rfl, hsz, hP, hK, hD0, hN⟩ := hv
  have hx := B.exec
  have hb := B.bytes
  have hr := B.returns
  have hts := atoms_spec (ws := uX9_image) B.pre
  have hown : s.vm.findClass RX9 = some m.cls := findClass_of_methodNamed B.named
  have hlocks := B.notSynchronized
  subst hsz
  have hD := hD0.self (sz := s.heap.size)
  generalize hAe : va_A [(h0, .inr (7, [.ref tp, .ref sc, .ref rd, .ref cu, .ref im, .ref ig, .ref sl, .ref se, .ref su, .ref fc])), (im, .inl (cR, 3, .inr (.inr (.inr (.inr (sf3 i0 i1 i2)))))), (ig, .inl (cZ, 3, .inl (fun _ => 0))), (cu, .inr (1, [.int 0, .int 0, .int 0, .int 0, .int 0, .ref fa, .ref lu])), (fa, .inl (cJ, 0, .inr (.inl ff))), (lu, .inl (cL, 0, .inl lf)), (i0, .inr (1, [.int 0, .int 0, .int 0, .int 0, .int 0, .ref if0, .ref il0])), (i1, .inr (1, [.int 0, .int 0, .int 0, .int 0, .int 0, .ref if1, .ref il1])), (i2, .inr (1, [.int 0, .int 0, .int 0, .int 0, .int 0, .ref if2, .ref il2])), (if0, .inl (cJ0, 0, .inr (.inl jf0))), (il0, .inl (cL0, 0, .inl jl0)), (if1, .inl (cJ1, 0, .inr (.inl jf1))), (il1, .inl (cL1, 0, .inl jl1)), (if2, .inl (cJ2, 0, .inr (.inl jf2))), (il2, .inl (cL2, 0, .inl jl2))] s.heap.size = A at hD ⊢
  have hA : ∀ q : Nat, s.heap.size ≤ q → A q := fun q h => by rw [← hAe]; exact Or.inr h
  have hS : va_S A s.heap s.heap [] := va_S.rf
  have hP : va_P (dC, dI) vwCl [(h0, .inr (7, [.ref tp, .ref sc, .ref rd, .ref cu, .ref im, .ref ig, .ref sl, .ref se, .ref su, .ref fc])), (im, .inl (cR, 3, .inr (.inr (.inr (.inr (sf3 i0 i1 i2)))))), (ig, .inl (cZ, 3, .inl (fun _ => 0))), (cu, .inr (1, [.int 0, .int 0, .int 0, .int 0, .int 0, .ref fa, .ref lu])), (fa, .inl (cJ, 0, .inr (.inl ff))), (lu, .inl (cL, 0, .inl lf)), (i0, .inr (1, [.int 0, .int 0, .int 0, .int 0, .int 0, .ref if0, .ref il0])), (i1, .inr (1, [.int 0, .int 0, .int 0, .int 0, .int 0, .ref if1, .ref il1])), (i2, .inr (1, [.int 0, .int 0, .int 0, .int 0, .int 0, .ref if2, .ref il2])), (if0, .inl (cJ0, 0, .inr (.inl jf0))), (il0, .inl (cL0, 0, .inl jl0)), (if1, .inl (cJ1, 0, .inr (.inl jf1))), (il1, .inl (cL1, 0, .inl jl1)), (if2, .inl (cJ2, 0, .inr (.inl jf2))), (il2, .inl (cL2, 0, .inl jl2))] s.heap := hP
  have hl := lv_entry ([.ref h0, .int a1]) (n := 2) (Nat.le_of_ble_eq_true rfl)
  rw [lg_entry_eq]
  generalize (lg_sl ([.ref h0, .int a1]) ++ List.replicate (2 - (lg_sl ([.ref h0, .int a1])).length) Slot.unset).toArray = ls at hl ⊢
  have hl : lv_has ls 2 [(0, .ref h0), (1, .int a1)] := hl
  refine lv_iload_n hx hb dX9_image_0 rfl (lv_at hl 1 rfl) ?_
  refine lv_iconst (v := 0) hx hb dX9_image_1 (by decide) ?_
  refine lv_aload_n hx hb dX9_image_2 rfl (lv_at hl 0 rfl) ?_
  refine va_get (D := (dC, dI)) (ci := 7) (v := .ref im) (C := RX9) (T := TX9) (N := 10) hx hb hts iX9_image_X9 hown hK hP 0 rfl rfl 4 (by decide) (hts (.fieldLink RX9 39 "LuckyTicket" "images" "[LLuckyTicket$Roll;") (List.mem_of_getElem? (i := 1) rfl)) (fun _ h9 => h9) rfl dX9_image_3 ?_
  refine va_alen (v := 3) hx hb hK hP 1 0 rfl rfl (by rfl) dX9_image_6 ?_
  refine lv_iconst (v := 1) hx hb dX9_image_7 (by decide) ?_
  refine lv_isub hx hb dX9_image_8 ?_
  refine lv_topi (fun z_1 ez_1 => ?_)
  obtain rfl : z_1 = 2 := ez_1.trans (by decide)
  refine vp_callSi (W.runS (As := [.int a1, .int 0, .int 2]) (rest := []) ⟨hx, hb, hml, hown, hts⟩ (kX9_isWithin l dC dI a1 0 2) (va_cwS 3 hts gX9_image__X9_isWithin_S158 rfl rfl rfl (by decide +kernel) ⟨lel 1 2 rfl, lel 22 85 rfl⟩) ⟨pn_fb, pn_use⟩ rfl rfl hl.1 rfl (lv_room (Nat.le_of_ble_eq_true rfl)) dX9_image_9 ⟨lel 0 0 rfl, lel 0 0 rfl⟩) (fun r_2 hr_2 => ?_)
  refine lv_if_ne (tgt := 18) hx hb dX9_image_12 (by decide) (fun c_3 => ?_) (fun c_3 => ?_)
  ·
    rcases wi_3 (fun e => c_3 (hr_2.trans e)) with rfl | rfl | rfl
    ·
      refine lv_aload_n hx hb dX9_image_18 rfl (lv_at hl 0 rfl) ?_
      refine va_get (D := (dC, dI)) (ci := 7) (v := .ref im) (C := RX9) (T := TX9) (N := 10) hx hb hts iX9_image_X9 hown hK hP 0 rfl rfl 4 (by decide) (hts (.fieldLink RX9 39 "LuckyTicket" "images" "[LLuckyTicket$Roll;") (List.mem_of_getElem? (i := 1) rfl)) (fun _ h9 => h9) rfl dX9_image_19 ?_
      refine lv_iload_n hx hb dX9_image_22 rfl (lv_at hl 1 rfl) ?_
      refine va_aldq hx hb hK hP 1 0 rfl rfl (vp_in_lit (by decide)) dX9_image_23 ?_
      refine W.eq (g2 := F0 m 24 ls (.ref i0 :: [])) (congrArg (fun v => F0 m 24 ls (va_rf v :: [])) (sf3_0 i0 i1 i2)) ?_
      refine lv_aload_n hx hb dX9_image_24 rfl (lv_at hl 0 rfl) ?_
      refine va_get (D := (dC, dI)) (ci := 7) (v := .ref cu) (C := RX9) (T := TX9) (N := 10) hx hb hts iX9_image_X9 hown hK hP 0 rfl rfl 3 (by decide) (hts (.fieldLink RX9 35 "LuckyTicket" "current" "LLuckyTicket$Roll;") (List.mem_of_getElem? (i := 6) rfl)) (fun _ h9 => h9) rfl dX9_image_25 ?_
      have hFc := va_free (wc := [(i0, .inr (1, [.int 0, .int 0, .int 0, .int 0, .int 0, .ref if0, .ref il0])), (if0, .inl (cJ0, 0, .inr (.inl jf0))), (il0, .inl (cL0, 0, .inl jl0)), (cu, .inr (1, [.int 0, .int 0, .int 0, .int 0, .int 0, .ref fa, .ref lu])), (fa, .inl (cJ, 0, .inr (.inl ff))), (lu, .inl (cL, 0, .inl lf))]) hD hS hA [6, 9, 10, 3, 4, 5] rfl
      refine va_callv (va_runV (As := [.ref cu]) (rest := []) ⟨hx, hb, hml, hown, hts⟩ (kX2_copyFrom l dC dI i0 if0 il0 cu fa lu cJ0 cL0 cJ cL jf0 ff jl0 lf (s.heap.size)) (cwV 1 hts gX9_image__X2_copyFrom_V337 rfl rfl rfl (by decide +kernel) ⟨lel 2 2 rfl, lel 85 85 rfl⟩) ⟨hw_fb, va_recv hK hP (ci := 1) (q0 := 6) rfl rfl, (hw_use hP hD hK hN [6, 9, 10, 3, 4, 5] rfl (by decide) rfl [4, 5, 2, 3] rfl)⟩ rfl rfl hl.1 rfl (lv_room (Nat.le_of_ble_eq_true rfl)) dX9_image_28 ⟨lel 0 0 rfl, lel 0 0 rfl⟩) hS (fun q _ h => hFc q h) hFc (fun u_5 t H1 locs ht hvm hwr_4 hB hz1 hk1 hS => ?_)
      obtain ⟨hP1, hK1, hD1⟩ := hB
      rw [ht] at hP1
      have hK1 := va_K.moved hvm.symm hK1
      obtain ⟨hP, hD⟩ := va_join (wr := [(h0, .inr (7, [.ref tp, .ref sc, .ref rd, .ref cu, .ref im, .ref ig, .ref sl, .ref se, .ref su, .ref fc])), (im, .inl (cR, 3, .inr (.inr (.inr (.inr (sf3 i0 i1 i2)))))), (ig, .inl (cZ, 3, .inl (fun _ => 0))), (i1, .inr (1, [.int 0, .int 0, .int 0, .int 0, .int 0, .ref if1, .ref il1])), (i2, .inr (1, [.int 0, .int 0, .int 0, .int 0, .int 0, .ref if2, .ref il2])), (if1, .inl (cJ1, 0, .inr (.inl jf1))), (il1, .inl (cL1, 0, .inl jl1)), (if2, .inl (cJ2, 0, .inr (.inl jf2))), (il2, .inl (cL2, 0, .inl jl2))]) (w1 := []) hP hD [6, 9, 10, 3, 4, 5] [0, 1, 2, 7, 8, 11, 12, 13, 14] rfl rfl (by decide) (by decide) hk1 hFc hP1 hD1
      have hK := (hK.sub (tys' := [(cR, .object RX2), (cZ, .boolean), (cJ1, .long), (cL1, .int), (cJ2, .long), (cL2, .int)]) [0, 1, 6, 7, 8, 9] rfl).app hK1
      generalize H1 = H at hP hS ⊢
      have hP : va_P (dC, dI) vwCl [(h0, .inr (7, [.ref tp, .ref sc, .ref rd, .ref cu, .ref im, .ref ig, .ref sl, .ref se, .ref su, .ref fc])), (im, .inl (cR, 3, .inr (.inr (.inr (.inr (sf3 i0 i1 i2)))))), (ig, .inl (cZ, 3, .inl (fun _ => 0))), (i1, .inr (1, [.int 0, .int 0, .int 0, .int 0, .int 0, .ref if1, .ref il1])), (i2, .inr (1, [.int 0, .int 0, .int 0, .int 0, .int 0, .ref if2, .ref il2])), (if1, .inl (cJ1, 0, .inr (.inl jf1))), (il1, .inl (cL1, 0, .inl jl1)), (if2, .inl (cJ2, 0, .inr (.inl jf2))), (il2, .inl (cL2, 0, .inl jl2))] H := hP
      have hD : va_D A [(h0, .inr (7, [.ref tp, .ref sc, .ref rd, .ref cu, .ref im, .ref ig, .ref sl, .ref se, .ref su, .ref fc])), (im, .inl (cR, 3, .inr (.inr (.inr (.inr (sf3 i0 i1 i2)))))), (ig, .inl (cZ, 3, .inl (fun _ => 0))), (i1, .inr (1, [.int 0, .int 0, .int 0, .int 0, .int 0, .ref if1, .ref il1])), (i2, .inr (1, [.int 0, .int 0, .int 0, .int 0, .int 0, .ref if2, .ref il2])), (if1, .inl (cJ1, 0, .inr (.inl jf1))), (il1, .inl (cL1, 0, .inl jl1)), (if2, .inl (cJ2, 0, .inr (.inl jf2))), (il2, .inl (cL2, 0, .inl jl2))] := hD
      have hK : va_K (dC, dI) vwCl [(cR, .object RX2), (cZ, .boolean), (cJ1, .long), (cL1, .int), (cJ2, .long), (cL2, .int)] s := hK
      refine lv_aload_n hx hb dX9_image_31 rfl (lv_at hl 0 rfl) ?_
      refine va_get (D := (dC, dI)) (ci := 7) (v := .ref ig) (C := RX9) (T := TX9) (N := 10) hx hb hts iX9_image_X9 hown hK hP 0 rfl rfl 5 (by decide) (hts (.fieldLink RX9 43 "LuckyTicket" "imaged" "[Z") (List.mem_of_getElem? (i := 27) rfl)) (fun _ h9 => h9) rfl dX9_image_32 ?_
      refine lv_iload_n hx hb dX9_image_35 rfl (lv_at hl 1 rfl) ?_
      refine lv_iconst (v := 1) hx hb dX9_image_36 (by decide) ?_
      refine va_zast hx hb hK hP hD hS 2 1 rfl rfl (vp_in_lit (by decide)) dX9_image_37 (fun H locs hP hD hS => ?_)
      have hP : va_P (dC, dI) vwCl [(h0, .inr (7, [.ref tp, .ref sc, .ref rd, .ref cu, .ref im, .ref ig, .ref sl, .ref se, .ref su, .ref fc])), (im, .inl (cR, 3, .inr (.inr (.inr (.inr (sf3 i0 i1 i2)))))), (ig, .inl (cZ, 3, .inl (upd (fun _ => 0) (0 : Int32).toNatClampNeg (vp_nar .boolean 1)))), (i1, .inr (1, [.int 0, .int 0, .int 0, .int 0, .int 0, .ref if1, .ref il1])), (i2, .inr (1, [.int 0, .int 0, .int 0, .int 0, .int 0, .ref if2, .ref il2])), (if1, .inl (cJ1, 0, .inr (.inl jf1))), (il1, .inl (cL1, 0, .inl jl1)), (if2, .inl (cJ2, 0, .inr (.inl jf2))), (il2, .inl (cL2, 0, .inl jl2))] H := hP
      have hD : va_D A [(h0, .inr (7, [.ref tp, .ref sc, .ref rd, .ref cu, .ref im, .ref ig, .ref sl, .ref se, .ref su, .ref fc])), (im, .inl (cR, 3, .inr (.inr (.inr (.inr (sf3 i0 i1 i2)))))), (ig, .inl (cZ, 3, .inl (upd (fun _ => 0) (0 : Int32).toNatClampNeg (vp_nar .boolean 1)))), (i1, .inr (1, [.int 0, .int 0, .int 0, .int 0, .int 0, .ref if1, .ref il1])), (i2, .inr (1, [.int 0, .int 0, .int 0, .int 0, .int 0, .ref if2, .ref il2])), (if1, .inl (cJ1, 0, .inr (.inl jf1))), (il1, .inl (cL1, 0, .inl jl1)), (if2, .inl (cJ2, 0, .inr (.inl jf2))), (il2, .inl (cL2, 0, .inl jl2))] := hD
      refine lv_iconst (v := 0) hx hb dX9_image_38 (by decide) ?_
      have hP9 := hP.sub (ws' := []) [] rfl
      have hD9 := hD.sub (ws' := []) [] (by decide) rfl
      have hK9 := hK.sub (tys' := []) [] rfl
      exact W.iret (v := 0) hx hb hr (fun t ht hW => ⟨⟨0, (), rfl, (by decide), by rw [ht]; exact hP9, va_K.moved hW.alike hK9, hD9⟩, hS.F ht⟩) hS.2.2 dX9_image_39
    ·
      refine lv_aload_n hx hb dX9_image_18 rfl (lv_at hl 0 rfl) ?_
      refine va_get (D := (dC, dI)) (ci := 7) (v := .ref im) (C := RX9) (T := TX9) (N := 10) hx hb hts iX9_image_X9 hown hK hP 0 rfl rfl 4 (by decide) (hts (.fieldLink RX9 39 "LuckyTicket" "images" "[LLuckyTicket$Roll;") (List.mem_of_getElem? (i := 1) rfl)) (fun _ h9 => h9) rfl dX9_image_19 ?_
      refine lv_iload_n hx hb dX9_image_22 rfl (lv_at hl 1 rfl) ?_
      refine va_aldq hx hb hK hP 1 0 rfl rfl (vp_in_lit (by decide)) dX9_image_23 ?_
      refine W.eq (g2 := F0 m 24 ls (.ref i1 :: [])) (congrArg (fun v => F0 m 24 ls (va_rf v :: [])) (sf3_1 i0 i1 i2)) ?_
      refine lv_aload_n hx hb dX9_image_24 rfl (lv_at hl 0 rfl) ?_
      refine va_get (D := (dC, dI)) (ci := 7) (v := .ref cu) (C := RX9) (T := TX9) (N := 10) hx hb hts iX9_image_X9 hown hK hP 0 rfl rfl 3 (by decide) (hts (.fieldLink RX9 35 "LuckyTicket" "current" "LLuckyTicket$Roll;") (List.mem_of_getElem? (i := 6) rfl)) (fun _ h9 => h9) rfl dX9_image_25 ?_
      have hFc := va_free (wc := [(i1, .inr (1, [.int 0, .int 0, .int 0, .int 0, .int 0, .ref if1, .ref il1])), (if1, .inl (cJ1, 0, .inr (.inl jf1))), (il1, .inl (cL1, 0, .inl jl1)), (cu, .inr (1, [.int 0, .int 0, .int 0, .int 0, .int 0, .ref fa, .ref lu])), (fa, .inl (cJ, 0, .inr (.inl ff))), (lu, .inl (cL, 0, .inl lf))]) hD hS hA [7, 11, 12, 3, 4, 5] rfl
      refine va_callv (va_runV (As := [.ref cu]) (rest := []) ⟨hx, hb, hml, hown, hts⟩ (kX2_copyFrom l dC dI i1 if1 il1 cu fa lu cJ1 cL1 cJ cL jf1 ff jl1 lf (s.heap.size)) (cwV 1 hts gX9_image__X2_copyFrom_V337 rfl rfl rfl (by decide +kernel) ⟨lel 2 2 rfl, lel 85 85 rfl⟩) ⟨hw_fb, va_recv hK hP (ci := 1) (q0 := 7) rfl rfl, (hw_use hP hD hK hN [7, 11, 12, 3, 4, 5] rfl (by decide) rfl [6, 7, 2, 3] rfl)⟩ rfl rfl hl.1 rfl (lv_room (Nat.le_of_ble_eq_true rfl)) dX9_image_28 ⟨lel 0 0 rfl, lel 0 0 rfl⟩) hS (fun q _ h => hFc q h) hFc (fun u_7 t H1 locs ht hvm hwr_6 hB hz1 hk1 hS => ?_)
      obtain ⟨hP1, hK1, hD1⟩ := hB
      rw [ht] at hP1
      have hK1 := va_K.moved hvm.symm hK1
      obtain ⟨hP, hD⟩ := va_join (wr := [(h0, .inr (7, [.ref tp, .ref sc, .ref rd, .ref cu, .ref im, .ref ig, .ref sl, .ref se, .ref su, .ref fc])), (im, .inl (cR, 3, .inr (.inr (.inr (.inr (sf3 i0 i1 i2)))))), (ig, .inl (cZ, 3, .inl (fun _ => 0))), (i0, .inr (1, [.int 0, .int 0, .int 0, .int 0, .int 0, .ref if0, .ref il0])), (i2, .inr (1, [.int 0, .int 0, .int 0, .int 0, .int 0, .ref if2, .ref il2])), (if0, .inl (cJ0, 0, .inr (.inl jf0))), (il0, .inl (cL0, 0, .inl jl0)), (if2, .inl (cJ2, 0, .inr (.inl jf2))), (il2, .inl (cL2, 0, .inl jl2))]) (w1 := []) hP hD [7, 11, 12, 3, 4, 5] [0, 1, 2, 6, 8, 9, 10, 13, 14] rfl rfl (by decide) (by decide) hk1 hFc hP1 hD1
      have hK := (hK.sub (tys' := [(cR, .object RX2), (cZ, .boolean), (cJ0, .long), (cL0, .int), (cJ2, .long), (cL2, .int)]) [0, 1, 4, 5, 8, 9] rfl).app hK1
      generalize H1 = H at hP hS ⊢
      have hP : va_P (dC, dI) vwCl [(h0, .inr (7, [.ref tp, .ref sc, .ref rd, .ref cu, .ref im, .ref ig, .ref sl, .ref se, .ref su, .ref fc])), (im, .inl (cR, 3, .inr (.inr (.inr (.inr (sf3 i0 i1 i2)))))), (ig, .inl (cZ, 3, .inl (fun _ => 0))), (i0, .inr (1, [.int 0, .int 0, .int 0, .int 0, .int 0, .ref if0, .ref il0])), (i2, .inr (1, [.int 0, .int 0, .int 0, .int 0, .int 0, .ref if2, .ref il2])), (if0, .inl (cJ0, 0, .inr (.inl jf0))), (il0, .inl (cL0, 0, .inl jl0)), (if2, .inl (cJ2, 0, .inr (.inl jf2))), (il2, .inl (cL2, 0, .inl jl2))] H := hP
      have hD : va_D A [(h0, .inr (7, [.ref tp, .ref sc, .ref rd, .ref cu, .ref im, .ref ig, .ref sl, .ref se, .ref su, .ref fc])), (im, .inl (cR, 3, .inr (.inr (.inr (.inr (sf3 i0 i1 i2)))))), (ig, .inl (cZ, 3, .inl (fun _ => 0))), (i0, .inr (1, [.int 0, .int 0, .int 0, .int 0, .int 0, .ref if0, .ref il0])), (i2, .inr (1, [.int 0, .int 0, .int 0, .int 0, .int 0, .ref if2, .ref il2])), (if0, .inl (cJ0, 0, .inr (.inl jf0))), (il0, .inl (cL0, 0, .inl jl0)), (if2, .inl (cJ2, 0, .inr (.inl jf2))), (il2, .inl (cL2, 0, .inl jl2))] := hD
      have hK : va_K (dC, dI) vwCl [(cR, .object RX2), (cZ, .boolean), (cJ0, .long), (cL0, .int), (cJ2, .long), (cL2, .int)] s := hK
      refine lv_aload_n hx hb dX9_image_31 rfl (lv_at hl 0 rfl) ?_
      refine va_get (D := (dC, dI)) (ci := 7) (v := .ref ig) (C := RX9) (T := TX9) (N := 10) hx hb hts iX9_image_X9 hown hK hP 0 rfl rfl 5 (by decide) (hts (.fieldLink RX9 43 "LuckyTicket" "imaged" "[Z") (List.mem_of_getElem? (i := 27) rfl)) (fun _ h9 => h9) rfl dX9_image_32 ?_
      refine lv_iload_n hx hb dX9_image_35 rfl (lv_at hl 1 rfl) ?_
      refine lv_iconst (v := 1) hx hb dX9_image_36 (by decide) ?_
      refine va_zast hx hb hK hP hD hS 2 1 rfl rfl (vp_in_lit (by decide)) dX9_image_37 (fun H locs hP hD hS => ?_)
      have hP : va_P (dC, dI) vwCl [(h0, .inr (7, [.ref tp, .ref sc, .ref rd, .ref cu, .ref im, .ref ig, .ref sl, .ref se, .ref su, .ref fc])), (im, .inl (cR, 3, .inr (.inr (.inr (.inr (sf3 i0 i1 i2)))))), (ig, .inl (cZ, 3, .inl (upd (fun _ => 0) (1 : Int32).toNatClampNeg (vp_nar .boolean 1)))), (i0, .inr (1, [.int 0, .int 0, .int 0, .int 0, .int 0, .ref if0, .ref il0])), (i2, .inr (1, [.int 0, .int 0, .int 0, .int 0, .int 0, .ref if2, .ref il2])), (if0, .inl (cJ0, 0, .inr (.inl jf0))), (il0, .inl (cL0, 0, .inl jl0)), (if2, .inl (cJ2, 0, .inr (.inl jf2))), (il2, .inl (cL2, 0, .inl jl2))] H := hP
      have hD : va_D A [(h0, .inr (7, [.ref tp, .ref sc, .ref rd, .ref cu, .ref im, .ref ig, .ref sl, .ref se, .ref su, .ref fc])), (im, .inl (cR, 3, .inr (.inr (.inr (.inr (sf3 i0 i1 i2)))))), (ig, .inl (cZ, 3, .inl (upd (fun _ => 0) (1 : Int32).toNatClampNeg (vp_nar .boolean 1)))), (i0, .inr (1, [.int 0, .int 0, .int 0, .int 0, .int 0, .ref if0, .ref il0])), (i2, .inr (1, [.int 0, .int 0, .int 0, .int 0, .int 0, .ref if2, .ref il2])), (if0, .inl (cJ0, 0, .inr (.inl jf0))), (il0, .inl (cL0, 0, .inl jl0)), (if2, .inl (cJ2, 0, .inr (.inl jf2))), (il2, .inl (cL2, 0, .inl jl2))] := hD
      refine lv_iconst (v := 0) hx hb dX9_image_38 (by decide) ?_
      have hP9 := hP.sub (ws' := []) [] rfl
      have hD9 := hD.sub (ws' := []) [] (by decide) rfl
      have hK9 := hK.sub (tys' := []) [] rfl
      exact W.iret (v := 0) hx hb hr (fun t ht hW => ⟨⟨0, (), rfl, (by decide), by rw [ht]; exact hP9, va_K.moved hW.alike hK9, hD9⟩, hS.F ht⟩) hS.2.2 dX9_image_39
    ·
      refine lv_aload_n hx hb dX9_image_18 rfl (lv_at hl 0 rfl) ?_
      refine va_get (D := (dC, dI)) (ci := 7) (v := .ref im) (C := RX9) (T := TX9) (N := 10) hx hb hts iX9_image_X9 hown hK hP 0 rfl rfl 4 (by decide) (hts (.fieldLink RX9 39 "LuckyTicket" "images" "[LLuckyTicket$Roll;") (List.mem_of_getElem? (i := 1) rfl)) (fun _ h9 => h9) rfl dX9_image_19 ?_
      refine lv_iload_n hx hb dX9_image_22 rfl (lv_at hl 1 rfl) ?_
      refine va_aldq hx hb hK hP 1 0 rfl rfl (vp_in_lit (by decide)) dX9_image_23 ?_
      refine W.eq (g2 := F0 m 24 ls (.ref i2 :: [])) (congrArg (fun v => F0 m 24 ls (va_rf v :: [])) (sf3_2 i0 i1 i2)) ?_
      refine lv_aload_n hx hb dX9_image_24 rfl (lv_at hl 0 rfl) ?_
      refine va_get (D := (dC, dI)) (ci := 7) (v := .ref cu) (C := RX9) (T := TX9) (N := 10) hx hb hts iX9_image_X9 hown hK hP 0 rfl rfl 3 (by decide) (hts (.fieldLink RX9 35 "LuckyTicket" "current" "LLuckyTicket$Roll;") (List.mem_of_getElem? (i := 6) rfl)) (fun _ h9 => h9) rfl dX9_image_25 ?_
      have hFc := va_free (wc := [(i2, .inr (1, [.int 0, .int 0, .int 0, .int 0, .int 0, .ref if2, .ref il2])), (if2, .inl (cJ2, 0, .inr (.inl jf2))), (il2, .inl (cL2, 0, .inl jl2)), (cu, .inr (1, [.int 0, .int 0, .int 0, .int 0, .int 0, .ref fa, .ref lu])), (fa, .inl (cJ, 0, .inr (.inl ff))), (lu, .inl (cL, 0, .inl lf))]) hD hS hA [8, 13, 14, 3, 4, 5] rfl
      refine va_callv (va_runV (As := [.ref cu]) (rest := []) ⟨hx, hb, hml, hown, hts⟩ (kX2_copyFrom l dC dI i2 if2 il2 cu fa lu cJ2 cL2 cJ cL jf2 ff jl2 lf (s.heap.size)) (cwV 1 hts gX9_image__X2_copyFrom_V337 rfl rfl rfl (by decide +kernel) ⟨lel 2 2 rfl, lel 85 85 rfl⟩) ⟨hw_fb, va_recv hK hP (ci := 1) (q0 := 8) rfl rfl, (hw_use hP hD hK hN [8, 13, 14, 3, 4, 5] rfl (by decide) rfl [8, 9, 2, 3] rfl)⟩ rfl rfl hl.1 rfl (lv_room (Nat.le_of_ble_eq_true rfl)) dX9_image_28 ⟨lel 0 0 rfl, lel 0 0 rfl⟩) hS (fun q _ h => hFc q h) hFc (fun u_9 t H1 locs ht hvm hwr_8 hB hz1 hk1 hS => ?_)
      obtain ⟨hP1, hK1, hD1⟩ := hB
      rw [ht] at hP1
      have hK1 := va_K.moved hvm.symm hK1
      obtain ⟨hP, hD⟩ := va_join (wr := [(h0, .inr (7, [.ref tp, .ref sc, .ref rd, .ref cu, .ref im, .ref ig, .ref sl, .ref se, .ref su, .ref fc])), (im, .inl (cR, 3, .inr (.inr (.inr (.inr (sf3 i0 i1 i2)))))), (ig, .inl (cZ, 3, .inl (fun _ => 0))), (i0, .inr (1, [.int 0, .int 0, .int 0, .int 0, .int 0, .ref if0, .ref il0])), (i1, .inr (1, [.int 0, .int 0, .int 0, .int 0, .int 0, .ref if1, .ref il1])), (if0, .inl (cJ0, 0, .inr (.inl jf0))), (il0, .inl (cL0, 0, .inl jl0)), (if1, .inl (cJ1, 0, .inr (.inl jf1))), (il1, .inl (cL1, 0, .inl jl1))]) (w1 := []) hP hD [8, 13, 14, 3, 4, 5] [0, 1, 2, 6, 7, 9, 10, 11, 12] rfl rfl (by decide) (by decide) hk1 hFc hP1 hD1
      have hK := (hK.sub (tys' := [(cR, .object RX2), (cZ, .boolean), (cJ0, .long), (cL0, .int), (cJ1, .long), (cL1, .int)]) [0, 1, 4, 5, 6, 7] rfl).app hK1
      generalize H1 = H at hP hS ⊢
      have hP : va_P (dC, dI) vwCl [(h0, .inr (7, [.ref tp, .ref sc, .ref rd, .ref cu, .ref im, .ref ig, .ref sl, .ref se, .ref su, .ref fc])), (im, .inl (cR, 3, .inr (.inr (.inr (.inr (sf3 i0 i1 i2)))))), (ig, .inl (cZ, 3, .inl (fun _ => 0))), (i0, .inr (1, [.int 0, .int 0, .int 0, .int 0, .int 0, .ref if0, .ref il0])), (i1, .inr (1, [.int 0, .int 0, .int 0, .int 0, .int 0, .ref if1, .ref il1])), (if0, .inl (cJ0, 0, .inr (.inl jf0))), (il0, .inl (cL0, 0, .inl jl0)), (if1, .inl (cJ1, 0, .inr (.inl jf1))), (il1, .inl (cL1, 0, .inl jl1))] H := hP
      have hD : va_D A [(h0, .inr (7, [.ref tp, .ref sc, .ref rd, .ref cu, .ref im, .ref ig, .ref sl, .ref se, .ref su, .ref fc])), (im, .inl (cR, 3, .inr (.inr (.inr (.inr (sf3 i0 i1 i2)))))), (ig, .inl (cZ, 3, .inl (fun _ => 0))), (i0, .inr (1, [.int 0, .int 0, .int 0, .int 0, .int 0, .ref if0, .ref il0])), (i1, .inr (1, [.int 0, .int 0, .int 0, .int 0, .int 0, .ref if1, .ref il1])), (if0, .inl (cJ0, 0, .inr (.inl jf0))), (il0, .inl (cL0, 0, .inl jl0)), (if1, .inl (cJ1, 0, .inr (.inl jf1))), (il1, .inl (cL1, 0, .inl jl1))] := hD
      have hK : va_K (dC, dI) vwCl [(cR, .object RX2), (cZ, .boolean), (cJ0, .long), (cL0, .int), (cJ1, .long), (cL1, .int)] s := hK
      refine lv_aload_n hx hb dX9_image_31 rfl (lv_at hl 0 rfl) ?_
      refine va_get (D := (dC, dI)) (ci := 7) (v := .ref ig) (C := RX9) (T := TX9) (N := 10) hx hb hts iX9_image_X9 hown hK hP 0 rfl rfl 5 (by decide) (hts (.fieldLink RX9 43 "LuckyTicket" "imaged" "[Z") (List.mem_of_getElem? (i := 27) rfl)) (fun _ h9 => h9) rfl dX9_image_32 ?_
      refine lv_iload_n hx hb dX9_image_35 rfl (lv_at hl 1 rfl) ?_
      refine lv_iconst (v := 1) hx hb dX9_image_36 (by decide) ?_
      refine va_zast hx hb hK hP hD hS 2 1 rfl rfl (vp_in_lit (by decide)) dX9_image_37 (fun H locs hP hD hS => ?_)
      have hP : va_P (dC, dI) vwCl [(h0, .inr (7, [.ref tp, .ref sc, .ref rd, .ref cu, .ref im, .ref ig, .ref sl, .ref se, .ref su, .ref fc])), (im, .inl (cR, 3, .inr (.inr (.inr (.inr (sf3 i0 i1 i2)))))), (ig, .inl (cZ, 3, .inl (upd (fun _ => 0) (2 : Int32).toNatClampNeg (vp_nar .boolean 1)))), (i0, .inr (1, [.int 0, .int 0, .int 0, .int 0, .int 0, .ref if0, .ref il0])), (i1, .inr (1, [.int 0, .int 0, .int 0, .int 0, .int 0, .ref if1, .ref il1])), (if0, .inl (cJ0, 0, .inr (.inl jf0))), (il0, .inl (cL0, 0, .inl jl0)), (if1, .inl (cJ1, 0, .inr (.inl jf1))), (il1, .inl (cL1, 0, .inl jl1))] H := hP
      have hD : va_D A [(h0, .inr (7, [.ref tp, .ref sc, .ref rd, .ref cu, .ref im, .ref ig, .ref sl, .ref se, .ref su, .ref fc])), (im, .inl (cR, 3, .inr (.inr (.inr (.inr (sf3 i0 i1 i2)))))), (ig, .inl (cZ, 3, .inl (upd (fun _ => 0) (2 : Int32).toNatClampNeg (vp_nar .boolean 1)))), (i0, .inr (1, [.int 0, .int 0, .int 0, .int 0, .int 0, .ref if0, .ref il0])), (i1, .inr (1, [.int 0, .int 0, .int 0, .int 0, .int 0, .ref if1, .ref il1])), (if0, .inl (cJ0, 0, .inr (.inl jf0))), (il0, .inl (cL0, 0, .inl jl0)), (if1, .inl (cJ1, 0, .inr (.inl jf1))), (il1, .inl (cL1, 0, .inl jl1))] := hD
      refine lv_iconst (v := 0) hx hb dX9_image_38 (by decide) ?_
      have hP9 := hP.sub (ws' := []) [] rfl
      have hD9 := hD.sub (ws' := []) [] (by decide) rfl
      have hK9 := hK.sub (tys' := []) [] rfl
      exact W.iret (v := 0) hx hb hr (fun t ht hW => ⟨⟨0, (), rfl, (by decide), by rw [ht]; exact hP9, va_K.moved hW.alike hK9, hD9⟩, hS.F ht⟩) hS.2.2 dX9_image_39
  ·
    refine lv_bipush (v := (-2)) hx hb dX9_image_15 (by decide) ?_
    have hP9 := hP.sub (ws' := []) [] rfl
    have hD9 := hD.sub (ws' := []) [] (by decide) rfl
    have hK9 := hK.sub (tys' := []) [] rfl
    exact W.iret (v := (-2)) hx hb hr (fun t ht hW => ⟨⟨(-2), (), rfl, (if_pos (hr_2.symm.trans c_3)).symm, by rw [ht]; exact hP9, va_K.moved hW.alike hK9, hD9⟩, hS.F ht⟩) hS.2.2 dX9_image_17
