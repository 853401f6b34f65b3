section LPW
variable {p : Program} {l : Launch} {e : Env} {R : Room} {s : State} {m : MethodId} {args : Array Value} {below : List Frame} {meth : Method} {c : Code} {cells slots : Nat} {Q : State → Prop}
theorem loopW {pc : Nat} {st : List Value} {σ : Type} (mu : σ → Nat) (I : σ → Heap → List Loc → Array Slot → Prop) (hs : ∀ v H locs ls, I v H locs ls → (∀ v' H' locs' ls', I v' H' locs' ls' → mu v' < mu v → W p l e R s m args below meth c H' locs' cells slots Q (F0 m pc ls' st)) → W p l e R s m args below meth c H locs cells slots Q (F0 m pc ls st)) (v : σ) {H : Heap} {locs : List Loc} {ls : Array Slot} (h : I v H locs ls) : W p l e R s m args below meth c H locs cells slots Q (F0 m pc ls st) := by
  have key : ∀ n v H locs ls, mu v < n → I v H locs ls → W p l e R s m args below meth c H locs cells slots Q (F0 m pc ls st) := by
    intro n
    induction n with
    | zero => intro v H locs ls h; exact absurd h (Nat.not_lt_zero _)
    | succ n ih => intro v H locs ls h hI; exact hs v H locs ls hI (fun v' H' locs' ls' hI' h' => ih v' H' locs' ls' (by omega) hI')
  exact key (mu v + 1) v _ _ _ (Nat.lt_succ_self _) h
theorem loopP {H : Heap} {locs : List Loc} {pc : Nat} {st : List Value} {σ : Type} (mu : σ → Nat) (I : σ → Array Slot → Prop) (hs : ∀ v ls, I v ls → (∀ v' ls', I v' ls' → mu v' < mu v → W p l e R s m args below meth c H locs cells slots Q (F0 m pc ls' st)) → W p l e R s m args below meth c H locs cells slots Q (F0 m pc ls st)) (v : σ) {ls : Array Slot} (h : I v ls) : W p l e R s m args below meth c H locs cells slots Q (F0 m pc ls st) := by
  have key : ∀ n v ls, mu v < n → I v ls → W p l e R s m args below meth c H locs cells slots Q (F0 m pc ls st) := by
    intro n
    induction n with
    | zero => intro v ls h; exact absurd h (Nat.not_lt_zero _)
    | succ n ih => intro v ls h hI; exact hs v ls hI (fun v' ls' hI' h' => ih v' ls' (by omega) hI')
  exact key (mu v + 1) v _ (Nat.lt_succ_self _) h
end LPW
theorem cell_i {cA : ClassId} {n : Nat} {f g : Nat → Int32} (h : ∀ j, j < n → f j = g j) : vp_cell cA (n, .inl f) = vp_cell cA (n, .inl g) := by
  have e : (fun j : Fin n => Value.int (f j.val)) = fun j => .int (g j.val) := funext (fun j => by rw [h j.val j.isLt])
  rw [vp_cell_i, vp_cell_i]; unfold arrV; rw [e]
theorem P_i {D : va_G} {cl : List vw_C} {ws : va_W} {H : Heap} {a : Nat} {cA : ClassId} {n : Nat} {f g : Nat → Int32} (k : Nat) (hP : va_P D cl ws H) (he : ws[k]? = some (a, .inl (cA, n, .inl f))) (h : ∀ j, j < n → f j = g j) : va_P D cl (ws.set k (a, .inl (cA, n, .inl g))) H := by
  intro i q hq
  by_cases e : i = k
  · subst e
    have hl : i < ws.length := (List.getElem?_eq_some_iff.mp he).1
    rw [List.getElem?_set_self hl] at hq
    cases hq
    have q1 : H[a]? = some (vp_cell cA (n, .inl f)) := hP i _ he
    show H[a]? = some (vp_cell cA (n, .inl g))
    rw [q1, cell_i h]
  · rw [List.getElem?_set_ne (Ne.symm e)] at hq; exact hP i q hq
theorem D_i {A : Nat → Prop} {ws : va_W} {a : Nat} {x y : va_E} (k : Nat) (hD : va_D A ws) (he : ws[k]? = some (a, x)) : va_D A (ws.set k (a, y)) := by
  have hl : k < ws.length := (List.getElem?_eq_some_iff.mp he).1
  have key : ∀ (i : Nat) (q : Nat × va_E), (ws.set k (a, y))[i]? = some q → ∃ r : Nat × va_E, ws[i]? = some r ∧ r.1 = q.1 := by
    intro i q hq
    by_cases e : i = k
    · subst e
      rw [List.getElem?_set_self hl] at hq
      cases hq
      exact ⟨_, he, rfl⟩
    · rw [List.getElem?_set_ne (Ne.symm e)] at hq; exact ⟨q, hq, rfl⟩
  refine ⟨fun i j p q hp hq h => ?_, fun i q hq => ?_⟩
  · obtain ⟨p', hp1, hp2⟩ := key i p hp
    obtain ⟨q', hq1, hq2⟩ := key j q hq
    exact hD.1 i j p' q' hp1 hq1 (by rw [hp2, hq2]; exact h)
  · obtain ⟨q', hq1, hq2⟩ := key i q hq
    rw [← hq2]; exact hD.2 i q' hq1
theorem upd0 {f : Nat → Int32} {i : Nat} {x : Int32} (hi : i < 2 ^ 31) (hx : x = 0) (h : ∀ j, j < i → f j = 0) : ∀ j, j < i + 1 → upd f (nI i).toNatClampNeg x j = 0 := by
  intro j hj
  rw [nI_clamp hi]
  by_cases e : j = i
  · rw [e, pk_us]; exact hx
  · rw [pk_un e]; exact h j (by omega)
theorem updz {f : Nat → Int32} {N i : Nat} {x : Int32} (hx : x = 0) (h : ∀ j, j < N → f j = 0) : ∀ j, j < N → upd f i x j = 0 := by
  intro j hj
  by_cases e : j = i
  · rw [e, pk_us]; exact hx
  · rw [pk_un e]; exact h j hj
def rw3 (a1 a2 a3 : Int32) : Int32 := if wi a1 0 3 = 0 ∨ wi a2 0 3 = 0 ∨ ¬ a3 ≤ 60 then -2 else if a3 < 0 then -3 else 0
theorem rw_a {a1 a2 a3 : Int32} (h : wi a1 0 3 = 0) : (-2 : Int32) = rw3 a1 a2 a3 := (if_pos (Or.inl h)).symm
theorem rw_b {a1 a2 a3 : Int32} (h : wi a2 0 3 = 0) : (-2 : Int32) = rw3 a1 a2 a3 := (if_pos (Or.inr (Or.inl h))).symm
theorem rw_c {a1 a2 a3 : Int32} (h : ¬ a3 ≤ 60) : (-2 : Int32) = rw3 a1 a2 a3 := (if_pos (Or.inr (Or.inr h))).symm
theorem rw_d {a1 a2 a3 : Int32} (h1 : ¬ wi a1 0 3 = 0) (h2 : ¬ wi a2 0 3 = 0) (h3 : a3 ≤ 60) (h4 : ¬ 0 ≤ a3) : (-3 : Int32) = rw3 a1 a2 a3 := by
  unfold rw3; rw [if_neg (fun q => q.elim h1 (fun q => q.elim h2 (fun q => q h3))), if_pos (fa_nle h4)]
theorem rw_e {a1 a2 a3 : Int32} (h1 : ¬ wi a1 0 3 = 0) (h2 : ¬ wi a2 0 3 = 0) (h3 : a3 ≤ 60) (h4 : 0 ≤ a3) : (0 : Int32) = rw3 a1 a2 a3 := by
  unfold rw3; rw [if_neg (fun q => q.elim h1 (fun q => q.elim h2 (fun q => q h3))), if_neg (fun q => fa_not q h4)]
def im3 (a : Int32) : Int32 := if wi a 0 2 = 0 then -2 else 0
theorem dX9_end_0 : decode cX9_end 0 = .ok (.iload_n 1, 1) := by decide +kernel
theorem dX9_end_1 : decode cX9_end 1 = .ok (.ifCond .lt 14, 3) := by decide +kernel
theorem dX9_end_4 : decode cX9_end 4 = .ok (.iload_n 1, 1) := by decide +kernel
theorem dX9_end_5 : decode cX9_end 5 = .ok (.aload_n 0, 1) := by decide +kernel
theorem dX9_end_6 : decode cX9_end 6 = .ok (.getfield 10, 3) := by decide +kernel
theorem dX9_end_9 : decode cX9_end 9 = .ok (.getfield 80, 3) := by decide +kernel
theorem dX9_end_12 : decode cX9_end 12 = .ok (.if_icmp .le 5, 3) := by decide +kernel
theorem dX9_end_15 : decode cX9_end 15 = .ok (.iconst (-1), 1) := by decide +kernel
theorem dX9_end_16 : decode cX9_end 16 = .ok (.ireturn, 1) := by decide +kernel
theorem dX9_end_17 : decode cX9_end 17 = .ok (.aload_n 0, 1) := by decide +kernel
theorem dX9_end_18 : decode cX9_end 18 = .ok (.getfield 10, 3) := by decide +kernel
theorem dX9_end_21 : decode cX9_end 21 = .ok (.iload_n 1, 1) := by decide +kernel
theorem dX9_end_22 : decode cX9_end 22 = .ok (.putfield 80, 3) := by decide +kernel
theorem dX9_end_25 : decode cX9_end 25 = .ok (.iload_n 1, 1) := by decide +kernel
theorem dX9_end_26 : decode cX9_end 26 = .ok (.ireturn, 1) := by decide +kernel
def uX9_end : List Cond := .code yX9_end cX9_end 2 (some .int) :: ([.fieldLink RX9 10 "LuckyTicket" "tape" "LLuckyTicket$Tape;"] ++ wsX90 ++ wsX70)
theorem iX9_end_X9 : ∀ w ∈ wsX90, w ∈ uX9_end := fun _ h => List.mem_cons_of_mem _ (List.mem_append_left _ (List.mem_append_right _ h))
theorem iX9_end_X7 : ∀ w ∈ wsX70, w ∈ uX9_end := fun _ h => List.mem_cons_of_mem _ (List.mem_append_right _ h)
set_option maxHeartbeats 4000000 in
set_option maxRecDepth 100000 in
theorem kX9_end (l : Launch) (dC : Nat → ClassId) (dI : Nat → Nat → Nat) (h0 : Nat) (tp : Nat) (sc : Nat) (rd : Nat) (cu : Nat) (im : Nat) (ig : Nat) (sl : Nat) (se : Nat) (su : Nat) (fc : Nat) (tb : Nat) (a1 : Int32) (sz : Nat) : Met l yX9_end uX9_end ({ frames := 0, cells := 0, slots := 0, locals := 0 }) (va_Pc [.ref h0, .int a1] (hw (dC, dI) vwCl [(h0, .inr (7, [.ref tp, .ref sc, .ref rd, .ref cu, .ref im, .ref ig, .ref sl, .ref se, .ref su, .ref fc])), (tp, .inr (6, [.ref tb, .int 0]))] [] sz)) (va_Qi (fun (r : Int32) (_ : Unit) => r = fz a1) (fun (_ : Unit) t => va_P (dC, dI) vwCl [] t.heap ∧ va_K (dC, dI) vwCl [] t ∧ va_D (va_A [(h0, .inr (7, [.ref tp, .ref sc, .ref rd, .ref cu, .ref im, .ref ig, .ref sl, .ref se, .ref su, .ref fc])), (tp, .inr (6, [.ref tb, .int 0]))] sz) []) (va_A [(h0, .inr (7, [.ref tp, .ref sc, .ref rd, .ref cu, .ref im, .ref ig, .ref sl, .ref se, .ref su, .ref fc])), (tp, .inr (6, [.ref tb, .int 0]))] sz)) 0 0 (va_A [(h0, .inr (7, [.ref tp, .ref sc, .ref rd, .ref cu, .ref im, .ref ig, .ref sl, .ref se, .ref su, .ref fc])), (tp, .inr (6, [.ref tb, .int 0]))] sz) := by
  refine Met.ofW (cc := cX9_end) (maxL := 2) (ret := (some .int)) (by decide) rfl ?_
  intro p e s m args below meth c s₁ B hml hv
  obtain ⟨rfl, hsz, hP, hK, hD0, hN⟩ := hv
  have hx := B.exec
  have hb := B.bytes
  have hr := B.returns
  have hts := atoms_spec (ws := uX9_end) B.pre
  have hown : s.vm.findClass RX9 = some m.cls := findClass_of_methodNamed B.named
  have hlocks := B.notSynchronized
  subst hsz
  have hD := hD0.self (sz := s.heap.size)
  generalize hAe : va_A [(h0, .inr (7, [.ref tp, .ref sc, .ref rd, .ref cu, .ref im, .ref ig, .ref sl, .ref se, .ref su, .ref fc])), (tp, .inr (6, [.ref tb, .int 0]))] s.heap.size = A at hD ⊢
  have hA : ∀ q : Nat, s.heap.size ≤ q → A q := fun q h => by rw [← hAe]; exact Or.inr h
  have hS : va_S A s.heap s.heap [] := va_S.rf
  have hP : va_P (dC, dI) vwCl [(h0, .inr (7, [.ref tp, .ref sc, .ref rd, .ref cu, .ref im, .ref ig, .ref sl, .ref se, .ref su, .ref fc])), (tp, .inr (6, [.ref tb, .int 0]))] s.heap := hP
  have hl := lv_entry ([.ref h0, .int a1]) (n := 2) (Nat.le_of_ble_eq_true rfl)
  rw [lg_entry_eq]
  generalize (lg_sl ([.ref h0, .int a1]) ++ List.replicate (2 - (lg_sl ([.ref h0, .int a1])).length) Slot.unset).toArray = ls at hl ⊢
  have hl : lv_has ls 2 [(0, .ref h0), (1, .int a1)] := hl
  refine lv_iload_n hx hb dX9_end_0 rfl (lv_at hl 1 rfl) ?_
  refine lv_if_lt (tgt := 15) hx hb dX9_end_1 (by decide) (fun c_1 => ?_) (fun c_1 => ?_)
  ·
    refine lv_iconst (v := (-1)) hx hb dX9_end_15 (by decide) ?_
    have hP9 := hP.sub (ws' := []) [] rfl
    have hD9 := hD.sub (ws' := []) [] (by decide) rfl
    have hK9 := hK.sub (tys' := []) [] rfl
    exact W.iret (v := (-1)) hx hb hr (fun t ht hW => ⟨⟨(-1), (), rfl, fz_lt c_1, by rw [ht]; exact hP9, va_K.moved hW.alike hK9, hD9⟩, hS.F ht⟩) hS.2.2 dX9_end_16
  ·
    refine lv_iload_n hx hb dX9_end_4 rfl (lv_at hl 1 rfl) ?_
    refine lv_aload_n hx hb dX9_end_5 rfl (lv_at hl 0 rfl) ?_
    refine va_get (D := (dC, dI)) (ci := 7) (v := .ref tp) (C := RX9) (T := TX9) (N := 10) hx hb hts iX9_end_X9 hown hK hP 0 rfl rfl 0 (by decide) (hts (.fieldLink RX9 10 "LuckyTicket" "tape" "LLuckyTicket$Tape;") (List.mem_of_getElem? (i := 1) rfl)) (fun _ h9 => h9) rfl dX9_end_6 ?_
    refine va_getN (own := RX9) (index := 80) (ref := RX7) (host := RX9) (D := (dC, dI)) (ci := 6) (v := .int 0) (C := RX7) (T := TX7) (N := 2) hx hb hts iX9_end_X7 hown hK hP 1 rfl rfl 1 (by decide) (va_Nw.use rfl (hN _ (List.mem_of_getElem? (i := 1) rfl))) (fun _ h9 => h9) rfl dX9_end_9 ?_
    refine lv_icmp_le (tgt := 17) hx hb dX9_end_12 (by decide) (fun c_2 => ?_) (fun c_2 => ?_)
    ·
      refine lv_aload_n hx hb dX9_end_17 rfl (lv_at hl 0 rfl) ?_
      refine va_get (D := (dC, dI)) (ci := 7) (v := .ref tp) (C := RX9) (T := TX9) (N := 10) hx hb hts iX9_end_X9 hown hK hP 0 rfl rfl 0 (by decide) (hts (.fieldLink RX9 10 "LuckyTicket" "tape" "LLuckyTicket$Tape;") (List.mem_of_getElem? (i := 1) rfl)) (fun _ h9 => h9) rfl dX9_end_18 ?_
      refine lv_iload_n hx hb dX9_end_21 rfl (lv_at hl 1 rfl) ?_
      refine va_putN (own := RX9) (index := 80) (ref := RX7) (host := RX9) (D := (dC, dI)) (ci := 6) (v := .int a1) (ty := .int) (C := RX7) (T := TX7) (N := 2) hx hb hts iX9_end_X7 tyX7 tyX7_ok nmX7 hown hK hP hD hS 1 rfl rfl 1 (by decide) (va_Nw.use rfl (hN _ (List.mem_of_getElem? (i := 1) rfl))) (fun _ h9 => h9) rfl (by decide +kernel) rfl rfl (Nat.le_of_ble_eq_true rfl) dX9_end_22 (fun H locs hP hD hS => ?_)
      have hP : va_P (dC, dI) vwCl [(h0, .inr (7, [.ref tp, .ref sc, .ref rd, .ref cu, .ref im, .ref ig, .ref sl, .ref se, .ref su, .ref fc])), (tp, .inr (6, [.ref tb, .int a1]))] H := hP
      have hD : va_D A [(h0, .inr (7, [.ref tp, .ref sc, .ref rd, .ref cu, .ref im, .ref ig, .ref sl, .ref se, .ref su, .ref fc])), (tp, .inr (6, [.ref tb, .int a1]))] := hD
      refine lv_iload_n hx hb dX9_end_25 rfl (lv_at hl 1 rfl) ?_
      have hP9 := hP.sub (ws' := []) [] rfl
      have hD9 := hD.sub (ws' := []) [] (by decide) rfl
      have hK9 := hK.sub (tys' := []) [] rfl
      exact W.iret (v := a1) hx hb hr (fun t ht hW => ⟨⟨a1, (), rfl, fz_ge c_1 c_2, by rw [ht]; exact hP9, va_K.moved hW.alike hK9, hD9⟩, hS.F ht⟩) hS.2.2 dX9_end_26
    ·
      refine lv_iconst (v := (-1)) hx hb dX9_end_15 (by decide) ?_
      have hP9 := hP.sub (ws' := []) [] rfl
      have hD9 := hD.sub (ws' := []) [] (by decide) rfl
      have hK9 := hK.sub (tys' := []) [] rfl
      exact W.iret (v := (-1)) hx hb hr (fun t ht hW => ⟨⟨(-1), (), rfl, fz_gt c_2, by rw [ht]; exact hP9, va_K.moved hW.alike hK9, hD9⟩, hS.F ht⟩) hS.2.2 dX9_end_16
theorem dX10_end_0 : decode cX10_end 0 = .ok (.iload_n 1, 1) := by decide +kernel
theorem dX10_end_1 : decode cX10_end 1 = .ok (.i2l, 1) := by decide +kernel
theorem dX10_end_2 : decode cX10_end 2 = .ok (.lconst 0, 1) := by decide +kernel
theorem dX10_end_3 : decode cX10_end 3 = .ok (.aload_n 0, 1) := by decide +kernel
theorem dX10_end_4 : decode cX10_end 4 = .ok (.getfield 97, 3) := by decide +kernel
theorem dX10_end_7 : decode cX10_end 7 = .ok (.i2l, 1) := by decide +kernel
theorem dX10_end_8 : decode cX10_end 8 = .ok (.invokestatic 82, 3) := by decide +kernel
theorem dX10_end_11 : decode cX10_end 11 = .ok (.ifCond .ne 5, 3) := by decide +kernel
theorem dX10_end_14 : decode cX10_end 14 = .ok (.iconst (-1), 1) := by decide +kernel
theorem dX10_end_15 : decode cX10_end 15 = .ok (.ireturn, 1) := by decide +kernel
theorem dX10_end_16 : decode cX10_end 16 = .ok (.aload_n 0, 1) := by decide +kernel
theorem dX10_end_17 : decode cX10_end 17 = .ok (.iload_n 1, 1) := by decide +kernel
theorem dX10_end_18 : decode cX10_end 18 = .ok (.putfield 97, 3) := by decide +kernel
theorem dX10_end_21 : decode cX10_end 21 = .ok (.iload_n 1, 1) := by decide +kernel
theorem dX10_end_22 : decode cX10_end 22 = .ok (.ireturn, 1) := by decide +kernel
def uX10_end : List Cond := .code yX10_end cX10_end 2 (some .int) :: ([.fieldLink RX10 97 "LuckyTicketModel" "taped" "I", .methodLink RX10 82 yX10_in, .static yX10_in, .initialized RX10, .code yX10_in cX10_in 6 (some .boolean)] ++ wsX100)
theorem iX10_end_X10 : ∀ w ∈ wsX100, w ∈ uX10_end := fun _ h => List.mem_cons_of_mem _ (List.mem_append_right _ h)
set_option maxRecDepth 20000 in
theorem gX10_end__X10_in_S82 : GoodIn uX10_end (va_wsS RX10 82 yX10_in uX10_in) := goodIn_p _ [5] rfl (by decide +kernel)
set_option maxHeartbeats 4000000 in
set_option maxRecDepth 100000 in
theorem kX10_end (l : Launch) (dC : Nat → ClassId) (dI : Nat → Nat → Nat) (h0 : Nat) (m_world : Nat) (m_images : Nat) (m_hasImage : Nat) (m_luck : Nat) (m_tape : Nat) (m_five : Nat) (m_fresh : Nat) (m_waits : Nat) (m_figures : Nat) (m_pile : Nat) (m_times : Nat) (m_far : Nat) (m_queue : Nat) (m_months : Nat) (m_ways : Nat) (m_waysOn : Nat) (m_many : Nat) (m_width : Nat) (m_numbers : Nat) (m_moving : Nat) (a1 : Int32) (sz : Nat) : Met l yX10_end uX10_end ({ frames := 1, cells := 0, slots := 0, locals := 25 }) (va_Pc [.ref h0, .int a1] (hw (dC, dI) vwCl [(h0, .inr (8, [.int 0, .ref m_world, .ref m_images, .ref m_hasImage, .ref m_luck, .ref m_tape, .int 0, .ref m_five, .int 0, .int 0, .int 0, .int 0, .int 0, .int 0, .int (-1), .ref m_fresh, .ref m_waits, .int 0, .int 0, .int 0, .ref m_figures, .ref m_pile, .long 0, .ref m_times, .ref m_far, .ref m_queue, .ref m_months, .ref m_ways, .ref m_waysOn, .ref m_many, .ref m_width, .ref m_numbers, .ref m_moving]))] [] sz)) (va_Qi (fun (r : Int32) (_ : Unit) => r = fz a1) (fun (_ : Unit) t => va_P (dC, dI) vwCl [] t.heap ∧ va_K (dC, dI) vwCl [] t ∧ va_D (va_A [(h0, .inr (8, [.int 0, .ref m_world, .ref m_images, .ref m_hasImage, .ref m_luck, .ref m_tape, .int 0, .ref m_five, .int 0, .int 0, .int 0, .int 0, .int 0, .int 0, .int (-1), .ref m_fresh, .ref m_waits, .int 0, .int 0, .int 0, .ref m_figures, .ref m_pile, .long 0, .ref m_times, .ref m_far, .ref m_queue, .ref m_months, .ref m_ways, .ref m_waysOn, .ref m_many, .ref m_width, .ref m_numbers, .ref m_moving]))] sz) []) (va_A [(h0, .inr (8, [.int 0, .ref m_world, .ref m_images, .ref m_hasImage, .ref m_luck, .ref m_tape, .int 0, .ref m_five, .int 0, .int 0, .int 0, .int 0, .int 0, .int 0, .int (-1), .ref m_fresh, .ref m_waits, .int 0, .int 0, .int 0, .ref m_figures, .ref m_pile, .long 0, .ref m_times, .ref m_far, .ref m_queue, .ref m_months, .ref m_ways, .ref m_waysOn, .ref m_many, .ref m_width, .ref m_numbers, .ref m_moving]))] sz)) 0 0 (va_A [(h0, .inr (8, [.int 0, .ref m_world, .ref m_images, .ref m_hasImage, .ref m_luck, .ref m_tape, .int 0, .ref m_five, .int 0, .int 0, .int 0, .int 0, .int 0, .int 0, .int (-1), .ref m_fresh, .ref m_waits, .int 0, .int 0, .int 0, .ref m_figures, .ref m_pile, .long 0, .ref m_times, .ref m_far, .ref m_queue, .ref m_months, .ref m_ways, .ref m_waysOn, .ref m_many, .ref m_width, .ref m_numbers, .ref m_moving]))] sz) := by
  refine Met.ofW (cc := cX10_end) (maxL := 2) (ret := (some .int)) (by decide) rfl ?_
  intro p e s m args below meth c s₁ B hml hv
  obtain ⟨rfl, hsz, hP, hK, hD0, hN⟩ := hv
  have hx := B.exec
  have hb := B.bytes
  have hr := B.returns
  have hts := atoms_spec (ws := uX10_end) B.pre
  have hown : s.vm.findClass RX10 = some m.cls := findClass_of_methodNamed B.named
  have hlocks := B.notSynchronized
  subst hsz
  have hD := hD0.self (sz := s.heap.size)
  generalize hAe : va_A [(h0, .inr (8, [.int 0, .ref m_world, .ref m_images, .ref m_hasImage, .ref m_luck, .ref m_tape, .int 0, .ref m_five, .int 0, .int 0, .int 0, .int 0, .int 0, .int 0, .int (-1), .ref m_fresh, .ref m_waits, .int 0, .int 0, .int 0, .ref m_figures, .ref m_pile, .long 0, .ref m_times, .ref m_far, .ref m_queue, .ref m_months, .ref m_ways, .ref m_waysOn, .ref m_many, .ref m_width, .ref m_numbers, .ref m_moving]))] s.heap.size = A at hD ⊢
  have hA : ∀ q : Nat, s.heap.size ≤ q → A q := fun q h => by rw [← hAe]; exact Or.inr h
  have hS : va_S A s.heap s.heap [] := va_S.rf
  have hP : va_P (dC, dI) vwCl [(h0, .inr (8, [.int 0, .ref m_world, .ref m_images, .ref m_hasImage, .ref m_luck, .ref m_tape, .int 0, .ref m_five, .int 0, .int 0, .int 0, .int 0, .int 0, .int 0, .int (-1), .ref m_fresh, .ref m_waits, .int 0, .int 0, .int 0, .ref m_figures, .ref m_pile, .long 0, .ref m_times, .ref m_far, .ref m_queue, .ref m_months, .ref m_ways, .ref m_waysOn, .ref m_many, .ref m_width, .ref m_numbers, .ref m_moving]))] s.heap := hP
  have hl := lv_entry ([.ref h0, .int a1]) (n := 2) (Nat.le_of_ble_eq_true rfl)
  rw [lg_entry_eq]
  generalize (lg_sl ([.ref h0, .int a1]) ++ List.replicate (2 - (lg_sl ([.ref h0, .int a1])).length) Slot.unset).toArray = ls at hl ⊢
  have hl : lv_has ls 2 [(0, .ref h0), (1, .int a1)] := hl
  refine lv_iload_n hx hb dX10_end_0 rfl (lv_at hl 1 rfl) ?_
  refine lv_i2l (v := a1.toInt64) hx hb dX10_end_1 rfl ?_
  refine lv_lconst (v := 0) hx hb dX10_end_2 (by decide) ?_
  refine lv_aload_n hx hb dX10_end_3 rfl (lv_at hl 0 rfl) ?_
  refine va_get (D := (dC, dI)) (ci := 8) (v := .int 0) (C := RX10) (T := TX10) (N := 33) hx hb hts iX10_end_X10 hown hK hP 0 rfl rfl 6 (by decide) (hts (.fieldLink RX10 97 "LuckyTicketModel" "taped" "I") (List.mem_of_getElem? (i := 1) rfl)) (fun _ h9 => h9) rfl dX10_end_4 ?_
  refine lv_i2l (v := 0) hx hb dX10_end_7 (by decide) ?_
  refine vp_callSi (W.runS (As := [.long a1.toInt64, .long 0, .long 0]) (rest := []) ⟨hx, hb, hml, hown, hts⟩ (kX10_in l dC dI a1.toInt64 0 0) (va_cwS 3 hts gX10_end__X10_in_S82 rfl rfl rfl (by decide +kernel) ⟨lel 1 1 rfl, lel 25 25 rfl⟩) ⟨pn_fb, pn_use⟩ rfl rfl hl.1 rfl (lv_room (Nat.le_of_ble_eq_true rfl)) dX10_end_8 ⟨lel 0 0 rfl, lel 0 0 rfl⟩) (fun r_1 hr_1 => ?_)
  refine lv_if_ne (tgt := 16) hx hb dX10_end_11 (by decide) (fun c_2 => ?_) (fun c_2 => ?_)
  ·
    refine lv_aload_n hx hb dX10_end_16 rfl (lv_at hl 0 rfl) ?_
    refine lv_iload_n hx hb dX10_end_17 rfl (lv_at hl 1 rfl) ?_
    refine va_put (D := (dC, dI)) (ci := 8) (v := .int a1) (ty := .int) (C := RX10) (T := TX10) (N := 33) hx hb hts iX10_end_X10 tyX10 tyX10_ok nmX10 hown hK hP hD hS 0 rfl rfl 6 (by decide) (hts (.fieldLink RX10 97 "LuckyTicketModel" "taped" "I") (List.mem_of_getElem? (i := 1) rfl)) (fun _ h9 => h9) rfl (by decide +kernel) rfl rfl (Nat.le_of_ble_eq_true rfl) dX10_end_18 (fun H locs hP hD hS => ?_)
    have hP : va_P (dC, dI) vwCl [(h0, .inr (8, [.int 0, .ref m_world, .ref m_images, .ref m_hasImage, .ref m_luck, .ref m_tape, .int a1, .ref m_five, .int 0, .int 0, .int 0, .int 0, .int 0, .int 0, .int (-1), .ref m_fresh, .ref m_waits, .int 0, .int 0, .int 0, .ref m_figures, .ref m_pile, .long 0, .ref m_times, .ref m_far, .ref m_queue, .ref m_months, .ref m_ways, .ref m_waysOn, .ref m_many, .ref m_width, .ref m_numbers, .ref m_moving]))] H := hP
    have hD : va_D A [(h0, .inr (8, [.int 0, .ref m_world, .ref m_images, .ref m_hasImage, .ref m_luck, .ref m_tape, .int a1, .ref m_five, .int 0, .int 0, .int 0, .int 0, .int 0, .int 0, .int (-1), .ref m_fresh, .ref m_waits, .int 0, .int 0, .int 0, .ref m_figures, .ref m_pile, .long 0, .ref m_times, .ref m_far, .ref m_queue, .ref m_months, .ref m_ways, .ref m_waysOn, .ref m_many, .ref m_width, .ref m_numbers, .ref m_moving]))] := hD
    refine lv_iload_n hx hb dX10_end_21 rfl (lv_at hl 1 rfl) ?_
    have hP9 := hP.sub (ws' := []) [] rfl
    have hD9 := hD.sub (ws' := []) [] (by decide) rfl
    have hK9 := hK.sub (tys' := []) [] rfl
    exact W.iret (v := a1) hx hb hr (fun t ht hW => ⟨⟨a1, (), rfl, fz_in1 (fun e => c_2 (hr_1.trans e)), by rw [ht]; exact hP9, va_K.moved hW.alike hK9, hD9⟩, hS.F ht⟩) hS.2.2 dX10_end_22
  ·
    refine lv_iconst (v := (-1)) hx hb dX10_end_14 (by decide) ?_
    have hP9 := hP.sub (ws' := []) [] rfl
    have hD9 := hD.sub (ws' := []) [] (by decide) rfl
    have hK9 := hK.sub (tys' := []) [] rfl
    exact W.iret (v := (-1)) hx hb hr (fun t ht hW => ⟨⟨(-1), (), rfl, fz_in0 (hr_1.symm.trans c_2), by rw [ht]; exact hP9, va_K.moved hW.alike hK9, hD9⟩, hS.F ht⟩) hS.2.2 dX10_end_15
theorem dX7_hasRoomFor_0 : decode cX7_hasRoomFor 0 = .ok (.aload_n 0, 1) := by decide +kernel
theorem dX7_hasRoomFor_1 : decode cX7_hasRoomFor 1 = .ok (.getfield 13, 3) := by decide +kernel
theorem dX7_hasRoomFor_4 : decode cX7_hasRoomFor 4 = .ok (.iload_n 1, 1) := by decide +kernel
theorem dX7_hasRoomFor_5 : decode cX7_hasRoomFor 5 = .ok (.iadd, 1) := by decide +kernel
theorem dX7_hasRoomFor_6 : decode cX7_hasRoomFor 6 = .ok (.sipush 1200, 3) := by decide +kernel
theorem dX7_hasRoomFor_9 : decode cX7_hasRoomFor 9 = .ok (.if_icmp .gt 7, 3) := by decide +kernel
theorem dX7_hasRoomFor_12 : decode cX7_hasRoomFor 12 = .ok (.iconst 1, 1) := by decide +kernel
theorem dX7_hasRoomFor_13 : decode cX7_hasRoomFor 13 = .ok (.goto 4, 3) := by decide +kernel
theorem dX7_hasRoomFor_17 : decode cX7_hasRoomFor 17 = .ok (.ireturn, 1) := by decide +kernel
def uX7_hasRoomFor : List Cond := .code yX7_hasRoomFor cX7_hasRoomFor 2 (some .boolean) :: ([.fieldLink RX7 13 "LuckyTicket$Tape" "size" "I"] ++ wsX70)
theorem iX7_hasRoomFor_X7 : ∀ w ∈ wsX70, w ∈ uX7_hasRoomFor := fun _ h => List.mem_cons_of_mem _ (List.mem_append_right _ h)
set_option maxHeartbeats 4000000 in
set_option maxRecDepth 100000 in
theorem kX7_hasRoomFor (l : Launch) (dC : Nat → ClassId) (dI : Nat → Nat → Nat) (tp : Nat) (tb : Nat) : Met l yX7_hasRoomFor uX7_hasRoomFor ({ frames := 0, cells := 0, slots := 0, locals := 0 }) (va_Pc [.ref tp, .int 20] (pw (dC, dI) vwCl [(tp, .inr (6, [.ref tb, .int 0]))] [])) (vp_Si (fun r => r = 1)) 0 0 (fun _ => False) := by
  refine Met.ofW (cc := cX7_hasRoomFor) (maxL := 2) (ret := (some .boolean)) (by decide) rfl ?_
  intro p e s m args below meth c s₁ B hml hv
  obtain ⟨rfl, hP, hK, hN⟩ := hv
  have hx := B.exec
  have hb := B.bytes
  have hr := B.returns
  have hts := atoms_spec (ws := uX7_hasRoomFor) B.pre
  have hown : s.vm.findClass RX7 = some m.cls := findClass_of_methodNamed B.named
  have hlocks := B.notSynchronized
  have hl := lv_entry ([.ref tp, .int 20]) (n := 2) (Nat.le_of_ble_eq_true rfl)
  rw [lg_entry_eq]
  generalize (lg_sl ([.ref tp, .int 20]) ++ List.replicate (2 - (lg_sl ([.ref tp, .int 20])).length) Slot.unset).toArray = ls at hl ⊢
  have hl : lv_has ls 2 [(0, .ref tp), (1, .int 20)] := hl
  refine lv_aload_n hx hb dX7_hasRoomFor_0 rfl (lv_at hl 0 rfl) ?_
  refine va_get (D := (dC, dI)) (ci := 6) (v := .int 0) (C := RX7) (T := TX7) (N := 2) hx hb hts iX7_hasRoomFor_X7 hown hK hP 0 rfl rfl 1 (by decide) (hts (.fieldLink RX7 13 "LuckyTicket$Tape" "size" "I") (List.mem_of_getElem? (i := 1) rfl)) (fun _ h9 => h9) rfl dX7_hasRoomFor_1 ?_
  refine lv_iload_n hx hb dX7_hasRoomFor_4 rfl (lv_at hl 1 rfl) ?_
  refine lv_iadd hx hb dX7_hasRoomFor_5 ?_
  refine lv_topi (fun z_1 ez_1 => ?_)
  obtain rfl : z_1 = 20 := ez_1.trans (by decide)
  refine lv_sipush (v := 1200) hx hb dX7_hasRoomFor_6 (by decide) ?_
  refine lv_icmp_gt (tgt := 16) hx hb dX7_hasRoomFor_9 (by decide) (fun c_2 => absurd c_2 (by decide)) (fun _ => ?_)
  refine lv_iconst (v := 1) hx hb dX7_hasRoomFor_12 (by decide) ?_
  refine lv_goto (tgt := 17) hx hb dX7_hasRoomFor_13 (by decide) ?_
  exact W.zret (v := 1) hx hb hr rfl (fun t ht hW => ⟨1, rfl, rfl, ht⟩) t_nil dX7_hasRoomFor_17
theorem dX7_append_0 : decode cX7_append 0 = .ok (.bipush 24, 2) := by decide +kernel
theorem dX7_append_2 : decode cX7_append 2 = .ok (.istore_n 2, 1) := by decide +kernel
theorem dX7_append_3 : decode cX7_append 3 = .ok (.iload_n 2, 1) := by decide +kernel
theorem dX7_append_4 : decode cX7_append 4 = .ok (.ifCond .lt 42, 3) := by decide +kernel
theorem dX7_append_7 : decode cX7_append 7 = .ok (.aload_n 0, 1) := by decide +kernel
theorem dX7_append_8 : decode cX7_append 8 = .ok (.getfield 13, 3) := by decide +kernel
theorem dX7_append_11 : decode cX7_append 11 = .ok (.sipush 1200, 3) := by decide +kernel
theorem dX7_append_14 : decode cX7_append 14 = .ok (.if_icmp .ge 26, 3) := by decide +kernel
theorem dX7_append_17 : decode cX7_append 17 = .ok (.aload_n 0, 1) := by decide +kernel
theorem dX7_append_18 : decode cX7_append 18 = .ok (.getfield 9, 3) := by decide +kernel
theorem dX7_append_21 : decode cX7_append 21 = .ok (.aload_n 0, 1) := by decide +kernel
theorem dX7_append_22 : decode cX7_append 22 = .ok (.getfield 13, 3) := by decide +kernel
theorem dX7_append_25 : decode cX7_append 25 = .ok (.iload_n 1, 1) := by decide +kernel
theorem dX7_append_26 : decode cX7_append 26 = .ok (.iload_n 2, 1) := by decide +kernel
theorem dX7_append_27 : decode cX7_append 27 = .ok (.iushr, 1) := by decide +kernel
theorem dX7_append_28 : decode cX7_append 28 = .ok (.i2b, 1) := by decide +kernel
theorem dX7_append_29 : decode cX7_append 29 = .ok (.bastore, 1) := by decide +kernel
theorem dX7_append_30 : decode cX7_append 30 = .ok (.aload_n 0, 1) := by decide +kernel
theorem dX7_append_31 : decode cX7_append 31 = .ok (.dup, 1) := by decide +kernel
theorem dX7_append_32 : decode cX7_append 32 = .ok (.getfield 13, 3) := by decide +kernel
theorem dX7_append_35 : decode cX7_append 35 = .ok (.iconst 1, 1) := by decide +kernel
theorem dX7_append_36 : decode cX7_append 36 = .ok (.iadd, 1) := by decide +kernel
theorem dX7_append_37 : decode cX7_append 37 = .ok (.putfield 13, 3) := by decide +kernel
theorem dX7_append_40 : decode cX7_append 40 = .ok (.iinc 2 (-8), 3) := by decide +kernel
theorem dX7_append_43 : decode cX7_append 43 = .ok (.goto (-40), 3) := by decide +kernel
theorem dX7_append_46 : decode cX7_append 46 = .ok (.return_, 1) := by decide +kernel
def uX7_append_0 : List Cond := .code yX7_append cX7_append 3 none :: ([.fieldLink RX7 13 "LuckyTicket$Tape" "size" "I", .fieldLink RX7 9 "LuckyTicket$Tape" "bytes" "[B"] ++ wsX70)
theorem iX7_append_0_X7 : ∀ w ∈ wsX70, w ∈ uX7_append_0 := fun _ h => List.mem_cons_of_mem _ (List.mem_append_right _ h)
set_option maxHeartbeats 4000000 in
set_option maxRecDepth 100000 in
theorem kX7_append_0 (l : Launch) (dC : Nat → ClassId) (dI : Nat → Nat → Nat) (tp : Nat) (tb : Nat) (cB : ClassId) (f : Nat → Int32) (a1 : Int32) (sz : Nat) : Met l yX7_append uX7_append_0 ({ frames := 0, cells := 0, slots := 0, locals := 0 }) (va_Pc [.ref tp, .int a1] (hw (dC, dI) vwCl [(tp, .inr (6, [.ref tb, .int 0])), (tb, .inl (cB, 1200, .inl f))] [(cB, .byte)] sz)) (va_Qv (fun (_ : Unit) => True) (fun (_ : Unit) t => ∃ (f2 : Nat → Int32), va_P (dC, dI) vwCl [(tp, .inr (6, [.ref tb, .int 4])), (tb, .inl (cB, 1200, .inl f2))] t.heap ∧ va_K (dC, dI) vwCl [(cB, .byte)] t ∧ va_D (va_A [(tp, .inr (6, [.ref tb, .int 0])), (tb, .inl (cB, 1200, .inl f))] sz) [(tp, .inr (6, [.ref tb, .int 4])), (tb, .inl (cB, 1200, .inl f2))]) (va_A [(tp, .inr (6, [.ref tb, .int 0])), (tb, .inl (cB, 1200, .inl f))] sz)) 0 0 (va_A [(tp, .inr (6, [.ref tb, .int 0])), (tb, .inl (cB, 1200, .inl f))] sz) := by
  refine Met.ofW (cc := cX7_append) (maxL := 3) (ret := none) (by decide) rfl ?_
  intro p e s m args below meth c s₁ B hml hv
  obtain ⟨rfl, hsz, hP, hK, hD0, hN⟩ := hv
  have hx := B.exec
  have hb := B.bytes
  have hr := B.returns
  have hts := atoms_spec (ws := uX7_append_0) B.pre
  have hown : s.vm.findClass RX7 = some m.cls := findClass_of_methodNamed B.named
  have hlocks := B.notSynchronized
  subst hsz
  have hD := hD0.self (sz := s.heap.size)
  generalize hAe : va_A [(tp, .inr (6, [.ref tb, .int 0])), (tb, .inl (cB, 1200, .inl f))] s.heap.size = A at hD ⊢
  have hA : ∀ q : Nat, s.heap.size ≤ q → A q := fun q h => by rw [← hAe]; exact Or.inr h
  have hS : va_S A s.heap s.heap [] := va_S.rf
  have hP : va_P (dC, dI) vwCl [(tp, .inr (6, [.ref tb, .int 0])), (tb, .inl (cB, 1200, .inl f))] s.heap := hP
  have hl := lv_entry ([.ref tp, .int a1]) (n := 3) (Nat.le_of_ble_eq_true rfl)
  rw [lg_entry_eq]
  generalize (lg_sl ([.ref tp, .int a1]) ++ List.replicate (3 - (lg_sl ([.ref tp, .int a1])).length) Slot.unset).toArray = ls at hl ⊢
  have hl : lv_has ls 3 [(0, .ref tp), (1, .int a1)] := hl
  refine lv_bipush (v := 24) hx hb dX7_append_0 (by decide) ?_
  refine lv_istore_n (lv' := [(2, .int 24), (0, .ref tp), (1, .int a1)]) hx hb dX7_append_2 rfl hl (by decide) rfl (fun ls hl => ?_)
  refine lv_iload_n hx hb dX7_append_3 rfl (lv_at hl 0 rfl) ?_
  refine lv_if_lt (tgt := 46) hx hb dX7_append_4 (by decide) (fun c_1 => absurd c_1 (by decide)) (fun _ => ?_)
  refine lv_aload_n hx hb dX7_append_7 rfl (lv_at hl 1 rfl) ?_
  refine va_get (D := (dC, dI)) (ci := 6) (v := .int 0) (C := RX7) (T := TX7) (N := 2) hx hb hts iX7_append_0_X7 hown hK hP 0 rfl rfl 1 (by decide) (hts (.fieldLink RX7 13 "LuckyTicket$Tape" "size" "I") (List.mem_of_getElem? (i := 1) rfl)) (fun _ h9 => h9) rfl dX7_append_8 ?_
  refine lv_sipush (v := 1200) hx hb dX7_append_11 (by decide) ?_
  refine lv_icmp_ge (tgt := 40) hx hb dX7_append_14 (by decide) (fun c_2 => absurd c_2 (by decide)) (fun _ => ?_)
  refine lv_aload_n hx hb dX7_append_17 rfl (lv_at hl 1 rfl) ?_
  refine va_get (D := (dC, dI)) (ci := 6) (v := .ref tb) (C := RX7) (T := TX7) (N := 2) hx hb hts iX7_append_0_X7 hown hK hP 0 rfl rfl 0 (by decide) (hts (.fieldLink RX7 9 "LuckyTicket$Tape" "bytes" "[B") (List.mem_of_getElem? (i := 2) rfl)) (fun _ h9 => h9) rfl dX7_append_18 ?_
  refine lv_aload_n hx hb dX7_append_21 rfl (lv_at hl 1 rfl) ?_
  refine va_get (D := (dC, dI)) (ci := 6) (v := .int 0) (C := RX7) (T := TX7) (N := 2) hx hb hts iX7_append_0_X7 hown hK hP 0 rfl rfl 1 (by decide) (hts (.fieldLink RX7 13 "LuckyTicket$Tape" "size" "I") (List.mem_of_getElem? (i := 1) rfl)) (fun _ h9 => h9) rfl dX7_append_22 ?_
  refine lv_iload_n hx hb dX7_append_25 rfl (lv_at hl 2 rfl) ?_
  refine lv_iload_n hx hb dX7_append_26 rfl (lv_at hl 0 rfl) ?_
  obtain ⟨z_3, ez_3⟩ : ∃ y : Int32, y = ((a1 : Int32).toUInt32 >>> ((24 : Int32).toUInt32 &&& Int32.toUInt32 31)).toInt32 := ⟨_, rfl⟩
  refine lv_iushr (v := z_3) hx hb dX7_append_27 ez_3.symm ?_
  refine lv_i2b (v := z_3.toInt8.toInt32) hx hb dX7_append_28 rfl ?_
  refine va_bast hx hb hK hP hD hS 1 0 rfl rfl (vp_in_lit (by decide)) dX7_append_29 (fun H locs hP hD hS => ?_)
  have hP : va_P (dC, dI) vwCl [(tp, .inr (6, [.ref tb, .int 0])), (tb, .inl (cB, 1200, .inl (upd f (0 : Int32).toNatClampNeg (vp_nar .byte z_3.toInt8.toInt32))))] H := hP
  have hD : va_D A [(tp, .inr (6, [.ref tb, .int 0])), (tb, .inl (cB, 1200, .inl (upd f (0 : Int32).toNatClampNeg (vp_nar .byte z_3.toInt8.toInt32))))] := hD
  refine lv_aload_n hx hb dX7_append_30 rfl (lv_at hl 1 rfl) ?_
  refine lv_dup hx hb dX7_append_31 rfl ?_
  refine va_get (D := (dC, dI)) (ci := 6) (v := .int 0) (C := RX7) (T := TX7) (N := 2) hx hb hts iX7_append_0_X7 hown hK hP 0 rfl rfl 1 (by decide) (hts (.fieldLink RX7 13 "LuckyTicket$Tape" "size" "I") (List.mem_of_getElem? (i := 1) rfl)) (fun _ h9 => h9) rfl dX7_append_32 ?_
  refine lv_iconst (v := 1) hx hb dX7_append_35 (by decide) ?_
  refine lv_iadd hx hb dX7_append_36 ?_
  refine lv_topi (fun z_4 ez_4 => ?_)
  obtain rfl : z_4 = 1 := ez_4.trans (by decide)
  refine va_put (D := (dC, dI)) (ci := 6) (v := .int 1) (ty := .int) (C := RX7) (T := TX7) (N := 2) hx hb hts iX7_append_0_X7 tyX7 tyX7_ok nmX7 hown hK hP hD hS 0 rfl rfl 1 (by decide) (hts (.fieldLink RX7 13 "LuckyTicket$Tape" "size" "I") (List.mem_of_getElem? (i := 1) rfl)) (fun _ h9 => h9) rfl (by decide +kernel) rfl rfl (Nat.le_of_ble_eq_true rfl) dX7_append_37 (fun H locs hP hD hS => ?_)
  have hP : va_P (dC, dI) vwCl [(tp, .inr (6, [.ref tb, .int 1])), (tb, .inl (cB, 1200, .inl (upd f (0 : Int32).toNatClampNeg (vp_nar .byte z_3.toInt8.toInt32))))] H := hP
  have hD : va_D A [(tp, .inr (6, [.ref tb, .int 1])), (tb, .inl (cB, 1200, .inl (upd f (0 : Int32).toNatClampNeg (vp_nar .byte z_3.toInt8.toInt32))))] := hD
  refine lv_iinc (v := 16) (lv' := [(2, .int 16), (0, .ref tp), (1, .int a1)]) hx hb dX7_append_40 hl (k := 0) rfl (by decide) (by decide) rfl (fun ls hl => ?_)
  refine lv_goto (tgt := 3) hx hb dX7_append_43 (by decide) ?_
  refine lv_iload_n hx hb dX7_append_3 rfl (lv_at hl 0 rfl) ?_
  refine lv_if_lt (tgt := 46) hx hb dX7_append_4 (by decide) (fun c_5 => absurd c_5 (by decide)) (fun _ => ?_)
  refine lv_aload_n hx hb dX7_append_7 rfl (lv_at hl 1 rfl) ?_
  refine va_get (D := (dC, dI)) (ci := 6) (v := .int 1) (C := RX7) (T := TX7) (N := 2) hx hb hts iX7_append_0_X7 hown hK hP 0 rfl rfl 1 (by decide) (hts (.fieldLink RX7 13 "LuckyTicket$Tape" "size" "I") (List.mem_of_getElem? (i := 1) rfl)) (fun _ h9 => h9) rfl dX7_append_8 ?_
  refine lv_sipush (v := 1200) hx hb dX7_append_11 (by decide) ?_
  refine lv_icmp_ge (tgt := 40) hx hb dX7_append_14 (by decide) (fun c_6 => absurd c_6 (by decide)) (fun _ => ?_)
  refine lv_aload_n hx hb dX7_append_17 rfl (lv_at hl 1 rfl) ?_
  refine va_get (D := (dC, dI)) (ci := 6) (v := .ref tb) (C := RX7) (T := TX7) (N := 2) hx hb hts iX7_append_0_X7 hown hK hP 0 rfl rfl 0 (by decide) (hts (.fieldLink RX7 9 "LuckyTicket$Tape" "bytes" "[B") (List.mem_of_getElem? (i := 2) rfl)) (fun _ h9 => h9) rfl dX7_append_18 ?_
  refine lv_aload_n hx hb dX7_append_21 rfl (lv_at hl 1 rfl) ?_
  refine va_get (D := (dC, dI)) (ci := 6) (v := .int 1) (C := RX7) (T := TX7) (N := 2) hx hb hts iX7_append_0_X7 hown hK hP 0 rfl rfl 1 (by decide) (hts (.fieldLink RX7 13 "LuckyTicket$Tape" "size" "I") (List.mem_of_getElem? (i := 1) rfl)) (fun _ h9 => h9) rfl dX7_append_22 ?_
  refine lv_iload_n hx hb dX7_append_25 rfl (lv_at hl 2 rfl) ?_
  refine lv_iload_n hx hb dX7_append_26 rfl (lv_at hl 0 rfl) ?_
  obtain ⟨z_7, ez_7⟩ : ∃ y : Int32, y = ((a1 : Int32).toUInt32 >>> ((16 : Int32).toUInt32 &&& Int32.toUInt32 31)).toInt32 := ⟨_, rfl⟩
  refine lv_iushr (v := z_7) hx hb dX7_append_27 ez_7.symm ?_
  refine lv_i2b (v := z_7.toInt8.toInt32) hx hb dX7_append_28 rfl ?_
  refine va_bast hx hb hK hP hD hS 1 0 rfl rfl (vp_in_lit (by decide)) dX7_append_29 (fun H locs hP hD hS => ?_)
  have hP : va_P (dC, dI) vwCl [(tp, .inr (6, [.ref tb, .int 1])), (tb, .inl (cB, 1200, .inl (upd (upd f (0 : Int32).toNatClampNeg (vp_nar .byte z_3.toInt8.toInt32)) (1 : Int32).toNatClampNeg (vp_nar .byte z_7.toInt8.toInt32))))] H := hP
  have hD : va_D A [(tp, .inr (6, [.ref tb, .int 1])), (tb, .inl (cB, 1200, .inl (upd (upd f (0 : Int32).toNatClampNeg (vp_nar .byte z_3.toInt8.toInt32)) (1 : Int32).toNatClampNeg (vp_nar .byte z_7.toInt8.toInt32))))] := hD
  refine lv_aload_n hx hb dX7_append_30 rfl (lv_at hl 1 rfl) ?_
  refine lv_dup hx hb dX7_append_31 rfl ?_
  refine va_get (D := (dC, dI)) (ci := 6) (v := .int 1) (C := RX7) (T := TX7) (N := 2) hx hb hts iX7_append_0_X7 hown hK hP 0 rfl rfl 1 (by decide) (hts (.fieldLink RX7 13 "LuckyTicket$Tape" "size" "I") (List.mem_of_getElem? (i := 1) rfl)) (fun _ h9 => h9) rfl dX7_append_32 ?_
  refine lv_iconst (v := 1) hx hb dX7_append_35 (by decide) ?_
  refine lv_iadd hx hb dX7_append_36 ?_
  refine lv_topi (fun z_8 ez_8 => ?_)
  obtain rfl : z_8 = 2 := ez_8.trans (by decide)
  refine va_put (D := (dC, dI)) (ci := 6) (v := .int 2) (ty := .int) (C := RX7) (T := TX7) (N := 2) hx hb hts iX7_append_0_X7 tyX7 tyX7_ok nmX7 hown hK hP hD hS 0 rfl rfl 1 (by decide) (hts (.fieldLink RX7 13 "LuckyTicket$Tape" "size" "I") (List.mem_of_getElem? (i := 1) rfl)) (fun _ h9 => h9) rfl (by decide +kernel) rfl rfl (Nat.le_of_ble_eq_true rfl) dX7_append_37 (fun H locs hP hD hS => ?_)
  have hP : va_P (dC, dI) vwCl [(tp, .inr (6, [.ref tb, .int 2])), (tb, .inl (cB, 1200, .inl (upd (upd f (0 : Int32).toNatClampNeg (vp_nar .byte z_3.toInt8.toInt32)) (1 : Int32).toNatClampNeg (vp_nar .byte z_7.toInt8.toInt32))))] H := hP
  have hD : va_D A [(tp, .inr (6, [.ref tb, .int 2])), (tb, .inl (cB, 1200, .inl (upd (upd f (0 : Int32).toNatClampNeg (vp_nar .byte z_3.toInt8.toInt32)) (1 : Int32).toNatClampNeg (vp_nar .byte z_7.toInt8.toInt32))))] := hD
  refine lv_iinc (v := 8) (lv' := [(2, .int 8), (0, .ref tp), (1, .int a1)]) hx hb dX7_append_40 hl (k := 0) rfl (by decide) (by decide) rfl (fun ls hl => ?_)
  refine lv_goto (tgt := 3) hx hb dX7_append_43 (by decide) ?_
  refine lv_iload_n hx hb dX7_append_3 rfl (lv_at hl 0 rfl) ?_
  refine lv_if_lt (tgt := 46) hx hb dX7_append_4 (by decide) (fun c_9 => absurd c_9 (by decide)) (fun _ => ?_)
  refine lv_aload_n hx hb dX7_append_7 rfl (lv_at hl 1 rfl) ?_
  refine va_get (D := (dC, dI)) (ci := 6) (v := .int 2) (C := RX7) (T := TX7) (N := 2) hx hb hts iX7_append_0_X7 hown hK hP 0 rfl rfl 1 (by decide) (hts (.fieldLink RX7 13 "LuckyTicket$Tape" "size" "I") (List.mem_of_getElem? (i := 1) rfl)) (fun _ h9 => h9) rfl dX7_append_8 ?_
  refine lv_sipush (v := 1200) hx hb dX7_append_11 (by decide) ?_
  refine lv_icmp_ge (tgt := 40) hx hb dX7_append_14 (by decide) (fun c_10 => absurd c_10 (by decide)) (fun _ => ?_)
  refine lv_aload_n hx hb dX7_append_17 rfl (lv_at hl 1 rfl) ?_
  refine va_get (D := (dC, dI)) (ci := 6) (v := .ref tb) (C := RX7) (T := TX7) (N := 2) hx hb hts iX7_append_0_X7 hown hK hP 0 rfl rfl 0 (by decide) (hts (.fieldLink RX7 9 "LuckyTicket$Tape" "bytes" "[B") (List.mem_of_getElem? (i := 2) rfl)) (fun _ h9 => h9) rfl dX7_append_18 ?_
  refine lv_aload_n hx hb dX7_append_21 rfl (lv_at hl 1 rfl) ?_
  refine va_get (D := (dC, dI)) (ci := 6) (v := .int 2) (C := RX7) (T := TX7) (N := 2) hx hb hts iX7_append_0_X7 hown hK hP 0 rfl rfl 1 (by decide) (hts (.fieldLink RX7 13 "LuckyTicket$Tape" "size" "I") (List.mem_of_getElem? (i := 1) rfl)) (fun _ h9 => h9) rfl dX7_append_22 ?_
  refine lv_iload_n hx hb dX7_append_25 rfl (lv_at hl 2 rfl) ?_
  refine lv_iload_n hx hb dX7_append_26 rfl (lv_at hl 0 rfl) ?_
  obtain ⟨z_11, ez_11⟩ : ∃ y : Int32, y = ((a1 : Int32).toUInt32 >>> ((8 : Int32).toUInt32 &&& Int32.toUInt32 31)).toInt32 := ⟨_, rfl⟩
  refine lv_iushr (v := z_11) hx hb dX7_append_27 ez_11.symm ?_
  refine lv_i2b (v := z_11.toInt8.toInt32) hx hb dX7_append_28 rfl ?_
  refine va_bast hx hb hK hP hD hS 1 0 rfl rfl (vp_in_lit (by decide)) dX7_append_29 (fun H locs hP hD hS => ?_)
  have hP : va_P (dC, dI) vwCl [(tp, .inr (6, [.ref tb, .int 2])), (tb, .inl (cB, 1200, .inl (upd (upd (upd f (0 : Int32).toNatClampNeg (vp_nar .byte z_3.toInt8.toInt32)) (1 : Int32).toNatClampNeg (vp_nar .byte z_7.toInt8.toInt32)) (2 : Int32).toNatClampNeg (vp_nar .byte z_11.toInt8.toInt32))))] H := hP
  have hD : va_D A [(tp, .inr (6, [.ref tb, .int 2])), (tb, .inl (cB, 1200, .inl (upd (upd (upd f (0 : Int32).toNatClampNeg (vp_nar .byte z_3.toInt8.toInt32)) (1 : Int32).toNatClampNeg (vp_nar .byte z_7.toInt8.toInt32)) (2 : Int32).toNatClampNeg (vp_nar .byte z_11.toInt8.toInt32))))] := hD
  refine lv_aload_n hx hb dX7_append_30 rfl (lv_at hl 1 rfl) ?_
  refine lv_dup hx hb dX7_append_31 rfl ?_
  refine va_get (D := (dC, dI)) (ci := 6) (v := .int 2) (C := RX7) (T := TX7) (N := 2) hx hb hts iX7_append_0_X7 hown hK hP 0 rfl rfl 1 (by decide) (hts (.fieldLink RX7 13 "LuckyTicket$Tape" "size" "I") (List.mem_of_getElem? (i := 1) rfl)) (fun _ h9 => h9) rfl dX7_append_32 ?_
  refine lv_iconst (v := 1) hx hb dX7_append_35 (by decide) ?_
  refine lv_iadd hx hb dX7_append_36 ?_
  refine lv_topi (fun z_12 ez_12 => ?_)
  obtain rfl : z_12 = 3 := ez_12.trans (by decide)
  refine va_put (D := (dC, dI)) (ci := 6) (v := .int 3) (ty := .int) (C := RX7) (T := TX7) (N := 2) hx hb hts iX7_append_0_X7 tyX7 tyX7_ok nmX7 hown hK hP hD hS 0 rfl rfl 1 (by decide) (hts (.fieldLink RX7 13 "LuckyTicket$Tape" "size" "I") (List.mem_of_getElem? (i := 1) rfl)) (fun _ h9 => h9) rfl (by decide +kernel) rfl rfl (Nat.le_of_ble_eq_true rfl) dX7_append_37 (fun H locs hP hD hS => ?_)
  have hP : va_P (dC, dI) vwCl [(tp, .inr (6, [.ref tb, .int 3])), (tb, .inl (cB, 1200, .inl (upd (upd (upd f (0 : Int32).toNatClampNeg (vp_nar .byte z_3.toInt8.toInt32)) (1 : Int32).toNatClampNeg (vp_nar .byte z_7.toInt8.toInt32)) (2 : Int32).toNatClampNeg (vp_nar .byte z_11.toInt8.toInt32))))] H := hP
  have hD : va_D A [(tp, .inr (6, [.ref tb, .int 3])), (tb, .inl (cB, 1200, .inl (upd (upd (upd f (0 : Int32).toNatClampNeg (vp_nar .byte z_3.toInt8.toInt32)) (1 : Int32).toNatClampNeg (vp_nar .byte z_7.toInt8.toInt32)) (2 : Int32).toNatClampNeg (vp_nar .byte z_11.toInt8.toInt32))))] := hD
  refine lv_iinc (v := 0) (lv' := [(2, .int 0), (0, .ref tp), (1, .int a1)]) hx hb dX7_append_40 hl (k := 0) rfl (by decide) (by decide) rfl (fun ls hl => ?_)
  refine lv_goto (tgt := 3) hx hb dX7_append_43 (by decide) ?_
  refine lv_iload_n hx hb dX7_append_3 rfl (lv_at hl 0 rfl) ?_
  refine lv_if_lt (tgt := 46) hx hb dX7_append_4 (by decide) (fun c_13 => absurd c_13 (by decide)) (fun _ => ?_)
  refine lv_aload_n hx hb dX7_append_7 rfl (lv_at hl 1 rfl) ?_
  refine va_get (D := (dC, dI)) (ci := 6) (v := .int 3) (C := RX7) (T := TX7) (N := 2) hx hb hts iX7_append_0_X7 hown hK hP 0 rfl rfl 1 (by decide) (hts (.fieldLink RX7 13 "LuckyTicket$Tape" "size" "I") (List.mem_of_getElem? (i := 1) rfl)) (fun _ h9 => h9) rfl dX7_append_8 ?_
  refine lv_sipush (v := 1200) hx hb dX7_append_11 (by decide) ?_
  refine lv_icmp_ge (tgt := 40) hx hb dX7_append_14 (by decide) (fun c_14 => absurd c_14 (by decide)) (fun _ => ?_)
  refine lv_aload_n hx hb dX7_append_17 rfl (lv_at hl 1 rfl) ?_
  refine va_get (D := (dC, dI)) (ci := 6) (v := .ref tb) (C := RX7) (T := TX7) (N := 2) hx hb hts iX7_append_0_X7 hown hK hP 0 rfl rfl 0 (by decide) (hts (.fieldLink RX7 9 "LuckyTicket$Tape" "bytes" "[B") (List.mem_of_getElem? (i := 2) rfl)) (fun _ h9 => h9) rfl dX7_append_18 ?_
  refine lv_aload_n hx hb dX7_append_21 rfl (lv_at hl 1 rfl) ?_
  refine va_get (D := (dC, dI)) (ci := 6) (v := .int 3) (C := RX7) (T := TX7) (N := 2) hx hb hts iX7_append_0_X7 hown hK hP 0 rfl rfl 1 (by decide) (hts (.fieldLink RX7 13 "LuckyTicket$Tape" "size" "I") (List.mem_of_getElem? (i := 1) rfl)) (fun _ h9 => h9) rfl dX7_append_22 ?_
  refine lv_iload_n hx hb dX7_append_25 rfl (lv_at hl 2 rfl) ?_
  refine lv_iload_n hx hb dX7_append_26 rfl (lv_at hl 0 rfl) ?_
  obtain ⟨z_15, ez_15⟩ : ∃ y : Int32, y = ((a1 : Int32).toUInt32 >>> ((0 : Int32).toUInt32 &&& Int32.toUInt32 31)).toInt32 := ⟨_, rfl⟩
  refine lv_iushr (v := z_15) hx hb dX7_append_27 ez_15.symm ?_
  refine lv_i2b (v := z_15.toInt8.toInt32) hx hb dX7_append_28 rfl ?_
  refine va_bast hx hb hK hP hD hS 1 0 rfl rfl (vp_in_lit (by decide)) dX7_append_29 (fun H locs hP hD hS => ?_)
  have hP : va_P (dC, dI) vwCl [(tp, .inr (6, [.ref tb, .int 3])), (tb, .inl (cB, 1200, .inl (upd (upd (upd (upd f (0 : Int32).toNatClampNeg (vp_nar .byte z_3.toInt8.toInt32)) (1 : Int32).toNatClampNeg (vp_nar .byte z_7.toInt8.toInt32)) (2 : Int32).toNatClampNeg (vp_nar .byte z_11.toInt8.toInt32)) (3 : Int32).toNatClampNeg (vp_nar .byte z_15.toInt8.toInt32))))] H := hP
  have hD : va_D A [(tp, .inr (6, [.ref tb, .int 3])), (tb, .inl (cB, 1200, .inl (upd (upd (upd (upd f (0 : Int32).toNatClampNeg (vp_nar .byte z_3.toInt8.toInt32)) (1 : Int32).toNatClampNeg (vp_nar .byte z_7.toInt8.toInt32)) (2 : Int32).toNatClampNeg (vp_nar .byte z_11.toInt8.toInt32)) (3 : Int32).toNatClampNeg (vp_nar .byte z_15.toInt8.toInt32))))] := hD
  refine lv_aload_n hx hb dX7_append_30 rfl (lv_at hl 1 rfl) ?_
  refine lv_dup hx hb dX7_append_31 rfl ?_
  refine va_get (D := (dC, dI)) (ci := 6) (v := .int 3) (C := RX7) (T := TX7) (N := 2) hx hb hts iX7_append_0_X7 hown hK hP 0 rfl rfl 1 (by decide) (hts (.fieldLink RX7 13 "LuckyTicket$Tape" "size" "I") (List.mem_of_getElem? (i := 1) rfl)) (fun _ h9 => h9) rfl dX7_append_32 ?_
  refine lv_iconst (v := 1) hx hb dX7_append_35 (by decide) ?_
  refine lv_iadd hx hb dX7_append_36 ?_
  refine lv_topi (fun z_16 ez_16 => ?_)
  obtain rfl : z_16 = 4 := ez_16.trans (by decide)
  refine va_put (D := (dC, dI)) (ci := 6) (v := .int 4) (ty := .int) (C := RX7) (T := TX7) (N := 2) hx hb hts iX7_append_0_X7 tyX7 tyX7_ok nmX7 hown hK hP hD hS 0 rfl rfl 1 (by decide) (hts (.fieldLink RX7 13 "LuckyTicket$Tape" "size" "I") (List.mem_of_getElem? (i := 1) rfl)) (fun _ h9 => h9) rfl (by decide +kernel) rfl rfl (Nat.le_of_ble_eq_true rfl) dX7_append_37 (fun H locs hP hD hS => ?_)
  have hP : va_P (dC, dI) vwCl [(tp, .inr (6, [.ref tb, .int 4])), (tb, .inl (cB, 1200, .inl (upd (upd (upd (upd f (0 : Int32).toNatClampNeg (vp_nar .byte z_3.toInt8.toInt32)) (1 : Int32).toNatClampNeg (vp_nar .byte z_7.toInt8.toInt32)) (2 : Int32).toNatClampNeg (vp_nar .byte z_11.toInt8.toInt32)) (3 : Int32).toNatClampNeg (vp_nar .byte z_15.toInt8.toInt32))))] H := hP
  have hD : va_D A [(tp, .inr (6, [.ref tb, .int 4])), (tb, .inl (cB, 1200, .inl (upd (upd (upd (upd f (0 : Int32).toNatClampNeg (vp_nar .byte z_3.toInt8.toInt32)) (1 : Int32).toNatClampNeg (vp_nar .byte z_7.toInt8.toInt32)) (2 : Int32).toNatClampNeg (vp_nar .byte z_11.toInt8.toInt32)) (3 : Int32).toNatClampNeg (vp_nar .byte z_15.toInt8.toInt32))))] := hD
  refine lv_iinc (v := (-8)) (lv' := [(2, .int (-8)), (0, .ref tp), (1, .int a1)]) hx hb dX7_append_40 hl (k := 0) rfl (by decide) (by decide) rfl (fun ls hl => ?_)
  refine lv_goto (tgt := 3) hx hb dX7_append_43 (by decide) ?_
  refine lv_iload_n hx hb dX7_append_3 rfl (lv_at hl 0 rfl) ?_
  refine lv_if_lt (tgt := 46) hx hb dX7_append_4 (by decide) (fun _ => ?_) (fun c_17 => absurd c_17 (by decide))
  have hP9 := hP.sub (ws' := [(tp, .inr (6, [.ref tb, .int 4])), (tb, .inl (cB, 1200, .inl (upd (upd (upd (upd f (0 : Int32).toNatClampNeg (vp_nar .byte z_3.toInt8.toInt32)) (1 : Int32).toNatClampNeg (vp_nar .byte z_7.toInt8.toInt32)) (2 : Int32).toNatClampNeg (vp_nar .byte z_11.toInt8.toInt32)) (3 : Int32).toNatClampNeg (vp_nar .byte z_15.toInt8.toInt32))))]) [0, 1] rfl
  have hD9 := hD.sub (ws' := [(tp, .inr (6, [.ref tb, .int 4])), (tb, .inl (cB, 1200, .inl (upd (upd (upd (upd f (0 : Int32).toNatClampNeg (vp_nar .byte z_3.toInt8.toInt32)) (1 : Int32).toNatClampNeg (vp_nar .byte z_7.toInt8.toInt32)) (2 : Int32).toNatClampNeg (vp_nar .byte z_11.toInt8.toInt32)) (3 : Int32).toNatClampNeg (vp_nar .byte z_15.toInt8.toInt32))))]) [0, 1] (by decide) rfl
  have hK9 := hK.sub (tys' := [(cB, .byte)]) [0] rfl
  exact W.vret hx hb hr (fun t ht hW => ⟨⟨(), rfl, trivial, (upd (upd (upd (upd f (0 : Int32).toNatClampNeg (vp_nar .byte z_3.toInt8.toInt32)) (1 : Int32).toNatClampNeg (vp_nar .byte z_7.toInt8.toInt32)) (2 : Int32).toNatClampNeg (vp_nar .byte z_11.toInt8.toInt32)) (3 : Int32).toNatClampNeg (vp_nar .byte z_15.toInt8.toInt32)), by rw [ht]; exact hP9, va_K.moved hW.alike hK9, hD9⟩, hS.F ht⟩) hS.2.2 dX7_append_46
def uX7_append_4 : List Cond := .code yX7_append cX7_append 3 none :: ([.fieldLink RX7 13 "LuckyTicket$Tape" "size" "I", .fieldLink RX7 9 "LuckyTicket$Tape" "bytes" "[B"] ++ wsX70)
theorem iX7_append_4_X7 : ∀ w ∈ wsX70, w ∈ uX7_append_4 := fun _ h => List.mem_cons_of_mem _ (List.mem_append_right _ h)
set_option maxHeartbeats 4000000 in
set_option maxRecDepth 100000 in
theorem kX7_append_4 (l : Launch) (dC : Nat → ClassId) (dI : Nat → Nat → Nat) (tp : Nat) (tb : Nat) (cB : ClassId) (f : Nat → Int32) (a1 : Int32) (sz : Nat) : Met l yX7_append uX7_append_4 ({ frames := 0, cells := 0, slots := 0, locals := 0 }) (va_Pc [.ref tp, .int a1] (hw (dC, dI) vwCl [(tp, .inr (6, [.ref tb, .int 4])), (tb, .inl (cB, 1200, .inl f))] [(cB, .byte)] sz)) (va_Qv (fun (_ : Unit) => True) (fun (_ : Unit) t => ∃ (f2 : Nat → Int32), va_P (dC, dI) vwCl [(tp, .inr (6, [.ref tb, .int 8])), (tb, .inl (cB, 1200, .inl f2))] t.heap ∧ va_K (dC, dI) vwCl [(cB, .byte)] t ∧ va_D (va_A [(tp, .inr (6, [.ref tb, .int 4])), (tb, .inl (cB, 1200, .inl f))] sz) [(tp, .inr (6, [.ref tb, .int 8])), (tb, .inl (cB, 1200, .inl f2))]) (va_A [(tp, .inr (6, [.ref tb, .int 4])), (tb, .inl (cB, 1200, .inl f))] sz)) 0 0 (va_A [(tp, .inr (6, [.ref tb, .int 4])), (tb, .inl (cB, 1200, .inl f))] sz) := by
  refine Met.ofW (cc := cX7_append) (maxL := 3) (ret := none) (by decide) rfl ?_
  intro p e s m args below meth c s₁ B hml hv
  obtain ⟨rfl, hsz, hP, hK, hD0, hN⟩ := hv
  have hx := B.exec
  have hb := B.bytes
  have hr := B.returns
  have hts := atoms_spec (ws := uX7_append_4) B.pre
  have hown : s.vm.findClass RX7 = some m.cls := findClass_of_methodNamed B.named
  have hlocks := B.notSynchronized
  subst hsz
  have hD := hD0.self (sz := s.heap.size)
  generalize hAe : va_A [(tp, .inr (6, [.ref tb, .int 4])), (tb, .inl (cB, 1200, .inl f))] s.heap.size = A at hD ⊢
  have hA : ∀ q : Nat, s.heap.size ≤ q → A q := fun q h => by rw [← hAe]; exact Or.inr h
  have hS : va_S A s.heap s.heap [] := va_S.rf
  have hP : va_P (dC, dI) vwCl [(tp, .inr (6, [.ref tb, .int 4])), (tb, .inl (cB, 1200, .inl f))] s.heap := hP
  have hl := lv_entry ([.ref tp, .int a1]) (n := 3) (Nat.le_of_ble_eq_true rfl)
  rw [lg_entry_eq]
  generalize (lg_sl ([.ref tp, .int a1]) ++ List.replicate (3 - (lg_sl ([.ref tp, .int a1])).length) Slot.unset).toArray = ls at hl ⊢
  have hl : lv_has ls 3 [(0, .ref tp), (1, .int a1)] := hl
  refine lv_bipush (v := 24) hx hb dX7_append_0 (by decide) ?_
  refine lv_istore_n (lv' := [(2, .int 24), (0, .ref tp), (1, .int a1)]) hx hb dX7_append_2 rfl hl (by decide) rfl (fun ls hl => ?_)
  refine lv_iload_n hx hb dX7_append_3 rfl (lv_at hl 0 rfl) ?_
  refine lv_if_lt (tgt := 46) hx hb dX7_append_4 (by decide) (fun c_1 => absurd c_1 (by decide)) (fun _ => ?_)
  refine lv_aload_n hx hb dX7_append_7 rfl (lv_at hl 1 rfl) ?_
  refine va_get (D := (dC, dI)) (ci := 6) (v := .int 4) (C := RX7) (T := TX7) (N := 2) hx hb hts iX7_append_4_X7 hown hK hP 0 rfl rfl 1 (by decide) (hts (.fieldLink RX7 13 "LuckyTicket$Tape" "size" "I") (List.mem_of_getElem? (i := 1) rfl)) (fun _ h9 => h9) rfl dX7_append_8 ?_
  refine lv_sipush (v := 1200) hx hb dX7_append_11 (by decide) ?_
  refine lv_icmp_ge (tgt := 40) hx hb dX7_append_14 (by decide) (fun c_2 => absurd c_2 (by decide)) (fun _ => ?_)
  refine lv_aload_n hx hb dX7_append_17 rfl (lv_at hl 1 rfl) ?_
  refine va_get (D := (dC, dI)) (ci := 6) (v := .ref tb) (C := RX7) (T := TX7) (N := 2) hx hb hts iX7_append_4_X7 hown hK hP 0 rfl rfl 0 (by decide) (hts (.fieldLink RX7 9 "LuckyTicket$Tape" "bytes" "[B") (List.mem_of_getElem? (i := 2) rfl)) (fun _ h9 => h9) rfl dX7_append_18 ?_
  refine lv_aload_n hx hb dX7_append_21 rfl (lv_at hl 1 rfl) ?_
  refine va_get (D := (dC, dI)) (ci := 6) (v := .int 4) (C := RX7) (T := TX7) (N := 2) hx hb hts iX7_append_4_X7 hown hK hP 0 rfl rfl 1 (by decide) (hts (.fieldLink RX7 13 "LuckyTicket$Tape" "size" "I") (List.mem_of_getElem? (i := 1) rfl)) (fun _ h9 => h9) rfl dX7_append_22 ?_
  refine lv_iload_n hx hb dX7_append_25 rfl (lv_at hl 2 rfl) ?_
  refine lv_iload_n hx hb dX7_append_26 rfl (lv_at hl 0 rfl) ?_
  obtain ⟨z_3, ez_3⟩ : ∃ y : Int32, y = ((a1 : Int32).toUInt32 >>> ((24 : Int32).toUInt32 &&& Int32.toUInt32 31)).toInt32 := ⟨_, rfl⟩
  refine lv_iushr (v := z_3) hx hb dX7_append_27 ez_3.symm ?_
  refine lv_i2b (v := z_3.toInt8.toInt32) hx hb dX7_append_28 rfl ?_
  refine va_bast hx hb hK hP hD hS 1 0 rfl rfl (vp_in_lit (by decide)) dX7_append_29 (fun H locs hP hD hS => ?_)
  have hP : va_P (dC, dI) vwCl [(tp, .inr (6, [.ref tb, .int 4])), (tb, .inl (cB, 1200, .inl (upd f (4 : Int32).toNatClampNeg (vp_nar .byte z_3.toInt8.toInt32))))] H := hP
  have hD : va_D A [(tp, .inr (6, [.ref tb, .int 4])), (tb, .inl (cB, 1200, .inl (upd f (4 : Int32).toNatClampNeg (vp_nar .byte z_3.toInt8.toInt32))))] := hD
  refine lv_aload_n hx hb dX7_append_30 rfl (lv_at hl 1 rfl) ?_
  refine lv_dup hx hb dX7_append_31 rfl ?_
  refine va_get (D := (dC, dI)) (ci := 6) (v := .int 4) (C := RX7) (T := TX7) (N := 2) hx hb hts iX7_append_4_X7 hown hK hP 0 rfl rfl 1 (by decide) (hts (.fieldLink RX7 13 "LuckyTicket$Tape" "size" "I") (List.mem_of_getElem? (i := 1) rfl)) (fun _ h9 => h9) rfl dX7_append_32 ?_
  refine lv_iconst (v := 1) hx hb dX7_append_35 (by decide) ?_
  refine lv_iadd hx hb dX7_append_36 ?_
  refine lv_topi (fun z_4 ez_4 => ?_)
  obtain rfl : z_4 = 5 := ez_4.trans (by decide)
  refine va_put (D := (dC, dI)) (ci := 6) (v := .int 5) (ty := .int) (C := RX7) (T := TX7) (N := 2) hx hb hts iX7_append_4_X7 tyX7 tyX7_ok nmX7 hown hK hP hD hS 0 rfl rfl 1 (by decide) (hts (.fieldLink RX7 13 "LuckyTicket$Tape" "size" "I") (List.mem_of_getElem? (i := 1) rfl)) (fun _ h9 => h9) rfl (by decide +kernel) rfl rfl (Nat.le_of_ble_eq_true rfl) dX7_append_37 (fun H locs hP hD hS => ?_)
  have hP : va_P (dC, dI) vwCl [(tp, .inr (6, [.ref tb, .int 5])), (tb, .inl (cB, 1200, .inl (upd f (4 : Int32).toNatClampNeg (vp_nar .byte z_3.toInt8.toInt32))))] H := hP
  have hD : va_D A [(tp, .inr (6, [.ref tb, .int 5])), (tb, .inl (cB, 1200, .inl (upd f (4 : Int32).toNatClampNeg (vp_nar .byte z_3.toInt8.toInt32))))] := hD
  refine lv_iinc (v := 16) (lv' := [(2, .int 16), (0, .ref tp), (1, .int a1)]) hx hb dX7_append_40 hl (k := 0) rfl (by decide) (by decide) rfl (fun ls hl => ?_)
  refine lv_goto (tgt := 3) hx hb dX7_append_43 (by decide) ?_
  refine lv_iload_n hx hb dX7_append_3 rfl (lv_at hl 0 rfl) ?_
  refine lv_if_lt (tgt := 46) hx hb dX7_append_4 (by decide) (fun c_5 => absurd c_5 (by decide)) (fun _ => ?_)
  refine lv_aload_n hx hb dX7_append_7 rfl (lv_at hl 1 rfl) ?_
  refine va_get (D := (dC, dI)) (ci := 6) (v := .int 5) (C := RX7) (T := TX7) (N := 2) hx hb hts iX7_append_4_X7 hown hK hP 0 rfl rfl 1 (by decide) (hts (.fieldLink RX7 13 "LuckyTicket$Tape" "size" "I") (List.mem_of_getElem? (i := 1) rfl)) (fun _ h9 => h9) rfl dX7_append_8 ?_
  refine lv_sipush (v := 1200) hx hb dX7_append_11 (by decide) ?_
  refine lv_icmp_ge (tgt := 40) hx hb dX7_append_14 (by decide) (fun c_6 => absurd c_6 (by decide)) (fun _ => ?_)
  refine lv_aload_n hx hb dX7_append_17 rfl (lv_at hl 1 rfl) ?_
  refine va_get (D := (dC, dI)) (ci := 6) (v := .ref tb) (C := RX7) (T := TX7) (N := 2) hx hb hts iX7_append_4_X7 hown hK hP 0 rfl rfl 0 (by decide) (hts (.fieldLink RX7 9 "LuckyTicket$Tape" "bytes" "[B") (List.mem_of_getElem? (i := 2) rfl)) (fun _ h9 => h9) rfl dX7_append_18 ?_
  refine lv_aload_n hx hb dX7_append_21 rfl (lv_at hl 1 rfl) ?_
  refine va_get (D := (dC, dI)) (ci := 6) (v := .int 5) (C := RX7) (T := TX7) (N := 2) hx hb hts iX7_append_4_X7 hown hK hP 0 rfl rfl 1 (by decide) (hts (.fieldLink RX7 13 "LuckyTicket$Tape" "size" "I") (List.mem_of_getElem? (i := 1) rfl)) (fun _ h9 => h9) rfl dX7_append_22 ?_
  refine lv_iload_n hx hb dX7_append_25 rfl (lv_at hl 2 rfl) ?_
  refine lv_iload_n hx hb dX7_append_26 rfl (lv_at hl 0 rfl) ?_
  obtain ⟨z_7, ez_7⟩ : ∃ y : Int32, y = ((a1 : Int32).toUInt32 >>> ((16 : Int32).toUInt32 &&& Int32.toUInt32 31)).toInt32 := ⟨_, rfl⟩
  refine lv_iushr (v := z_7) hx hb dX7_append_27 ez_7.symm ?_
  refine lv_i2b (v := z_7.toInt8.toInt32) hx hb dX7_append_28 rfl ?_
  refine va_bast hx hb hK hP hD hS 1 0 rfl rfl (vp_in_lit (by decide)) dX7_append_29 (fun H locs hP hD hS => ?_)
  have hP : va_P (dC, dI) vwCl [(tp, .inr (6, [.ref tb, .int 5])), (tb, .inl (cB, 1200, .inl (upd (upd f (4 : Int32).toNatClampNeg (vp_nar .byte z_3.toInt8.toInt32)) (5 : Int32).toNatClampNeg (vp_nar .byte z_7.toInt8.toInt32))))] H := hP
  have hD : va_D A [(tp, .inr (6, [.ref tb, .int 5])), (tb, .inl (cB, 1200, .inl (upd (upd f (4 : Int32).toNatClampNeg (vp_nar .byte z_3.toInt8.toInt32)) (5 : Int32).toNatClampNeg (vp_nar .byte z_7.toInt8.toInt32))))] := hD
  refine lv_aload_n hx hb dX7_append_30 rfl (lv_at hl 1 rfl) ?_
  refine lv_dup hx hb dX7_append_31 rfl ?_
  refine va_get (D := (dC, dI)) (ci := 6) (v := .int 5) (C := RX7) (T := TX7) (N := 2) hx hb hts iX7_append_4_X7 hown hK hP 0 rfl rfl 1 (by decide) (hts (.fieldLink RX7 13 "LuckyTicket$Tape" "size" "I") (List.mem_of_getElem? (i := 1) rfl)) (fun _ h9 => h9) rfl dX7_append_32 ?_
  refine lv_iconst (v := 1) hx hb dX7_append_35 (by decide) ?_
  refine lv_iadd hx hb dX7_append_36 ?_
  refine lv_topi (fun z_8 ez_8 => ?_)
  obtain rfl : z_8 = 6 := ez_8.trans (by decide)
  refine va_put (D := (dC, dI)) (ci := 6) (v := .int 6) (ty := .int) (C := RX7) (T := TX7) (N := 2) hx hb hts iX7_append_4_X7 tyX7 tyX7_ok nmX7 hown hK hP hD hS 0 rfl rfl 1 (by decide) (hts (.fieldLink RX7 13 "LuckyTicket$Tape" "size" "I") (List.mem_of_getElem? (i := 1) rfl)) (fun _ h9 => h9) rfl (by decide +kernel) rfl rfl (Nat.le_of_ble_eq_true rfl) dX7_append_37 (fun H locs hP hD hS => ?_)
  have hP : va_P (dC, dI) vwCl [(tp, .inr (6, [.ref tb, .int 6])), (tb, .inl (cB, 1200, .inl (upd (upd f (4 : Int32).toNatClampNeg (vp_nar .byte z_3.toInt8.toInt32)) (5 : Int32).toNatClampNeg (vp_nar .byte z_7.toInt8.toInt32))))] H := hP
  have hD : va_D A [(tp, .inr (6, [.ref tb, .int 6])), (tb, .inl (cB, 1200, .inl (upd (upd f (4 : Int32).toNatClampNeg (vp_nar .byte z_3.toInt8.toInt32)) (5 : Int32).toNatClampNeg (vp_nar .byte z_7.toInt8.toInt32))))] := hD
  refine lv_iinc (v := 8) (lv' := [(2, .int 8), (0, .ref tp), (1, .int a1)]) hx hb dX7_append_40 hl (k := 0) rfl (by decide) (by decide) rfl (fun ls hl => ?_)
  refine lv_goto (tgt := 3) hx hb dX7_append_43 (by decide) ?_
  refine lv_iload_n hx hb dX7_append_3 rfl (lv_at hl 0 rfl) ?_
  refine lv_if_lt (tgt := 46) hx hb dX7_append_4 (by decide) (fun c_9 => absurd c_9 (by decide)) (fun _ => ?_)
  refine lv_aload_n hx hb dX7_append_7 rfl (lv_at hl 1 rfl) ?_
  refine va_get (D := (dC, dI)) (ci := 6) (v := .int 6) (C := RX7) (T := TX7) (N := 2) hx hb hts iX7_append_4_X7 hown hK hP 0 rfl rfl 1 (by decide) (hts (.fieldLink RX7 13 "LuckyTicket$Tape" "size" "I") (List.mem_of_getElem? (i := 1) rfl)) (fun _ h9 => h9) rfl dX7_append_8 ?_
  refine lv_sipush (v := 1200) hx hb dX7_append_11 (by decide) ?_
  refine lv_icmp_ge (tgt := 40) hx hb dX7_append_14 (by decide) (fun c_10 => absurd c_10 (by decide)) (fun _ => ?_)
  refine lv_aload_n hx hb dX7_append_17 rfl (lv_at hl 1 rfl) ?_
  refine va_get (D := (dC, dI)) (ci := 6) (v := .ref tb) (C := RX7) (T := TX7) (N := 2) hx hb hts iX7_append_4_X7 hown hK hP 0 rfl rfl 0 (by decide) (hts (.fieldLink RX7 9 "LuckyTicket$Tape" "bytes" "[B") (List.mem_of_getElem? (i := 2) rfl)) (fun _ h9 => h9) rfl dX7_append_18 ?_
  refine lv_aload_n hx hb dX7_append_21 rfl (lv_at hl 1 rfl) ?_
  refine va_get (D := (dC, dI)) (ci := 6) (v := .int 6) (C := RX7) (T := TX7) (N := 2) hx hb hts iX7_append_4_X7 hown hK hP 0 rfl rfl 1 (by decide) (hts (.fieldLink RX7 13 "LuckyTicket$Tape" "size" "I") (List.mem_of_getElem? (i := 1) rfl)) (fun _ h9 => h9) rfl dX7_append_22 ?_
  refine lv_iload_n hx hb dX7_append_25 rfl (lv_at hl 2 rfl) ?_
  refine lv_iload_n hx hb dX7_append_26 rfl (lv_at hl 0 rfl) ?_
  obtain ⟨z_11, ez_11⟩ : ∃ y : Int32, y = ((a1 : Int32).toUInt32 >>> ((8 : Int32).toUInt32 &&& Int32.toUInt32 31)).toInt32 := ⟨_, rfl⟩
  refine lv_iushr (v := z_11) hx hb dX7_append_27 ez_11.symm ?_
  refine lv_i2b (v := z_11.toInt8.toInt32) hx hb dX7_append_28 rfl ?_
  refine va_bast hx hb hK hP hD hS 1 0 rfl rfl (vp_in_lit (by decide)) dX7_append_29 (fun H locs hP hD hS => ?_)
  have hP : va_P (dC, dI) vwCl [(tp, .inr (6, [.ref tb, .int 6])), (tb, .inl (cB, 1200, .inl (upd (upd (upd f (4 : Int32).toNatClampNeg (vp_nar .byte z_3.toInt8.toInt32)) (5 : Int32).toNatClampNeg (vp_nar .byte z_7.toInt8.toInt32)) (6 : Int32).toNatClampNeg (vp_nar .byte z_11.toInt8.toInt32))))] H := hP
  have hD : va_D A [(tp, .inr (6, [.ref tb, .int 6])), (tb, .inl (cB, 1200, .inl (upd (upd (upd f (4 : Int32).toNatClampNeg (vp_nar .byte z_3.toInt8.toInt32)) (5 : Int32).toNatClampNeg (vp_nar .byte z_7.toInt8.toInt32)) (6 : Int32).toNatClampNeg (vp_nar .byte z_11.toInt8.toInt32))))] := hD
  refine lv_aload_n hx hb dX7_append_30 rfl (lv_at hl 1 rfl) ?_
  refine lv_dup hx hb dX7_append_31 rfl ?_
  refine va_get (D := (dC, dI)) (ci := 6) (v := .int 6) (C := RX7) (T := TX7) (N := 2) hx hb hts iX7_append_4_X7 hown hK hP 0 rfl rfl 1 (by decide) (hts (.fieldLink RX7 13 "LuckyTicket$Tape" "size" "I") (List.mem_of_getElem? (i := 1) rfl)) (fun _ h9 => h9) rfl dX7_append_32 ?_
  refine lv_iconst (v := 1) hx hb dX7_append_35 (by decide) ?_
  refine lv_iadd hx hb dX7_append_36 ?_
  refine lv_topi (fun z_12 ez_12 => ?_)
  obtain rfl : z_12 = 7 := ez_12.trans (by decide)
  refine va_put (D := (dC, dI)) (ci := 6) (v := .int 7) (ty := .int) (C := RX7) (T := TX7) (N := 2) hx hb hts iX7_append_4_X7 tyX7 tyX7_ok nmX7 hown hK hP hD hS 0 rfl rfl 1 (by decide) (hts (.fieldLink RX7 13 "LuckyTicket$Tape" "size" "I") (List.mem_of_getElem? (i := 1) rfl)) (fun _ h9 => h9) rfl (by decide +kernel) rfl rfl (Nat.le_of_ble_eq_true rfl) dX7_append_37 (fun H locs hP hD hS => ?_)
  have hP : va_P (dC, dI) vwCl [(tp, .inr (6, [.ref tb, .int 7])), (tb, .inl (cB, 1200, .inl (upd (upd (upd f (4 : Int32).toNatClampNeg (vp_nar .byte z_3.toInt8.toInt32)) (5 : Int32).toNatClampNeg (vp_nar .byte z_7.toInt8.toInt32)) (6 : Int32).toNatClampNeg (vp_nar .byte z_11.toInt8.toInt32))))] H := hP
  have hD : va_D A [(tp, .inr (6, [.ref tb, .int 7])), (tb, .inl (cB, 1200, .inl (upd (upd (upd f (4 : Int32).toNatClampNeg (vp_nar .byte z_3.toInt8.toInt32)) (5 : Int32).toNatClampNeg (vp_nar .byte z_7.toInt8.toInt32)) (6 : Int32).toNatClampNeg (vp_nar .byte z_11.toInt8.toInt32))))] := hD
  refine lv_iinc (v := 0) (lv' := [(2, .int 0), (0, .ref tp), (1, .int a1)]) hx hb dX7_append_40 hl (k := 0) rfl (by decide) (by decide) rfl (fun ls hl => ?_)
  refine lv_goto (tgt := 3) hx hb dX7_append_43 (by decide) ?_
  refine lv_iload_n hx hb dX7_append_3 rfl (lv_at hl 0 rfl) ?_
  refine lv_if_lt (tgt := 46) hx hb dX7_append_4 (by decide) (fun c_13 => absurd c_13 (by decide)) (fun _ => ?_)
  refine lv_aload_n hx hb dX7_append_7 rfl (lv_at hl 1 rfl) ?_
  refine va_get (D := (dC, dI)) (ci := 6) (v := .int 7) (C := RX7) (T := TX7) (N := 2) hx hb hts iX7_append_4_X7 hown hK hP 0 rfl rfl 1 (by decide) (hts (.fieldLink RX7 13 "LuckyTicket$Tape" "size" "I") (List.mem_of_getElem? (i := 1) rfl)) (fun _ h9 => h9) rfl dX7_append_8 ?_
  refine lv_sipush (v := 1200) hx hb dX7_append_11 (by decide) ?_
  refine lv_icmp_ge (tgt := 40) hx hb dX7_append_14 (by decide) (fun c_14 => absurd c_14 (by decide)) (fun _ => ?_)
  refine lv_aload_n hx hb dX7_append_17 rfl (lv_at hl 1 rfl) ?_
  refine va_get (D := (dC, dI)) (ci := 6) (v := .ref tb) (C := RX7) (T := TX7) (N := 2) hx hb hts iX7_append_4_X7 hown hK hP 0 rfl rfl 0 (by decide) (hts (.fieldLink RX7 9 "LuckyTicket$Tape" "bytes" "[B") (List.mem_of_getElem? (i := 2) rfl)) (fun _ h9 => h9) rfl dX7_append_18 ?_
  refine lv_aload_n hx hb dX7_append_21 rfl (lv_at hl 1 rfl) ?_
  refine va_get (D := (dC, dI)) (ci := 6) (v := .int 7) (C := RX7) (T := TX7) (N := 2) hx hb hts iX7_append_4_X7 hown hK hP 0 rfl rfl 1 (by decide) (hts (.fieldLink RX7 13 "LuckyTicket$Tape" "size" "I") (List.mem_of_getElem? (i := 1) rfl)) (fun _ h9 => h9) rfl dX7_append_22 ?_
  refine lv_iload_n hx hb dX7_append_25 rfl (lv_at hl 2 rfl) ?_
  refine lv_iload_n hx hb dX7_append_26 rfl (lv_at hl 0 rfl) ?_
  obtain ⟨z_15, ez_15⟩ : ∃ y : Int32, y = ((a1 : Int32).toUInt32 >>> ((0 : Int32).toUInt32 &&& Int32.toUInt32 31)).toInt32 := ⟨_, rfl⟩
  refine lv_iushr (v := z_15) hx hb dX7_append_27 ez_15.symm ?_
  refine lv_i2b (v := z_15.toInt8.toInt32) hx hb dX7_append_28 rfl ?_
  refine va_bast hx hb hK hP hD hS 1 0 rfl rfl (vp_in_lit (by decide)) dX7_append_29 (fun H locs hP hD hS => ?_)
  have hP : va_P (dC, dI) vwCl [(tp, .inr (6, [.ref tb, .int 7])), (tb, .inl (cB, 1200, .inl (upd (upd (upd (upd f (4 : Int32).toNatClampNeg (vp_nar .byte z_3.toInt8.toInt32)) (5 : Int32).toNatClampNeg (vp_nar .byte z_7.toInt8.toInt32)) (6 : Int32).toNatClampNeg (vp_nar .byte z_11.toInt8.toInt32)) (7 : Int32).toNatClampNeg (vp_nar .byte z_15.toInt8.toInt32))))] H := hP
  have hD : va_D A [(tp, .inr (6, [.ref tb, .int 7])), (tb, .inl (cB, 1200, .inl (upd (upd (upd (upd f (4 : Int32).toNatClampNeg (vp_nar .byte z_3.toInt8.toInt32)) (5 : Int32).toNatClampNeg (vp_nar .byte z_7.toInt8.toInt32)) (6 : Int32).toNatClampNeg (vp_nar .byte z_11.toInt8.toInt32)) (7 : Int32).toNatClampNeg (vp_nar .byte z_15.toInt8.toInt32))))] := hD
  refine lv_aload_n hx hb dX7_append_30 rfl (lv_at hl 1 rfl) ?_
  refine lv_dup hx hb dX7_append_31 rfl ?_
  refine va_get (D := (dC, dI)) (ci := 6) (v := .int 7) (C := RX7) (T := TX7) (N := 2) hx hb hts iX7_append_4_X7 hown hK hP 0 rfl rfl 1 (by decide) (hts (.fieldLink RX7 13 "LuckyTicket$Tape" "size" "I") (List.mem_of_getElem? (i := 1) rfl)) (fun _ h9 => h9) rfl dX7_append_32 ?_
  refine lv_iconst (v := 1) hx hb dX7_append_35 (by decide) ?_
  refine lv_iadd hx hb dX7_append_36 ?_
  refine lv_topi (fun z_16 ez_16 => ?_)
  obtain rfl : z_16 = 8 := ez_16.trans (by decide)
  refine va_put (D := (dC, dI)) (ci := 6) (v := .int 8) (ty := .int) (C := RX7) (T := TX7) (N := 2) hx hb hts iX7_append_4_X7 tyX7 tyX7_ok nmX7 hown hK hP hD hS 0 rfl rfl 1 (by decide) (hts (.fieldLink RX7 13 "LuckyTicket$Tape" "size" "I") (List.mem_of_getElem? (i := 1) rfl)) (fun _ h9 => h9) rfl (by decide +kernel) rfl rfl (Nat.le_of_ble_eq_true rfl) dX7_append_37 (fun H locs hP hD hS => ?_)
  have hP : va_P (dC, dI) vwCl [(tp, .inr (6, [.ref tb, .int 8])), (tb, .inl (cB, 1200, .inl (upd (upd (upd (upd f (4 : Int32).toNatClampNeg (vp_nar .byte z_3.toInt8.toInt32)) (5 : Int32).toNatClampNeg (vp_nar .byte z_7.toInt8.toInt32)) (6 : Int32).toNatClampNeg (vp_nar .byte z_11.toInt8.toInt32)) (7 : Int32).toNatClampNeg (vp_nar .byte z_15.toInt8.toInt32))))] H := hP
  have hD : va_D A [(tp, .inr (6, [.ref tb, .int 8])), (tb, .inl (cB, 1200, .inl (upd (upd (upd (upd f (4 : Int32).toNatClampNeg (vp_nar .byte z_3.toInt8.toInt32)) (5 : Int32).toNatClampNeg (vp_nar .byte z_7.toInt8.toInt32)) (6 : Int32).toNatClampNeg (vp_nar .byte z_11.toInt8.toInt32)) (7 : Int32).toNatClampNeg (vp_nar .byte z_15.toInt8.toInt32))))] := hD
  refine lv_iinc (v := (-8)) (lv' := [(2, .int (-8)), (0, .ref tp), (1, .int a1)]) hx hb dX7_append_40 hl (k := 0) rfl (by decide) (by decide) rfl (fun ls hl => ?_)
  refine lv_goto (tgt := 3) hx hb dX7_append_43 (by decide) ?_
  refine lv_iload_n hx hb dX7_append_3 rfl (lv_at hl 0 rfl) ?_
  refine lv_if_lt (tgt := 46) hx hb dX7_append_4 (by decide) (fun _ => ?_) (fun c_17 => absurd c_17 (by decide))
  have hP9 := hP.sub (ws' := [(tp, .inr (6, [.ref tb, .int 8])), (tb, .inl (cB, 1200, .inl (upd (upd (upd (upd f (4 : Int32).toNatClampNeg (vp_nar .byte z_3.toInt8.toInt32)) (5 : Int32).toNatClampNeg (vp_nar .byte z_7.toInt8.toInt32)) (6 : Int32).toNatClampNeg (vp_nar .byte z_11.toInt8.toInt32)) (7 : Int32).toNatClampNeg (vp_nar .byte z_15.toInt8.toInt32))))]) [0, 1] rfl
  have hD9 := hD.sub (ws' := [(tp, .inr (6, [.ref tb, .int 8])), (tb, .inl (cB, 1200, .inl (upd (upd (upd (upd f (4 : Int32).toNatClampNeg (vp_nar .byte z_3.toInt8.toInt32)) (5 : Int32).toNatClampNeg (vp_nar .byte z_7.toInt8.toInt32)) (6 : Int32).toNatClampNeg (vp_nar .byte z_11.toInt8.toInt32)) (7 : Int32).toNatClampNeg (vp_nar .byte z_15.toInt8.toInt32))))]) [0, 1] (by decide) rfl
  have hK9 := hK.sub (tys' := [(cB, .byte)]) [0] rfl
  exact W.vret hx hb hr (fun t ht hW => ⟨⟨(), rfl, trivial, (upd (upd (upd (upd f (4 : Int32).toNatClampNeg (vp_nar .byte z_3.toInt8.toInt32)) (5 : Int32).toNatClampNeg (vp_nar .byte z_7.toInt8.toInt32)) (6 : Int32).toNatClampNeg (vp_nar .byte z_11.toInt8.toInt32)) (7 : Int32).toNatClampNeg (vp_nar .byte z_15.toInt8.toInt32)), by rw [ht]; exact hP9, va_K.moved hW.alike hK9, hD9⟩, hS.F ht⟩) hS.2.2 dX7_append_46
def uX7_append_8 : List Cond := .code yX7_append cX7_append 3 none :: ([.fieldLink RX7 13 "LuckyTicket$Tape" "size" "I", .fieldLink RX7 9 "LuckyTicket$Tape" "bytes" "[B"] ++ wsX70)
theorem iX7_append_8_X7 : ∀ w ∈ wsX70, w ∈ uX7_append_8 := fun _ h => List.mem_cons_of_mem _ (List.mem_append_right _ h)
set_option maxHeartbeats 4000000 in
set_option maxRecDepth 100000 in
theorem kX7_append_8 (l : Launch) (dC : Nat → ClassId) (dI : Nat → Nat → Nat) (tp : Nat) (tb : Nat) (cB : ClassId) (f : Nat → Int32) (a1 : Int32) (sz : Nat) : Met l yX7_append uX7_append_8 ({ frames := 0, cells := 0, slots := 0, locals := 0 }) (va_Pc [.ref tp, .int a1] (hw (dC, dI) vwCl [(tp, .inr (6, [.ref tb, .int 8])), (tb, .inl (cB, 1200, .inl f))] [(cB, .byte)] sz)) (va_Qv (fun (_ : Unit) => True) (fun (_ : Unit) t => ∃ (f2 : Nat → Int32), va_P (dC, dI) vwCl [(tp, .inr (6, [.ref tb, .int 12])), (tb, .inl (cB, 1200, .inl f2))] t.heap ∧ va_K (dC, dI) vwCl [(cB, .byte)] t ∧ va_D (va_A [(tp, .inr (6, [.ref tb, .int 8])), (tb, .inl (cB, 1200, .inl f))] sz) [(tp, .inr (6, [.ref tb, .int 12])), (tb, .inl (cB, 1200, .inl f2))]) (va_A [(tp, .inr (6, [.ref tb, .int 8])), (tb, .inl (cB, 1200, .inl f))] sz)) 0 0 (va_A [(tp, .inr (6, [.ref tb, .int 8])), (tb, .inl (cB, 1200, .inl f))] sz) := by
  refine Met.ofW (cc := cX7_append) (maxL := 3) (ret := none) (by decide) rfl ?_
  intro p e s m args below meth c s₁ B hml hv
  obtain ⟨rfl, hsz, hP, hK, hD0, hN⟩ := hv
  have hx := B.exec
  have hb := B.bytes
  have hr := B.returns
  have hts := atoms_spec (ws := uX7_append_8) B.pre
  have hown : s.vm.findClass RX7 = some m.cls := findClass_of_methodNamed B.named
  have hlocks := B.notSynchronized
  subst hsz
  have hD := hD0.self (sz := s.heap.size)
  generalize hAe : va_A [(tp, .inr (6, [.ref tb, .int 8])), (tb, .inl (cB, 1200, .inl f))] s.heap.size = A at hD ⊢
  have hA : ∀ q : Nat, s.heap.size ≤ q → A q := fun q h => by rw [← hAe]; exact Or.inr h
  have hS : va_S A s.heap s.heap [] := va_S.rf
  have hP : va_P (dC, dI) vwCl [(tp, .inr (6, [.ref tb, .int 8])), (tb, .inl (cB, 1200, .inl f))] s.heap := hP
  have hl := lv_entry ([.ref tp, .int a1]) (n := 3) (Nat.le_of_ble_eq_true rfl)
  rw [lg_entry_eq]
  generalize (lg_sl ([.ref tp, .int a1]) ++ List.replicate (3 - (lg_sl ([.ref tp, .int a1])).length) Slot.unset).toArray = ls at hl ⊢
  have hl : lv_has ls 3 [(0, .ref tp), (1, .int a1)] := hl
  refine lv_bipush (v := 24) hx hb dX7_append_0 (by decide) ?_
  refine lv_istore_n (lv' := [(2, .int 24), (0, .ref tp), (1, .int a1)]) hx hb dX7_append_2 rfl hl (by decide) rfl (fun ls hl => ?_)
  refine lv_iload_n hx hb dX7_append_3 rfl (lv_at hl 0 rfl) ?_
  refine lv_if_lt (tgt := 46) hx hb dX7_append_4 (by decide) (fun c_1 => absurd c_1 (by decide)) (fun _ => ?_)
  refine lv_aload_n hx hb dX7_append_7 rfl (lv_at hl 1 rfl) ?_
  refine va_get (D := (dC, dI)) (ci := 6) (v := .int 8) (C := RX7) (T := TX7) (N := 2) hx hb hts iX7_append_8_X7 hown hK hP 0 rfl rfl 1 (by decide) (hts (.fieldLink RX7 13 "LuckyTicket$Tape" "size" "I") (List.mem_of_getElem? (i := 1) rfl)) (fun _ h9 => h9) rfl dX7_append_8 ?_
  refine lv_sipush (v := 1200) hx hb dX7_append_11 (by decide) ?_
  refine lv_icmp_ge (tgt := 40) hx hb dX7_append_14 (by decide) (fun c_2 => absurd c_2 (by decide)) (fun _ => ?_)
  refine lv_aload_n hx hb dX7_append_17 rfl (lv_at hl 1 rfl) ?_
  refine va_get (D := (dC, dI)) (ci := 6) (v := .ref tb) (C := RX7) (T := TX7) (N := 2) hx hb hts iX7_append_8_X7 hown hK hP 0 rfl rfl 0 (by decide) (hts (.fieldLink RX7 9 "LuckyTicket$Tape" "bytes" "[B") (List.mem_of_getElem? (i := 2) rfl)) (fun _ h9 => h9) rfl dX7_append_18 ?_
  refine lv_aload_n hx hb dX7_append_21 rfl (lv_at hl 1 rfl) ?_
  refine va_get (D := (dC, dI)) (ci := 6) (v := .int 8) (C := RX7) (T := TX7) (N := 2) hx hb hts iX7_append_8_X7 hown hK hP 0 rfl rfl 1 (by decide) (hts (.fieldLink RX7 13 "LuckyTicket$Tape" "size" "I") (List.mem_of_getElem? (i := 1) rfl)) (fun _ h9 => h9) rfl dX7_append_22 ?_
  refine lv_iload_n hx hb dX7_append_25 rfl (lv_at hl 2 rfl) ?_
  refine lv_iload_n hx hb dX7_append_26 rfl (lv_at hl 0 rfl) ?_
  obtain ⟨z_3, ez_3⟩ : ∃ y : Int32, y = ((a1 : Int32).toUInt32 >>> ((24 : Int32).toUInt32 &&& Int32.toUInt32 31)).toInt32 := ⟨_, rfl⟩
  refine lv_iushr (v := z_3) hx hb dX7_append_27 ez_3.symm ?_
  refine lv_i2b (v := z_3.toInt8.toInt32) hx hb dX7_append_28 rfl ?_
  refine va_bast hx hb hK hP hD hS 1 0 rfl rfl (vp_in_lit (by decide)) dX7_append_29 (fun H locs hP hD hS => ?_)
  have hP : va_P (dC, dI) vwCl [(tp, .inr (6, [.ref tb, .int 8])), (tb, .inl (cB, 1200, .inl (upd f (8 : Int32).toNatClampNeg (vp_nar .byte z_3.toInt8.toInt32))))] H := hP
  have hD : va_D A [(tp, .inr (6, [.ref tb, .int 8])), (tb, .inl (cB, 1200, .inl (upd f (8 : Int32).toNatClampNeg (vp_nar .byte z_3.toInt8.toInt32))))] := hD
  refine lv_aload_n hx hb dX7_append_30 rfl (lv_at hl 1 rfl) ?_
  refine lv_dup hx hb dX7_append_31 rfl ?_
  refine va_get (D := (dC, dI)) (ci := 6) (v := .int 8) (C := RX7) (T := TX7) (N := 2) hx hb hts iX7_append_8_X7 hown hK hP 0 rfl rfl 1 (by decide) (hts (.fieldLink RX7 13 "LuckyTicket$Tape" "size" "I") (List.mem_of_getElem? (i := 1) rfl)) (fun _ h9 => h9) rfl dX7_append_32 ?_
  refine lv_iconst (v := 1) hx hb dX7_append_35 (by decide) ?_
  refine lv_iadd hx hb dX7_append_36 ?_
  refine lv_topi (fun z_4 ez_4 => ?_)
  obtain rfl : z_4 = 9 := ez_4.trans (by decide)
  refine va_put (D := (dC, dI)) (ci := 6) (v := .int 9) (ty := .int) (C := RX7) (T := TX7) (N := 2) hx hb hts iX7_append_8_X7 tyX7 tyX7_ok nmX7 hown hK hP hD hS 0 rfl rfl 1 (by decide) (hts (.fieldLink RX7 13 "LuckyTicket$Tape" "size" "I") (List.mem_of_getElem? (i := 1) rfl)) (fun _ h9 => h9) rfl (by decide +kernel) rfl rfl (Nat.le_of_ble_eq_true rfl) dX7_append_37 (fun H locs hP hD hS => ?_)
  have hP : va_P (dC, dI) vwCl [(tp, .inr (6, [.ref tb, .int 9])), (tb, .inl (cB, 1200, .inl (upd f (8 : Int32).toNatClampNeg (vp_nar .byte z_3.toInt8.toInt32))))] H := hP
  have hD : va_D A [(tp, .inr (6, [.ref tb, .int 9])), (tb, .inl (cB, 1200, .inl (upd f (8 : Int32).toNatClampNeg (vp_nar .byte z_3.toInt8.toInt32))))] := hD
  refine lv_iinc (v := 16) (lv' := [(2, .int 16), (0, .ref tp), (1, .int a1)]) hx hb dX7_append_40 hl (k := 0) rfl (by decide) (by decide) rfl (fun ls hl => ?_)
  refine lv_goto (tgt := 3) hx hb dX7_append_43 (by decide) ?_
  refine lv_iload_n hx hb dX7_append_3 rfl (lv_at hl 0 rfl) ?_
  refine lv_if_lt (tgt := 46) hx hb dX7_append_4 (by decide) (fun c_5 => absurd c_5 (by decide)) (fun _ => ?_)
  refine lv_aload_n hx hb dX7_append_7 rfl (lv_at hl 1 rfl) ?_
  refine va_get (D := (dC, dI)) (ci := 6) (v := .int 9) (C := RX7) (T := TX7) (N := 2) hx hb hts iX7_append_8_X7 hown hK hP 0 rfl rfl 1 (by decide) (hts (.fieldLink RX7 13 "LuckyTicket$Tape" "size" "I") (List.mem_of_getElem? (i := 1) rfl)) (fun _ h9 => h9) rfl dX7_append_8 ?_
  refine lv_sipush (v := 1200) hx hb dX7_append_11 (by decide) ?_
  refine lv_icmp_ge (tgt := 40) hx hb dX7_append_14 (by decide) (fun c_6 => absurd c_6 (by decide)) (fun _ => ?_)
  refine lv_aload_n hx hb dX7_append_17 rfl (lv_at hl 1 rfl) ?_
  refine va_get (D := (dC, dI)) (ci := 6) (v := .ref tb) (C := RX7) (T := TX7) (N := 2) hx hb hts iX7_append_8_X7 hown hK hP 0 rfl rfl 0 (by decide) (hts (.fieldLink RX7 9 "LuckyTicket$Tape" "bytes" "[B") (List.mem_of_getElem? (i := 2) rfl)) (fun _ h9 => h9) rfl dX7_append_18 ?_
  refine lv_aload_n hx hb dX7_append_21 rfl (lv_at hl 1 rfl) ?_
  refine va_get (D := (dC, dI)) (ci := 6) (v := .int 9) (C := RX7) (T := TX7) (N := 2) hx hb hts iX7_append_8_X7 hown hK hP 0 rfl rfl 1 (by decide) (hts (.fieldLink RX7 13 "LuckyTicket$Tape" "size" "I") (List.mem_of_getElem? (i := 1) rfl)) (fun _ h9 => h9) rfl dX7_append_22 ?_
  refine lv_iload_n hx hb dX7_append_25 rfl (lv_at hl 2 rfl) ?_
  refine lv_iload_n hx hb dX7_append_26 rfl (lv_at hl 0 rfl) ?_
  obtain ⟨z_7, ez_7⟩ : ∃ y : Int32, y = ((a1 : Int32).toUInt32 >>> ((16 : Int32).toUInt32 &&& Int32.toUInt32 31)).toInt32 := ⟨_, rfl⟩
  refine lv_iushr (v := z_7) hx hb dX7_append_27 ez_7.symm ?_
  refine lv_i2b (v := z_7.toInt8.toInt32) hx hb dX7_append_28 rfl ?_
  refine va_bast hx hb hK hP hD hS 1 0 rfl rfl (vp_in_lit (by decide)) dX7_append_29 (fun H locs hP hD hS => ?_)
  have hP : va_P (dC, dI) vwCl [(tp, .inr (6, [.ref tb, .int 9])), (tb, .inl (cB, 1200, .inl (upd (upd f (8 : Int32).toNatClampNeg (vp_nar .byte z_3.toInt8.toInt32)) (9 : Int32).toNatClampNeg (vp_nar .byte z_7.toInt8.toInt32))))] H := hP
  have hD : va_D A [(tp, .inr (6, [.ref tb, .int 9])), (tb, .inl (cB, 1200, .inl (upd (upd f (8 : Int32).toNatClampNeg (vp_nar .byte z_3.toInt8.toInt32)) (9 : Int32).toNatClampNeg (vp_nar .byte z_7.toInt8.toInt32))))] := hD
  refine lv_aload_n hx hb dX7_append_30 rfl (lv_at hl 1 rfl) ?_
  refine lv_dup hx hb dX7_append_31 rfl ?_
  refine va_get (D := (dC, dI)) (ci := 6) (v := .int 9) (C := RX7) (T := TX7) (N := 2) hx hb hts iX7_append_8_X7 hown hK hP 0 rfl rfl 1 (by decide) (hts (.fieldLink RX7 13 "LuckyTicket$Tape" "size" "I") (List.mem_of_getElem? (i := 1) rfl)) (fun _ h9 => h9) rfl dX7_append_32 ?_
  refine lv_iconst (v := 1) hx hb dX7_append_35 (by decide) ?_
  refine lv_iadd hx hb dX7_append_36 ?_
  refine lv_topi (fun z_8 ez_8 => ?_)
  obtain rfl : z_8 = 10 := ez_8.trans (by decide)
  refine va_put (D := (dC, dI)) (ci := 6) (v := .int 10) (ty := .int) (C := RX7) (T := TX7) (N := 2) hx hb hts iX7_append_8_X7 tyX7 tyX7_ok nmX7 hown hK hP hD hS 0 rfl rfl 1 (by decide) (hts (.fieldLink RX7 13 "LuckyTicket$Tape" "size" "I") (List.mem_of_getElem? (i := 1) rfl)) (fun _ h9 => h9) rfl (by decide +kernel) rfl rfl (Nat.le_of_ble_eq_true rfl) dX7_append_37 (fun H locs hP hD hS => ?_)
  have hP : va_P (dC, dI) vwCl [(tp, .inr (6, [.ref tb, .int 10])), (tb, .inl (cB, 1200, .inl (upd (upd f (8 : Int32).toNatClampNeg (vp_nar .byte z_3.toInt8.toInt32)) (9 : Int32).toNatClampNeg (vp_nar .byte z_7.toInt8.toInt32))))] H := hP
  have hD : va_D A [(tp, .inr (6, [.ref tb, .int 10])), (tb, .inl (cB, 1200, .inl (upd (upd f (8 : Int32).toNatClampNeg (vp_nar .byte z_3.toInt8.toInt32)) (9 : Int32).toNatClampNeg (vp_nar .byte z_7.toInt8.toInt32))))] := hD
  refine lv_iinc (v := 8) (lv' := [(2, .int 8), (0, .ref tp), (1, .int a1)]) hx hb dX7_append_40 hl (k := 0) rfl (by decide) (by decide) rfl (fun ls hl => ?_)
  refine lv_goto (tgt := 3) hx hb dX7_append_43 (by decide) ?_
  refine lv_iload_n hx hb dX7_append_3 rfl (lv_at hl 0 rfl) ?_
  refine lv_if_lt (tgt := 46) hx hb dX7_append_4 (by decide) (fun c_9 => absurd c_9 (by decide)) (fun _ => ?_)
  refine lv_aload_n hx hb dX7_append_7 rfl (lv_at hl 1 rfl) ?_
  refine va_get (D := (dC, dI)) (ci := 6) (v := .int 10) (C := RX7) (T := TX7) (N := 2) hx hb hts iX7_append_8_X7 hown hK hP 0 rfl rfl 1 (by decide) (hts (.fieldLink RX7 13 "LuckyTicket$Tape" "size" "I") (List.mem_of_getElem? (i := 1) rfl)) (fun _ h9 => h9) rfl dX7_append_8 ?_
  refine lv_sipush (v := 1200) hx hb dX7_append_11 (by decide) ?_
  refine lv_icmp_ge (tgt := 40) hx hb dX7_append_14 (by decide) (fun c_10 => absurd c_10 (by decide)) (fun _ => ?_)
  refine lv_aload_n hx hb dX7_append_17 rfl (lv_at hl 1 rfl) ?_
  refine va_get (D := (dC, dI)) (ci := 6) (v := .ref tb) (C := RX7) (T := TX7) (N := 2) hx hb hts iX7_append_8_X7 hown hK hP 0 rfl rfl 0 (by decide) (hts (.fieldLink RX7 9 "LuckyTicket$Tape" "bytes" "[B") (List.mem_of_getElem? (i := 2) rfl)) (fun _ h9 => h9) rfl dX7_append_18 ?_
  refine lv_aload_n hx hb dX7_append_21 rfl (lv_at hl 1 rfl) ?_
  refine va_get (D := (dC, dI)) (ci := 6) (v := .int 10) (C := RX7) (T := TX7) (N := 2) hx hb hts iX7_append_8_X7 hown hK hP 0 rfl rfl 1 (by decide) (hts (.fieldLink RX7 13 "LuckyTicket$Tape" "size" "I") (List.mem_of_getElem? (i := 1) rfl)) (fun _ h9 => h9) rfl dX7_append_22 ?_
  refine lv_iload_n hx hb dX7_append_25 rfl (lv_at hl 2 rfl) ?_
  refine lv_iload_n hx hb dX7_append_26 rfl (lv_at hl 0 rfl) ?_
  obtain ⟨z_11, ez_11⟩ : ∃ y : Int32, y = ((a1 : Int32).toUInt32 >>> ((8 : Int32).toUInt32 &&& Int32.toUInt32 31)).toInt32 := ⟨_, rfl⟩
  refine lv_iushr (v := z_11) hx hb dX7_append_27 ez_11.symm ?_
  refine lv_i2b (v := z_11.toInt8.toInt32) hx hb dX7_append_28 rfl ?_
  refine va_bast hx hb hK hP hD hS 1 0 rfl rfl (vp_in_lit (by decide)) dX7_append_29 (fun H locs hP hD hS => ?_)
  have hP : va_P (dC, dI) vwCl [(tp, .inr (6, [.ref tb, .int 10])), (tb, .inl (cB, 1200, .inl (upd (upd (upd f (8 : Int32).toNatClampNeg (vp_nar .byte z_3.toInt8.toInt32)) (9 : Int32).toNatClampNeg (vp_nar .byte z_7.toInt8.toInt32)) (10 : Int32).toNatClampNeg (vp_nar .byte z_11.toInt8.toInt32))))] H := hP
  have hD : va_D A [(tp, .inr (6, [.ref tb, .int 10])), (tb, .inl (cB, 1200, .inl (upd (upd (upd f (8 : Int32).toNatClampNeg (vp_nar .byte z_3.toInt8.toInt32)) (9 : Int32).toNatClampNeg (vp_nar .byte z_7.toInt8.toInt32)) (10 : Int32).toNatClampNeg (vp_nar .byte z_11.toInt8.toInt32))))] := hD
  refine lv_aload_n hx hb dX7_append_30 rfl (lv_at hl 1 rfl) ?_
  refine lv_dup hx hb dX7_append_31 rfl ?_
  refine va_get (D := (dC, dI)) (ci := 6) (v := .int 10) (C := RX7) (T := TX7) (N := 2) hx hb hts iX7_append_8_X7 hown hK hP 0 rfl rfl 1 (by decide) (hts (.fieldLink RX7 13 "LuckyTicket$Tape" "size" "I") (List.mem_of_getElem? (i := 1) rfl)) (fun _ h9 => h9) rfl dX7_append_32 ?_
  refine lv_iconst (v := 1) hx hb dX7_append_35 (by decide) ?_
  refine lv_iadd hx hb dX7_append_36 ?_
  refine lv_topi (fun z_12 ez_12 => ?_)
  obtain rfl : z_12 = 11 := ez_12.trans (by decide)
  refine va_put (D := (dC, dI)) (ci := 6) (v := .int 11) (ty := .int) (C := RX7) (T := TX7) (N := 2) hx hb hts iX7_append_8_X7 tyX7 tyX7_ok nmX7 hown hK hP hD hS 0 rfl rfl 1 (by decide) (hts (.fieldLink RX7 13 "LuckyTicket$Tape" "size" "I") (List.mem_of_getElem? (i := 1) rfl)) (fun _ h9 => h9) rfl (by decide +kernel) rfl rfl (Nat.le_of_ble_eq_true rfl) dX7_append_37 (fun H locs hP hD hS => ?_)
  have hP : va_P (dC, dI) vwCl [(tp, .inr (6, [.ref tb, .int 11])), (tb, .inl (cB, 1200, .inl (upd (upd (upd f (8 : Int32).toNatClampNeg (vp_nar .byte z_3.toInt8.toInt32)) (9 : Int32).toNatClampNeg (vp_nar .byte z_7.toInt8.toInt32)) (10 : Int32).toNatClampNeg (vp_nar .byte z_11.toInt8.toInt32))))] H := hP
  have hD : va_D A [(tp, .inr (6, [.ref tb, .int 11])), (tb, .inl (cB, 1200, .inl (upd (upd (upd f (8 : Int32).toNatClampNeg (vp_nar .byte z_3.toInt8.toInt32)) (9 : Int32).toNatClampNeg (vp_nar .byte z_7.toInt8.toInt32)) (10 : Int32).toNatClampNeg (vp_nar .byte z_11.toInt8.toInt32))))] := hD
  refine lv_iinc (v := 0) (lv' := [(2, .int 0), (0, .ref tp), (1, .int a1)]) hx hb dX7_append_40 hl (k := 0) rfl (by decide) (by decide) rfl (fun ls hl => ?_)
  refine lv_goto (tgt := 3) hx hb dX7_append_43 (by decide) ?_
  refine lv_iload_n hx hb dX7_append_3 rfl (lv_at hl 0 rfl) ?_
  refine lv_if_lt (tgt := 46) hx hb dX7_append_4 (by decide) (fun c_13 => absurd c_13 (by decide)) (fun _ => ?_)
  refine lv_aload_n hx hb dX7_append_7 rfl (lv_at hl 1 rfl) ?_
  refine va_get (D := (dC, dI)) (ci := 6) (v := .int 11) (C := RX7) (T := TX7) (N := 2) hx hb hts iX7_append_8_X7 hown hK hP 0 rfl rfl 1 (by decide) (hts (.fieldLink RX7 13 "LuckyTicket$Tape" "size" "I") (List.mem_of_getElem? (i := 1) rfl)) (fun _ h9 => h9) rfl dX7_append_8 ?_
  refine lv_sipush (v := 1200) hx hb dX7_append_11 (by decide) ?_
  refine lv_icmp_ge (tgt := 40) hx hb dX7_append_14 (by decide) (fun c_14 => absurd c_14 (by decide)) (fun _ => ?_)
  refine lv_aload_n hx hb dX7_append_17 rfl (lv_at hl 1 rfl) ?_
  refine va_get (D := (dC, dI)) (ci := 6) (v := .ref tb) (C := RX7) (T := TX7) (N := 2) hx hb hts iX7_append_8_X7 hown hK hP 0 rfl rfl 0 (by decide) (hts (.fieldLink RX7 9 "LuckyTicket$Tape" "bytes" "[B") (List.mem_of_getElem? (i := 2) rfl)) (fun _ h9 => h9) rfl dX7_append_18 ?_
  refine lv_aload_n hx hb dX7_append_21 rfl (lv_at hl 1 rfl) ?_
  refine va_get (D := (dC, dI)) (ci := 6) (v := .int 11) (C := RX7) (T := TX7) (N := 2) hx hb hts iX7_append_8_X7 hown hK hP 0 rfl rfl 1 (by decide) (hts (.fieldLink RX7 13 "LuckyTicket$Tape" "size" "I") (List.mem_of_getElem? (i := 1) rfl)) (fun _ h9 => h9) rfl dX7_append_22 ?_
  refine lv_iload_n hx hb dX7_append_25 rfl (lv_at hl 2 rfl) ?_
  refine lv_iload_n hx hb dX7_append_26 rfl (lv_at hl 0 rfl) ?_
  obtain ⟨z_15, ez_15⟩ : ∃ y : Int32, y = ((a1 : Int32).toUInt32 >>> ((0 : Int32).toUInt32 &&& Int32.toUInt32 31)).toInt32 := ⟨_, rfl⟩
  refine lv_iushr (v := z_15) hx hb dX7_append_27 ez_15.symm ?_
  refine lv_i2b (v := z_15.toInt8.toInt32) hx hb dX7_append_28 rfl ?_
  refine va_bast hx hb hK hP hD hS 1 0 rfl rfl (vp_in_lit (by decide)) dX7_append_29 (fun H locs hP hD hS => ?_)
  have hP : va_P (dC, dI) vwCl [(tp, .inr (6, [.ref tb, .int 11])), (tb, .inl (cB, 1200, .inl (upd (upd (upd (upd f (8 : Int32).toNatClampNeg (vp_nar .byte z_3.toInt8.toInt32)) (9 : Int32).toNatClampNeg (vp_nar .byte z_7.toInt8.toInt32)) (10 : Int32).toNatClampNeg (vp_nar .byte z_11.toInt8.toInt32)) (11 : Int32).toNatClampNeg (vp_nar .byte z_15.toInt8.toInt32))))] H := hP
  have hD : va_D A [(tp, .inr (6, [.ref tb, .int 11])), (tb, .inl (cB, 1200, .inl (upd (upd (upd (upd f (8 : Int32).toNatClampNeg (vp_nar .byte z_3.toInt8.toInt32)) (9 : Int32).toNatClampNeg (vp_nar .byte z_7.toInt8.toInt32)) (10 : Int32).toNatClampNeg (vp_nar .byte z_11.toInt8.toInt32)) (11 : Int32).toNatClampNeg (vp_nar .byte z_15.toInt8.toInt32))))] := hD
  refine lv_aload_n hx hb dX7_append_30 rfl (lv_at hl 1 rfl) ?_
  refine lv_dup hx hb dX7_append_31 rfl ?_
  refine va_get (D := (dC, dI)) (ci := 6) (v := .int 11) (C := RX7) (T := TX7) (N := 2) hx hb hts iX7_append_8_X7 hown hK hP 0 rfl rfl 1 (by decide) (hts (.fieldLink RX7 13 "LuckyTicket$Tape" "size" "I") (List.mem_of_getElem? (i := 1) rfl)) (fun _ h9 => h9) rfl dX7_append_32 ?_
  refine lv_iconst (v := 1) hx hb dX7_append_35 (by decide) ?_
  refine lv_iadd hx hb dX7_append_36 ?_
  refine lv_topi (fun z_16 ez_16 => ?_)
  obtain rfl : z_16 = 12 := ez_16.trans (by decide)
  refine va_put (D := (dC, dI)) (ci := 6) (v := .int 12) (ty := .int) (C := RX7) (T := TX7) (N := 2) hx hb hts iX7_append_8_X7 tyX7 tyX7_ok nmX7 hown hK hP hD hS 0 rfl rfl 1 (by decide) (hts (.fieldLink RX7 13 "LuckyTicket$Tape" "size" "I") (List.mem_of_getElem? (i := 1) rfl)) (fun _ h9 => h9) rfl (by decide +kernel) rfl rfl (Nat.le_of_ble_eq_true rfl) dX7_append_37 (fun H locs hP hD hS => ?_)
  have hP : va_P (dC, dI) vwCl [(tp, .inr (6, [.ref tb, .int 12])), (tb, .inl (cB, 1200, .inl (upd (upd (upd (upd f (8 : Int32).toNatClampNeg (vp_nar .byte z_3.toInt8.toInt32)) (9 : Int32).toNatClampNeg (vp_nar .byte z_7.toInt8.toInt32)) (10 : Int32).toNatClampNeg (vp_nar .byte z_11.toInt8.toInt32)) (11 : Int32).toNatClampNeg (vp_nar .byte z_15.toInt8.toInt32))))] H := hP
  have hD : va_D A [(tp, .inr (6, [.ref tb, .int 12])), (tb, .inl (cB, 1200, .inl (upd (upd (upd (upd f (8 : Int32).toNatClampNeg (vp_nar .byte z_3.toInt8.toInt32)) (9 : Int32).toNatClampNeg (vp_nar .byte z_7.toInt8.toInt32)) (10 : Int32).toNatClampNeg (vp_nar .byte z_11.toInt8.toInt32)) (11 : Int32).toNatClampNeg (vp_nar .byte z_15.toInt8.toInt32))))] := hD
  refine lv_iinc (v := (-8)) (lv' := [(2, .int (-8)), (0, .ref tp), (1, .int a1)]) hx hb dX7_append_40 hl (k := 0) rfl (by decide) (by decide) rfl (fun ls hl => ?_)
  refine lv_goto (tgt := 3) hx hb dX7_append_43 (by decide) ?_
  refine lv_iload_n hx hb dX7_append_3 rfl (lv_at hl 0 rfl) ?_
  refine lv_if_lt (tgt := 46) hx hb dX7_append_4 (by decide) (fun _ => ?_) (fun c_17 => absurd c_17 (by decide))
  have hP9 := hP.sub (ws' := [(tp, .inr (6, [.ref tb, .int 12])), (tb, .inl (cB, 1200, .inl (upd (upd (upd (upd f (8 : Int32).toNatClampNeg (vp_nar .byte z_3.toInt8.toInt32)) (9 : Int32).toNatClampNeg (vp_nar .byte z_7.toInt8.toInt32)) (10 : Int32).toNatClampNeg (vp_nar .byte z_11.toInt8.toInt32)) (11 : Int32).toNatClampNeg (vp_nar .byte z_15.toInt8.toInt32))))]) [0, 1] rfl
  have hD9 := hD.sub (ws' := [(tp, .inr (6, [.ref tb, .int 12])), (tb, .inl (cB, 1200, .inl (upd (upd (upd (upd f (8 : Int32).toNatClampNeg (vp_nar .byte z_3.toInt8.toInt32)) (9 : Int32).toNatClampNeg (vp_nar .byte z_7.toInt8.toInt32)) (10 : Int32).toNatClampNeg (vp_nar .byte z_11.toInt8.toInt32)) (11 : Int32).toNatClampNeg (vp_nar .byte z_15.toInt8.toInt32))))]) [0, 1] (by decide) rfl
  have hK9 := hK.sub (tys' := [(cB, .byte)]) [0] rfl
  exact W.vret hx hb hr (fun t ht hW => ⟨⟨(), rfl, trivial, (upd (upd (upd (upd f (8 : Int32).toNatClampNeg (vp_nar .byte z_3.toInt8.toInt32)) (9 : Int32).toNatClampNeg (vp_nar .byte z_7.toInt8.toInt32)) (10 : Int32).toNatClampNeg (vp_nar .byte z_11.toInt8.toInt32)) (11 : Int32).toNatClampNeg (vp_nar .byte z_15.toInt8.toInt32)), by rw [ht]; exact hP9, va_K.moved hW.alike hK9, hD9⟩, hS.F ht⟩) hS.2.2 dX7_append_46
def uX7_append_12 : List Cond := .code yX7_append cX7_append 3 none :: ([.fieldLink RX7 13 "LuckyTicket$Tape" "size" "I", .fieldLink RX7 9 "LuckyTicket$Tape" "bytes" "[B"] ++ wsX70)
theorem iX7_append_12_X7 : ∀ w ∈ wsX70, w ∈ uX7_append_12 := fun _ h => List.mem_cons_of_mem _ (List.mem_append_right _ h)
set_option maxHeartbeats 4000000 in
set_option maxRecDepth 100000 in
theorem kX7_append_12 (l : Launch) (dC : Nat → ClassId) (dI : Nat → Nat → Nat) (tp : Nat) (tb : Nat) (cB : ClassId) (f : Nat → Int32) (a1 : Int32) (sz : Nat) : Met l yX7_append uX7_append_12 ({ frames := 0, cells := 0, slots := 0, locals := 0 }) (va_Pc [.ref tp, .int a1] (hw (dC, dI) vwCl [(tp, .inr (6, [.ref tb, .int 12])), (tb, .inl (cB, 1200, .inl f))] [(cB, .byte)] sz)) (va_Qv (fun (_ : Unit) => True) (fun (_ : Unit) t => ∃ (f2 : Nat → Int32), va_P (dC, dI) vwCl [(tp, .inr (6, [.ref tb, .int 16])), (tb, .inl (cB, 1200, .inl f2))] t.heap ∧ va_K (dC, dI) vwCl [(cB, .byte)] t ∧ va_D (va_A [(tp, .inr (6, [.ref tb, .int 12])), (tb, .inl (cB, 1200, .inl f))] sz) [(tp, .inr (6, [.ref tb, .int 16])), (tb, .inl (cB, 1200, .inl f2))]) (va_A [(tp, .inr (6, [.ref tb, .int 12])), (tb, .inl (cB, 1200, .inl f))] sz)) 0 0 (va_A [(tp, .inr (6, [.ref tb, .int 12])), (tb, .inl (cB, 1200, .inl f))] sz) := by
  refine Met.ofW (cc := cX7_append) (maxL := 3) (ret := none) (by decide) rfl ?_
  intro p e s m args below meth c s₁ B hml hv
  obtain ⟨rfl, hsz, hP, hK, hD0, hN⟩ := hv
  have hx := B.exec
  have hb := B.bytes
  have hr := B.returns
  have hts := atoms_spec (ws := uX7_append_12) B.pre
  have hown : s.vm.findClass RX7 = some m.cls := findClass_of_methodNamed B.named
  have hlocks := B.notSynchronized
  subst hsz
  have hD := hD0.self (sz := s.heap.size)
  generalize hAe : va_A [(tp, .inr (6, [.ref tb, .int 12])), (tb, .inl (cB, 1200, .inl f))] s.heap.size = A at hD ⊢
  have hA : ∀ q : Nat, s.heap.size ≤ q → A q := fun q h => by rw [← hAe]; exact Or.inr h
  have hS : va_S A s.heap s.heap [] := va_S.rf
  have hP : va_P (dC, dI) vwCl [(tp, .inr (6, [.ref tb, .int 12])), (tb, .inl (cB, 1200, .inl f))] s.heap := hP
  have hl := lv_entry ([.ref tp, .int a1]) (n := 3) (Nat.le_of_ble_eq_true rfl)
  rw [lg_entry_eq]
  generalize (lg_sl ([.ref tp, .int a1]) ++ List.replicate (3 - (lg_sl ([.ref tp, .int a1])).length) Slot.unset).toArray = ls at hl ⊢
  have hl : lv_has ls 3 [(0, .ref tp), (1, .int a1)] := hl
  refine lv_bipush (v := 24) hx hb dX7_append_0 (by decide) ?_
  refine lv_istore_n (lv' := [(2, .int 24), (0, .ref tp), (1, .int a1)]) hx hb dX7_append_2 rfl hl (by decide) rfl (fun ls hl => ?_)
  refine lv_iload_n hx hb dX7_append_3 rfl (lv_at hl 0 rfl) ?_
  refine lv_if_lt (tgt := 46) hx hb dX7_append_4 (by decide) (fun c_1 => absurd c_1 (by decide)) (fun _ => ?_)
  refine lv_aload_n hx hb dX7_append_7 rfl (lv_at hl 1 rfl) ?_
  refine va_get (D := (dC, dI)) (ci := 6) (v := .int 12) (C := RX7) (T := TX7) (N := 2) hx hb hts iX7_append_12_X7 hown hK hP 0 rfl rfl 1 (by decide) (hts (.fieldLink RX7 13 "LuckyTicket$Tape" "size" "I") (List.mem_of_getElem? (i := 1) rfl)) (fun _ h9 => h9) rfl dX7_append_8 ?_
  refine lv_sipush (v := 1200) hx hb dX7_append_11 (by decide) ?_
  refine lv_icmp_ge (tgt := 40) hx hb dX7_append_14 (by decide) (fun c_2 => absurd c_2 (by decide)) (fun _ => ?_)
  refine lv_aload_n hx hb dX7_append_17 rfl (lv_at hl 1 rfl) ?_
  refine va_get (D := (dC, dI)) (ci := 6) (v := .ref tb) (C := RX7) (T := TX7) (N := 2) hx hb hts iX7_append_12_X7 hown hK hP 0 rfl rfl 0 (by decide) (hts (.fieldLink RX7 9 "LuckyTicket$Tape" "bytes" "[B") (List.mem_of_getElem? (i := 2) rfl)) (fun _ h9 => h9) rfl dX7_append_18 ?_
  refine lv_aload_n hx hb dX7_append_21 rfl (lv_at hl 1 rfl) ?_
  refine va_get (D := (dC, dI)) (ci := 6) (v := .int 12) (C := RX7) (T := TX7) (N := 2) hx hb hts iX7_append_12_X7 hown hK hP 0 rfl rfl 1 (by decide) (hts (.fieldLink RX7 13 "LuckyTicket$Tape" "size" "I") (List.mem_of_getElem? (i := 1) rfl)) (fun _ h9 => h9) rfl dX7_append_22 ?_
  refine lv_iload_n hx hb dX7_append_25 rfl (lv_at hl 2 rfl) ?_
  refine lv_iload_n hx hb dX7_append_26 rfl (lv_at hl 0 rfl) ?_
  obtain ⟨z_3, ez_3⟩ : ∃ y : Int32, y = ((a1 : Int32).toUInt32 >>> ((24 : Int32).toUInt32 &&& Int32.toUInt32 31)).toInt32 := ⟨_, rfl⟩
  refine lv_iushr (v := z_3) hx hb dX7_append_27 ez_3.symm ?_
  refine lv_i2b (v := z_3.toInt8.toInt32) hx hb dX7_append_28 rfl ?_
  refine va_bast hx hb hK hP hD hS 1 0 rfl rfl (vp_in_lit (by decide)) dX7_append_29 (fun H locs hP hD hS => ?_)
  have hP : va_P (dC, dI) vwCl [(tp, .inr (6, [.ref tb, .int 12])), (tb, .inl (cB, 1200, .inl (upd f (12 : Int32).toNatClampNeg (vp_nar .byte z_3.toInt8.toInt32))))] H := hP
  have hD : va_D A [(tp, .inr (6, [.ref tb, .int 12])), (tb, .inl (cB, 1200, .inl (upd f (12 : Int32).toNatClampNeg (vp_nar .byte z_3.toInt8.toInt32))))] := hD
  refine lv_aload_n hx hb dX7_append_30 rfl (lv_at hl 1 rfl) ?_
  refine lv_dup hx hb dX7_append_31 rfl ?_
  refine va_get (D := (dC, dI)) (ci := 6) (v := .int 12) (C := RX7) (T := TX7) (N := 2) hx hb hts iX7_append_12_X7 hown hK hP 0 rfl rfl 1 (by decide) (hts (.fieldLink RX7 13 "LuckyTicket$Tape" "size" "I") (List.mem_of_getElem? (i := 1) rfl)) (fun _ h9 => h9) rfl dX7_append_32 ?_
  refine lv_iconst (v := 1) hx hb dX7_append_35 (by decide) ?_
  refine lv_iadd hx hb dX7_append_36 ?_
  refine lv_topi (fun z_4 ez_4 => ?_)
  obtain rfl : z_4 = 13 := ez_4.trans (by decide)
  refine va_put (D := (dC, dI)) (ci := 6) (v := .int 13) (ty := .int) (C := RX7) (T := TX7) (N := 2) hx hb hts iX7_append_12_X7 tyX7 tyX7_ok nmX7 hown hK hP hD hS 0 rfl rfl 1 (by decide) (hts (.fieldLink RX7 13 "LuckyTicket$Tape" "size" "I") (List.mem_of_getElem? (i := 1) rfl)) (fun _ h9 => h9) rfl (by decide +kernel) rfl rfl (Nat.le_of_ble_eq_true rfl) dX7_append_37 (fun H locs hP hD hS => ?_)
  have hP : va_P (dC, dI) vwCl [(tp, .inr (6, [.ref tb, .int 13])), (tb, .inl (cB, 1200, .inl (upd f (12 : Int32).toNatClampNeg (vp_nar .byte z_3.toInt8.toInt32))))] H := hP
  have hD : va_D A [(tp, .inr (6, [.ref tb, .int 13])), (tb, .inl (cB, 1200, .inl (upd f (12 : Int32).toNatClampNeg (vp_nar .byte z_3.toInt8.toInt32))))] := hD
  refine lv_iinc (v := 16) (lv' := [(2, .int 16), (0, .ref tp), (1, .int a1)]) hx hb dX7_append_40 hl (k := 0) rfl (by decide) (by decide) rfl (fun ls hl => ?_)
  refine lv_goto (tgt := 3) hx hb dX7_append_43 (by decide) ?_
  refine lv_iload_n hx hb dX7_append_3 rfl (lv_at hl 0 rfl) ?_
  refine lv_if_lt (tgt := 46) hx hb dX7_append_4 (by decide) (fun c_5 => absurd c_5 (by decide)) (fun _ => ?_)
  refine lv_aload_n hx hb dX7_append_7 rfl (lv_at hl 1 rfl) ?_
  refine va_get (D := (dC, dI)) (ci := 6) (v := .int 13) (C := RX7) (T := TX7) (N := 2) hx hb hts iX7_append_12_X7 hown hK hP 0 rfl rfl 1 (by decide) (hts (.fieldLink RX7 13 "LuckyTicket$Tape" "size" "I") (List.mem_of_getElem? (i := 1) rfl)) (fun _ h9 => h9) rfl dX7_append_8 ?_
  refine lv_sipush (v := 1200) hx hb dX7_append_11 (by decide) ?_
  refine lv_icmp_ge (tgt := 40) hx hb dX7_append_14 (by decide) (fun c_6 => absurd c_6 (by decide)) (fun _ => ?_)
  refine lv_aload_n hx hb dX7_append_17 rfl (lv_at hl 1 rfl) ?_
  refine va_get (D := (dC, dI)) (ci := 6) (v := .ref tb) (C := RX7) (T := TX7) (N := 2) hx hb hts iX7_append_12_X7 hown hK hP 0 rfl rfl 0 (by decide) (hts (.fieldLink RX7 9 "LuckyTicket$Tape" "bytes" "[B") (List.mem_of_getElem? (i := 2) rfl)) (fun _ h9 => h9) rfl dX7_append_18 ?_
  refine lv_aload_n hx hb dX7_append_21 rfl (lv_at hl 1 rfl) ?_
  refine va_get (D := (dC, dI)) (ci := 6) (v := .int 13) (C := RX7) (T := TX7) (N := 2) hx hb hts iX7_append_12_X7 hown hK hP 0 rfl rfl 1 (by decide) (hts (.fieldLink RX7 13 "LuckyTicket$Tape" "size" "I") (List.mem_of_getElem? (i := 1) rfl)) (fun _ h9 => h9) rfl dX7_append_22 ?_
  refine lv_iload_n hx hb dX7_append_25 rfl (lv_at hl 2 rfl) ?_
  refine lv_iload_n hx hb dX7_append_26 rfl (lv_at hl 0 rfl) ?_
  obtain ⟨z_7, ez_7⟩ : ∃ y : Int32, y = ((a1 : Int32).toUInt32 >>> ((16 : Int32).toUInt32 &&& Int32.toUInt32 31)).toInt32 := ⟨_, rfl⟩
  refine lv_iushr (v := z_7) hx hb dX7_append_27 ez_7.symm ?_
  refine lv_i2b (v := z_7.toInt8.toInt32) hx hb dX7_append_28 rfl ?_
  refine va_bast hx hb hK hP hD hS 1 0 rfl rfl (vp_in_lit (by decide)) dX7_append_29 (fun H locs hP hD hS => ?_)
  have hP : va_P (dC, dI) vwCl [(tp, .inr (6, [.ref tb, .int 13])), (tb, .inl (cB, 1200, .inl (upd (upd f (12 : Int32).toNatClampNeg (vp_nar .byte z_3.toInt8.toInt32)) (13 : Int32).toNatClampNeg (vp_nar .byte z_7.toInt8.toInt32))))] H := hP
  have hD : va_D A [(tp, .inr (6, [.ref tb, .int 13])), (tb, .inl (cB, 1200, .inl (upd (upd f (12 : Int32).toNatClampNeg (vp_nar .byte z_3.toInt8.toInt32)) (13 : Int32).toNatClampNeg (vp_nar .byte z_7.toInt8.toInt32))))] := hD
  refine lv_aload_n hx hb dX7_append_30 rfl (lv_at hl 1 rfl) ?_
  refine lv_dup hx hb dX7_append_31 rfl ?_
  refine va_get (D := (dC, dI)) (ci := 6) (v := .int 13) (C := RX7) (T := TX7) (N := 2) hx hb hts iX7_append_12_X7 hown hK hP 0 rfl rfl 1 (by decide) (hts (.fieldLink RX7 13 "LuckyTicket$Tape" "size" "I") (List.mem_of_getElem? (i := 1) rfl)) (fun _ h9 => h9) rfl dX7_append_32 ?_
  refine lv_iconst (v := 1) hx hb dX7_append_35 (by decide) ?_
  refine lv_iadd hx hb dX7_append_36 ?_
  refine lv_topi (fun z_8 ez_8 => ?_)
  obtain rfl : z_8 = 14 := ez_8.trans (by decide)
  refine va_put (D := (dC, dI)) (ci := 6) (v := .int 14) (ty := .int) (C := RX7) (T := TX7) (N := 2) hx hb hts iX7_append_12_X7 tyX7 tyX7_ok nmX7 hown hK hP hD hS 0 rfl rfl 1 (by decide) (hts (.fieldLink RX7 13 "LuckyTicket$Tape" "size" "I") (List.mem_of_getElem? (i := 1) rfl)) (fun _ h9 => h9) rfl (by decide +kernel) rfl rfl (Nat.le_of_ble_eq_true rfl) dX7_append_37 (fun H locs hP hD hS => ?_)
  have hP : va_P (dC, dI) vwCl [(tp, .inr (6, [.ref tb, .int 14])), (tb, .inl (cB, 1200, .inl (upd (upd f (12 : Int32).toNatClampNeg (vp_nar .byte z_3.toInt8.toInt32)) (13 : Int32).toNatClampNeg (vp_nar .byte z_7.toInt8.toInt32))))] H := hP
  have hD : va_D A [(tp, .inr (6, [.ref tb, .int 14])), (tb, .inl (cB, 1200, .inl (upd (upd f (12 : Int32).toNatClampNeg (vp_nar .byte z_3.toInt8.toInt32)) (13 : Int32).toNatClampNeg (vp_nar .byte z_7.toInt8.toInt32))))] := hD
  refine lv_iinc (v := 8) (lv' := [(2, .int 8), (0, .ref tp), (1, .int a1)]) hx hb dX7_append_40 hl (k := 0) rfl (by decide) (by decide) rfl (fun ls hl => ?_)
  refine lv_goto (tgt := 3) hx hb dX7_append_43 (by decide) ?_
  refine lv_iload_n hx hb dX7_append_3 rfl (lv_at hl 0 rfl) ?_
  refine lv_if_lt (tgt := 46) hx hb dX7_append_4 (by decide) (fun c_9 => absurd c_9 (by decide)) (fun _ => ?_)
  refine lv_aload_n hx hb dX7_append_7 rfl (lv_at hl 1 rfl) ?_
  refine va_get (D := (dC, dI)) (ci := 6) (v := .int 14) (C := RX7) (T := TX7) (N := 2) hx hb hts iX7_append_12_X7 hown hK hP 0 rfl rfl 1 (by decide) (hts (.fieldLink RX7 13 "LuckyTicket$Tape" "size" "I") (List.mem_of_getElem? (i := 1) rfl)) (fun _ h9 => h9) rfl dX7_append_8 ?_
  refine lv_sipush (v := 1200) hx hb dX7_append_11 (by decide) ?_
  refine lv_icmp_ge (tgt := 40) hx hb dX7_append_14 (by decide) (fun c_10 => absurd c_10 (by decide)) (fun _ => ?_)
  refine lv_aload_n hx hb dX7_append_17 rfl (lv_at hl 1 rfl) ?_
  refine va_get (D := (dC, dI)) (ci := 6) (v := .ref tb) (C := RX7) (T := TX7) (N := 2) hx hb hts iX7_append_12_X7 hown hK hP 0 rfl rfl 0 (by decide) (hts (.fieldLink RX7 9 "LuckyTicket$Tape" "bytes" "[B") (List.mem_of_getElem? (i := 2) rfl)) (fun _ h9 => h9) rfl dX7_append_18 ?_
  refine lv_aload_n hx hb dX7_append_21 rfl (lv_at hl 1 rfl) ?_
  refine va_get (D := (dC, dI)) (ci := 6) (v := .int 14) (C := RX7) (T := TX7) (N := 2) hx hb hts iX7_append_12_X7 hown hK hP 0 rfl rfl 1 (by decide) (hts (.fieldLink RX7 13 "LuckyTicket$Tape" "size" "I") (List.mem_of_getElem? (i := 1) rfl)) (fun _ h9 => h9) rfl dX7_append_22 ?_
  refine lv_iload_n hx hb dX7_append_25 rfl (lv_at hl 2 rfl) ?_
  refine lv_iload_n hx hb dX7_append_26 rfl (lv_at hl 0 rfl) ?_
  obtain ⟨z_11, ez_11⟩ : ∃ y : Int32, y = ((a1 : Int32).toUInt32 >>> ((8 : Int32).toUInt32 &&& Int32.toUInt32 31)).toInt32 := ⟨_, rfl⟩
  refine lv_iushr (v := z_11) hx hb dX7_append_27 ez_11.symm ?_
  refine lv_i2b (v := z_11.toInt8.toInt32) hx hb dX7_append_28 rfl ?_
  refine va_bast hx hb hK hP hD hS 1 0 rfl rfl (vp_in_lit (by decide)) dX7_append_29 (fun H locs hP hD hS => ?_)
  have hP : va_P (dC, dI) vwCl [(tp, .inr (6, [.ref tb, .int 14])), (tb, .inl (cB, 1200, .inl (upd (upd (upd f (12 : Int32).toNatClampNeg (vp_nar .byte z_3.toInt8.toInt32)) (13 : Int32).toNatClampNeg (vp_nar .byte z_7.toInt8.toInt32)) (14 : Int32).toNatClampNeg (vp_nar .byte z_11.toInt8.toInt32))))] H := hP
  have hD : va_D A [(tp, .inr (6, [.ref tb, .int 14])), (tb, .inl (cB, 1200, .inl (upd (upd (upd f (12 : Int32).toNatClampNeg (vp_nar .byte z_3.toInt8.toInt32)) (13 : Int32).toNatClampNeg (vp_nar .byte z_7.toInt8.toInt32)) (14 : Int32).toNatClampNeg (vp_nar .byte z_11.toInt8.toInt32))))] := hD
  refine lv_aload_n hx hb dX7_append_30 rfl (lv_at hl 1 rfl) ?_
  refine lv_dup hx hb dX7_append_31 rfl ?_
  refine va_get (D := (dC, dI)) (ci := 6) (v := .int 14) (C := RX7) (T := TX7) (N := 2) hx hb hts iX7_append_12_X7 hown hK hP 0 rfl rfl 1 (by decide) (hts (.fieldLink RX7 13 "LuckyTicket$Tape" "size" "I") (List.mem_of_getElem? (i := 1) rfl)) (fun _ h9 => h9) rfl dX7_append_32 ?_
  refine lv_iconst (v := 1) hx hb dX7_append_35 (by decide) ?_
  refine lv_iadd hx hb dX7_append_36 ?_
  refine lv_topi (fun z_12 ez_12 => ?_)
  obtain rfl : z_12 = 15 := ez_12.trans (by decide)
  refine va_put (D := (dC, dI)) (ci := 6) (v := .int 15) (ty := .int) (C := RX7) (T := TX7) (N := 2) hx hb hts iX7_append_12_X7 tyX7 tyX7_ok nmX7 hown hK hP hD hS 0 rfl rfl 1 (by decide) (hts (.fieldLink RX7 13 "LuckyTicket$Tape" "size" "I") (List.mem_of_getElem? (i := 1) rfl)) (fun _ h9 => h9) rfl (by decide +kernel) rfl rfl (Nat.le_of_ble_eq_true rfl) dX7_append_37 (fun H locs hP hD hS => ?_)
  have hP : va_P (dC, dI) vwCl [(tp, .inr (6, [.ref tb, .int 15])), (tb, .inl (cB, 1200, .inl (upd (upd (upd f (12 : Int32).toNatClampNeg (vp_nar .byte z_3.toInt8.toInt32)) (13 : Int32).toNatClampNeg (vp_nar .byte z_7.toInt8.toInt32)) (14 : Int32).toNatClampNeg (vp_nar .byte z_11.toInt8.toInt32))))] H := hP
  have hD : va_D A [(tp, .inr (6, [.ref tb, .int 15])), (tb, .inl (cB, 1200, .inl (upd (upd (upd f (12 : Int32).toNatClampNeg (vp_nar .byte z_3.toInt8.toInt32)) (13 : Int32).toNatClampNeg (vp_nar .byte z_7.toInt8.toInt32)) (14 : Int32).toNatClampNeg (vp_nar .byte z_11.toInt8.toInt32))))] := hD
  refine lv_iinc (v := 0) (lv' := [(2, .int 0), (0, .ref tp), (1, .int a1)]) hx hb dX7_append_40 hl (k := 0) rfl (by decide) (by decide) rfl (fun ls hl => ?_)
  refine lv_goto (tgt := 3) hx hb dX7_append_43 (by decide) ?_
  refine lv_iload_n hx hb dX7_append_3 rfl (lv_at hl 0 rfl) ?_
  refine lv_if_lt (tgt := 46) hx hb dX7_append_4 (by decide) (fun c_13 => absurd c_13 (by decide)) (fun _ => ?_)
  refine lv_aload_n hx hb dX7_append_7 rfl (lv_at hl 1 rfl) ?_
  refine va_get (D := (dC, dI)) (ci := 6) (v := .int 15) (C := RX7) (T := TX7) (N := 2) hx hb hts iX7_append_12_X7 hown hK hP 0 rfl rfl 1 (by decide) (hts (.fieldLink RX7 13 "LuckyTicket$Tape" "size" "I") (List.mem_of_getElem? (i := 1) rfl)) (fun _ h9 => h9) rfl dX7_append_8 ?_
  refine lv_sipush (v := 1200) hx hb dX7_append_11 (by decide) ?_
  refine lv_icmp_ge (tgt := 40) hx hb dX7_append_14 (by decide) (fun c_14 => absurd c_14 (by decide)) (fun _ => ?_)
  refine lv_aload_n hx hb dX7_append_17 rfl (lv_at hl 1 rfl) ?_
  refine va_get (D := (dC, dI)) (ci := 6) (v := .ref tb) (C := RX7) (T := TX7) (N := 2) hx hb hts iX7_append_12_X7 hown hK hP 0 rfl rfl 0 (by decide) (hts (.fieldLink RX7 9 "LuckyTicket$Tape" "bytes" "[B") (List.mem_of_getElem? (i := 2) rfl)) (fun _ h9 => h9) rfl dX7_append_18 ?_
  refine lv_aload_n hx hb dX7_append_21 rfl (lv_at hl 1 rfl) ?_
  refine va_get (D := (dC, dI)) (ci := 6) (v := .int 15) (C := RX7) (T := TX7) (N := 2) hx hb hts iX7_append_12_X7 hown hK hP 0 rfl rfl 1 (by decide) (hts (.fieldLink RX7 13 "LuckyTicket$Tape" "size" "I") (List.mem_of_getElem? (i := 1) rfl)) (fun _ h9 => h9) rfl dX7_append_22 ?_
  refine lv_iload_n hx hb dX7_append_25 rfl (lv_at hl 2 rfl) ?_
  refine lv_iload_n hx hb dX7_append_26 rfl (lv_at hl 0 rfl) ?_
  obtain ⟨z_15, ez_15⟩ : ∃ y : Int32, y = ((a1 : Int32).toUInt32 >>> ((0 : Int32).toUInt32 &&& Int32.toUInt32 31)).toInt32 := ⟨_, rfl⟩
  refine lv_iushr (v := z_15) hx hb dX7_append_27 ez_15.symm ?_
  refine lv_i2b (v := z_15.toInt8.toInt32) hx hb dX7_append_28 rfl ?_
  refine va_bast hx hb hK hP hD hS 1 0 rfl rfl (vp_in_lit (by decide)) dX7_append_29 (fun H locs hP hD hS => ?_)
  have hP : va_P (dC, dI) vwCl [(tp, .inr (6, [.ref tb, .int 15])), (tb, .inl (cB, 1200, .inl (upd (upd (upd (upd f (12 : Int32).toNatClampNeg (vp_nar .byte z_3.toInt8.toInt32)) (13 : Int32).toNatClampNeg (vp_nar .byte z_7.toInt8.toInt32)) (14 : Int32).toNatClampNeg (vp_nar .byte z_11.toInt8.toInt32)) (15 : Int32).toNatClampNeg (vp_nar .byte z_15.toInt8.toInt32))))] H := hP
  have hD : va_D A [(tp, .inr (6, [.ref tb, .int 15])), (tb, .inl (cB, 1200, .inl (upd (upd (upd (upd f (12 : Int32).toNatClampNeg (vp_nar .byte z_3.toInt8.toInt32)) (13 : Int32).toNatClampNeg (vp_nar .byte z_7.toInt8.toInt32)) (14 : Int32).toNatClampNeg (vp_nar .byte z_11.toInt8.toInt32)) (15 : Int32).toNatClampNeg (vp_nar .byte z_15.toInt8.toInt32))))] := hD
  refine lv_aload_n hx hb dX7_append_30 rfl (lv_at hl 1 rfl) ?_
  refine lv_dup hx hb dX7_append_31 rfl ?_
  refine va_get (D := (dC, dI)) (ci := 6) (v := .int 15) (C := RX7) (T := TX7) (N := 2) hx hb hts iX7_append_12_X7 hown hK hP 0 rfl rfl 1 (by decide) (hts (.fieldLink RX7 13 "LuckyTicket$Tape" "size" "I") (List.mem_of_getElem? (i := 1) rfl)) (fun _ h9 => h9) rfl dX7_append_32 ?_
  refine lv_iconst (v := 1) hx hb dX7_append_35 (by decide) ?_
  refine lv_iadd hx hb dX7_append_36 ?_
  refine lv_topi (fun z_16 ez_16 => ?_)
  obtain rfl : z_16 = 16 := ez_16.trans (by decide)
  refine va_put (D := (dC, dI)) (ci := 6) (v := .int 16) (ty := .int) (C := RX7) (T := TX7) (N := 2) hx hb hts iX7_append_12_X7 tyX7 tyX7_ok nmX7 hown hK hP hD hS 0 rfl rfl 1 (by decide) (hts (.fieldLink RX7 13 "LuckyTicket$Tape" "size" "I") (List.mem_of_getElem? (i := 1) rfl)) (fun _ h9 => h9) rfl (by decide +kernel) rfl rfl (Nat.le_of_ble_eq_true rfl) dX7_append_37 (fun H locs hP hD hS => ?_)
  have hP : va_P (dC, dI) vwCl [(tp, .inr (6, [.ref tb, .int 16])), (tb, .inl (cB, 1200, .inl (upd (upd (upd (upd f (12 : Int32).toNatClampNeg (vp_nar .byte z_3.toInt8.toInt32)) (13 : Int32).toNatClampNeg (vp_nar .byte z_7.toInt8.toInt32)) (14 : Int32).toNatClampNeg (vp_nar .byte z_11.toInt8.toInt32)) (15 : Int32).toNatClampNeg (vp_nar .byte z_15.toInt8.toInt32))))] H := hP
  have hD : va_D A [(tp, .inr (6, [.ref tb, .int 16])), (tb, .inl (cB, 1200, .inl (upd (upd (upd (upd f (12 : Int32).toNatClampNeg (vp_nar .byte z_3.toInt8.toInt32)) (13 : Int32).toNatClampNeg (vp_nar .byte z_7.toInt8.toInt32)) (14 : Int32).toNatClampNeg (vp_nar .byte z_11.toInt8.toInt32)) (15 : Int32).toNatClampNeg (vp_nar .byte z_15.toInt8.toInt32))))] := hD
  refine lv_iinc (v := (-8)) (lv' := [(2, .int (-8)), (0, .ref tp), (1, .int a1)]) hx hb dX7_append_40 hl (k := 0) rfl (by decide) (by decide) rfl (fun ls hl => ?_)
  refine lv_goto (tgt := 3) hx hb dX7_append_43 (by decide) ?_
  refine lv_iload_n hx hb dX7_append_3 rfl (lv_at hl 0 rfl) ?_
  refine lv_if_lt (tgt := 46) hx hb dX7_append_4 (by decide) (fun _ => ?_) (fun c_17 => absurd c_17 (by decide))
  have hP9 := hP.sub (ws' := [(tp, .inr (6, [.ref tb, .int 16])), (tb, .inl (cB, 1200, .inl (upd (upd (upd (upd f (12 : Int32).toNatClampNeg (vp_nar .byte z_3.toInt8.toInt32)) (13 : Int32).toNatClampNeg (vp_nar .byte z_7.toInt8.toInt32)) (14 : Int32).toNatClampNeg (vp_nar .byte z_11.toInt8.toInt32)) (15 : Int32).toNatClampNeg (vp_nar .byte z_15.toInt8.toInt32))))]) [0, 1] rfl
  have hD9 := hD.sub (ws' := [(tp, .inr (6, [.ref tb, .int 16])), (tb, .inl (cB, 1200, .inl (upd (upd (upd (upd f (12 : Int32).toNatClampNeg (vp_nar .byte z_3.toInt8.toInt32)) (13 : Int32).toNatClampNeg (vp_nar .byte z_7.toInt8.toInt32)) (14 : Int32).toNatClampNeg (vp_nar .byte z_11.toInt8.toInt32)) (15 : Int32).toNatClampNeg (vp_nar .byte z_15.toInt8.toInt32))))]) [0, 1] (by decide) rfl
  have hK9 := hK.sub (tys' := [(cB, .byte)]) [0] rfl
  exact W.vret hx hb hr (fun t ht hW => ⟨⟨(), rfl, trivial, (upd (upd (upd (upd f (12 : Int32).toNatClampNeg (vp_nar .byte z_3.toInt8.toInt32)) (13 : Int32).toNatClampNeg (vp_nar .byte z_7.toInt8.toInt32)) (14 : Int32).toNatClampNeg (vp_nar .byte z_11.toInt8.toInt32)) (15 : Int32).toNatClampNeg (vp_nar .byte z_15.toInt8.toInt32)), by rw [ht]; exact hP9, va_K.moved hW.alike hK9, hD9⟩, hS.F ht⟩) hS.2.2 dX7_append_46
def uX7_append_16 : List Cond := .code yX7_append cX7_append 3 none :: ([.fieldLink RX7 13 "LuckyTicket$Tape" "size" "I", .fieldLink RX7 9 "LuckyTicket$Tape" "bytes" "[B"] ++ wsX70)
theorem iX7_append_16_X7 : ∀ w ∈ wsX70, w ∈ uX7_append_16 := fun _ h => List.mem_cons_of_mem _ (List.mem_append_right _ h)
set_option maxHeartbeats 4000000 in
set_option maxRecDepth 100000 in
theorem kX7_append_16 (l : Launch) (dC : Nat → ClassId) (dI : Nat → Nat → Nat) (tp : Nat) (tb : Nat) (cB : ClassId) (f : Nat → Int32) (a1 : Int32) (sz : Nat) : Met l yX7_append uX7_append_16 ({ frames := 0, cells := 0, slots := 0, locals := 0 }) (va_Pc [.ref tp, .int a1] (hw (dC, dI) vwCl [(tp, .inr (6, [.ref tb, .int 16])), (tb, .inl (cB, 1200, .inl f))] [(cB, .byte)] sz)) (va_Qv (fun (_ : Unit) => True) (fun (_ : Unit) t => ∃ (f2 : Nat → Int32), va_P (dC, dI) vwCl [(tp, .inr (6, [.ref tb, .int 20])), (tb, .inl (cB, 1200, .inl f2))] t.heap ∧ va_K (dC, dI) vwCl [(cB, .byte)] t ∧ va_D (va_A [(tp, .inr (6, [.ref tb, .int 16])), (tb, .inl (cB, 1200, .inl f))] sz) [(tp, .inr (6, [.ref tb, .int 20])), (tb, .inl (cB, 1200, .inl f2))]) (va_A [(tp, .inr (6, [.ref tb, .int 16])), (tb, .inl (cB, 1200, .inl f))] sz)) 0 0 (va_A [(tp, .inr (6, [.ref tb, .int 16])), (tb, .inl (cB, 1200, .inl f))] sz) := by
  refine Met.ofW (cc := cX7_append) (maxL := 3) (ret := none) (by decide) rfl ?_
  intro p e s m args below meth c s₁ B hml hv
  obtain ⟨rfl, hsz, hP, hK, hD0, hN⟩ := hv
  have hx := B.exec
  have hb := B.bytes
  have hr := B.returns
  have hts := atoms_spec (ws := uX7_append_16) B.pre
  have hown : s.vm.findClass RX7 = some m.cls := findClass_of_methodNamed B.named
  have hlocks := B.notSynchronized
  subst hsz
  have hD := hD0.self (sz := s.heap.size)
  generalize hAe : va_A [(tp, .inr (6, [.ref tb, .int 16])), (tb, .inl (cB, 1200, .inl f))] s.heap.size = A at hD ⊢
  have hA : ∀ q : Nat, s.heap.size ≤ q → A q := fun q h => by rw [← hAe]; exact Or.inr h
  have hS : va_S A s.heap s.heap [] := va_S.rf
  have hP : va_P (dC, dI) vwCl [(tp, .inr (6, [.ref tb, .int 16])), (tb, .inl (cB, 1200, .inl f))] s.heap := hP
  have hl := lv_entry ([.ref tp, .int a1]) (n := 3) (Nat.le_of_ble_eq_true rfl)
  rw [lg_entry_eq]
  generalize (lg_sl ([.ref tp, .int a1]) ++ List.replicate (3 - (lg_sl ([.ref tp, .int a1])).length) Slot.unset).toArray = ls at hl ⊢
  have hl : lv_has ls 3 [(0, .ref tp), (1, .int a1)] := hl
  refine lv_bipush (v := 24) hx hb dX7_append_0 (by decide) ?_
  refine lv_istore_n (lv' := [(2, .int 24), (0, .ref tp), (1, .int a1)]) hx hb dX7_append_2 rfl hl (by decide) rfl (fun ls hl => ?_)
  refine lv_iload_n hx hb dX7_append_3 rfl (lv_at hl 0 rfl) ?_
  refine lv_if_lt (tgt := 46) hx hb dX7_append_4 (by decide) (fun c_1 => absurd c_1 (by decide)) (fun _ => ?_)
  refine lv_aload_n hx hb dX7_append_7 rfl (lv_at hl 1 rfl) ?_
  refine va_get (D := (dC, dI)) (ci := 6) (v := .int 16) (C := RX7) (T := TX7) (N := 2) hx hb hts iX7_append_16_X7 hown hK hP 0 rfl rfl 1 (by decide) (hts (.fieldLink RX7 13 "LuckyTicket$Tape" "size" "I") (List.mem_of_getElem? (i := 1) rfl)) (fun _ h9 => h9) rfl dX7_append_8 ?_
  refine lv_sipush (v := 1200) hx hb dX7_append_11 (by decide) ?_
  refine lv_icmp_ge (tgt := 40) hx hb dX7_append_14 (by decide) (fun c_2 => absurd c_2 (by decide)) (fun _ => ?_)
  refine lv_aload_n hx hb dX7_append_17 rfl (lv_at hl 1 rfl) ?_
  refine va_get (D := (dC, dI)) (ci := 6) (v := .ref tb) (C := RX7) (T := TX7) (N := 2) hx hb hts iX7_append_16_X7 hown hK hP 0 rfl rfl 0 (by decide) (hts (.fieldLink RX7 9 "LuckyTicket$Tape" "bytes" "[B") (List.mem_of_getElem? (i := 2) rfl)) (fun _ h9 => h9) rfl dX7_append_18 ?_
  refine lv_aload_n hx hb dX7_append_21 rfl (lv_at hl 1 rfl) ?_
  refine va_get (D := (dC, dI)) (ci := 6) (v := .int 16) (C := RX7) (T := TX7) (N := 2) hx hb hts iX7_append_16_X7 hown hK hP 0 rfl rfl 1 (by decide) (hts (.fieldLink RX7 13 "LuckyTicket$Tape" "size" "I") (List.mem_of_getElem? (i := 1) rfl)) (fun _ h9 => h9) rfl dX7_append_22 ?_
  refine lv_iload_n hx hb dX7_append_25 rfl (lv_at hl 2 rfl) ?_
  refine lv_iload_n hx hb dX7_append_26 rfl (lv_at hl 0 rfl) ?_
  obtain ⟨z_3, ez_3⟩ : ∃ y : Int32, y = ((a1 : Int32).toUInt32 >>> ((24 : Int32).toUInt32 &&& Int32.toUInt32 31)).toInt32 := ⟨_, rfl⟩
  refine lv_iushr (v := z_3) hx hb dX7_append_27 ez_3.symm ?_
  refine lv_i2b (v := z_3.toInt8.toInt32) hx hb dX7_append_28 rfl ?_
  refine va_bast hx hb hK hP hD hS 1 0 rfl rfl (vp_in_lit (by decide)) dX7_append_29 (fun H locs hP hD hS => ?_)
  have hP : va_P (dC, dI) vwCl [(tp, .inr (6, [.ref tb, .int 16])), (tb, .inl (cB, 1200, .inl (upd f (16 : Int32).toNatClampNeg (vp_nar .byte z_3.toInt8.toInt32))))] H := hP
  have hD : va_D A [(tp, .inr (6, [.ref tb, .int 16])), (tb, .inl (cB, 1200, .inl (upd f (16 : Int32).toNatClampNeg (vp_nar .byte z_3.toInt8.toInt32))))] := hD
  refine lv_aload_n hx hb dX7_append_30 rfl (lv_at hl 1 rfl) ?_
  refine lv_dup hx hb dX7_append_31 rfl ?_
  refine va_get (D := (dC, dI)) (ci := 6) (v := .int 16) (C := RX7) (T := TX7) (N := 2) hx hb hts iX7_append_16_X7 hown hK hP 0 rfl rfl 1 (by decide) (hts (.fieldLink RX7 13 "LuckyTicket$Tape" "size" "I") (List.mem_of_getElem? (i := 1) rfl)) (fun _ h9 => h9) rfl dX7_append_32 ?_
  refine lv_iconst (v := 1) hx hb dX7_append_35 (by decide) ?_
  refine lv_iadd hx hb dX7_append_36 ?_
  refine lv_topi (fun z_4 ez_4 => ?_)
  obtain rfl : z_4 = 17 := ez_4.trans (by decide)
  refine va_put (D := (dC, dI)) (ci := 6) (v := .int 17) (ty := .int) (C := RX7) (T := TX7) (N := 2) hx hb hts iX7_append_16_X7 tyX7 tyX7_ok nmX7 hown hK hP hD hS 0 rfl rfl 1 (by decide) (hts (.fieldLink RX7 13 "LuckyTicket$Tape" "size" "I") (List.mem_of_getElem? (i := 1) rfl)) (fun _ h9 => h9) rfl (by decide +kernel) rfl rfl (Nat.le_of_ble_eq_true rfl) dX7_append_37 (fun H locs hP hD hS => ?_)
  have hP : va_P (dC, dI) vwCl [(tp, .inr (6, [.ref tb, .int 17])), (tb, .inl (cB, 1200, .inl (upd f (16 : Int32).toNatClampNeg (vp_nar .byte z_3.toInt8.toInt32))))] H := hP
  have hD : va_D A [(tp, .inr (6, [.ref tb, .int 17])), (tb, .inl (cB, 1200, .inl (upd f (16 : Int32).toNatClampNeg (vp_nar .byte z_3.toInt8.toInt32))))] := hD
  refine lv_iinc (v := 16) (lv' := [(2, .int 16), (0, .ref tp), (1, .int a1)]) hx hb dX7_append_40 hl (k := 0) rfl (by decide) (by decide) rfl (fun ls hl => ?_)
  refine lv_goto (tgt := 3) hx hb dX7_append_43 (by decide) ?_
  refine lv_iload_n hx hb dX7_append_3 rfl (lv_at hl 0 rfl) ?_
  refine lv_if_lt (tgt := 46) hx hb dX7_append_4 (by decide) (fun c_5 => absurd c_5 (by decide)) (fun _ => ?_)
  refine lv_aload_n hx hb dX7_append_7 rfl (lv_at hl 1 rfl) ?_
  refine va_get (D := (dC, dI)) (ci := 6) (v := .int 17) (C := RX7) (T := TX7) (N := 2) hx hb hts iX7_append_16_X7 hown hK hP 0 rfl rfl 1 (by decide) (hts (.fieldLink RX7 13 "LuckyTicket$Tape" "size" "I") (List.mem_of_getElem? (i := 1) rfl)) (fun _ h9 => h9) rfl dX7_append_8 ?_
  refine lv_sipush (v := 1200) hx hb dX7_append_11 (by decide) ?_
  refine lv_icmp_ge (tgt := 40) hx hb dX7_append_14 (by decide) (fun c_6 => absurd c_6 (by decide)) (fun _ => ?_)
  refine lv_aload_n hx hb dX7_append_17 rfl (lv_at hl 1 rfl) ?_
  refine va_get (D := (dC, dI)) (ci := 6) (v := .ref tb) (C := RX7) (T := TX7) (N := 2) hx hb hts iX7_append_16_X7 hown hK hP 0 rfl rfl 0 (by decide) (hts (.fieldLink RX7 9 "LuckyTicket$Tape" "bytes" "[B") (List.mem_of_getElem? (i := 2) rfl)) (fun _ h9 => h9) rfl dX7_append_18 ?_
  refine lv_aload_n hx hb dX7_append_21 rfl (lv_at hl 1 rfl) ?_
  refine va_get (D := (dC, dI)) (ci := 6) (v := .int 17) (C := RX7) (T := TX7) (N := 2) hx hb hts iX7_append_16_X7 hown hK hP 0 rfl rfl 1 (by decide) (hts (.fieldLink RX7 13 "LuckyTicket$Tape" "size" "I") (List.mem_of_getElem? (i := 1) rfl)) (fun _ h9 => h9) rfl dX7_append_22 ?_
  refine lv_iload_n hx hb dX7_append_25 rfl (lv_at hl 2 rfl) ?_
  refine lv_iload_n hx hb dX7_append_26 rfl (lv_at hl 0 rfl) ?_
  obtain ⟨z_7, ez_7⟩ : ∃ y : Int32, y = ((a1 : Int32).toUInt32 >>> ((16 : Int32).toUInt32 &&& Int32.toUInt32 31)).toInt32 := ⟨_, rfl⟩
  refine lv_iushr (v := z_7) hx hb dX7_append_27 ez_7.symm ?_
  refine lv_i2b (v := z_7.toInt8.toInt32) hx hb dX7_append_28 rfl ?_
  refine va_bast hx hb hK hP hD hS 1 0 rfl rfl (vp_in_lit (by decide)) dX7_append_29 (fun H locs hP hD hS => ?_)
  have hP : va_P (dC, dI) vwCl [(tp, .inr (6, [.ref tb, .int 17])), (tb, .inl (cB, 1200, .inl (upd (upd f (16 : Int32).toNatClampNeg (vp_nar .byte z_3.toInt8.toInt32)) (17 : Int32).toNatClampNeg (vp_nar .byte z_7.toInt8.toInt32))))] H := hP
  have hD : va_D A [(tp, .inr (6, [.ref tb, .int 17])), (tb, .inl (cB, 1200, .inl (upd (upd f (16 : Int32).toNatClampNeg (vp_nar .byte z_3.toInt8.toInt32)) (17 : Int32).toNatClampNeg (vp_nar .byte z_7.toInt8.toInt32))))] := hD
  refine lv_aload_n hx hb dX7_append_30 rfl (lv_at hl 1 rfl) ?_
  refine lv_dup hx hb dX7_append_31 rfl ?_
  refine va_get (D := (dC, dI)) (ci := 6) (v := .int 17) (C := RX7) (T := TX7) (N := 2) hx hb hts iX7_append_16_X7 hown hK hP 0 rfl rfl 1 (by decide) (hts (.fieldLink RX7 13 "LuckyTicket$Tape" "size" "I") (List.mem_of_getElem? (i := 1) rfl)) (fun _ h9 => h9) rfl dX7_append_32 ?_
  refine lv_iconst (v := 1) hx hb dX7_append_35 (by decide) ?_
  refine lv_iadd hx hb dX7_append_36 ?_
  refine lv_topi (fun z_8 ez_8 => ?_)
  obtain rfl : z_8 = 18 := ez_8.trans (by decide)
  refine va_put (D := (dC, dI)) (ci := 6) (v := .int 18) (ty := .int) (C := RX7) (T := TX7) (N := 2) hx hb hts iX7_append_16_X7 tyX7 tyX7_ok nmX7 hown hK hP hD hS 0 rfl rfl 1 (by decide) (hts (.fieldLink RX7 13 "LuckyTicket$Tape" "size" "I") (List.mem_of_getElem? (i := 1) rfl)) (fun _ h9 => h9) rfl (by decide +kernel) rfl rfl (Nat.le_of_ble_eq_true rfl) dX7_append_37 (fun H locs hP hD hS => ?_)
  have hP : va_P (dC, dI) vwCl [(tp, .inr (6, [.ref tb, .int 18])), (tb, .inl (cB, 1200, .inl (upd (upd f (16 : Int32).toNatClampNeg (vp_nar .byte z_3.toInt8.toInt32)) (17 : Int32).toNatClampNeg (vp_nar .byte z_7.toInt8.toInt32))))] H := hP
  have hD : va_D A [(tp, .inr (6, [.ref tb, .int 18])), (tb, .inl (cB, 1200, .inl (upd (upd f (16 : Int32).toNatClampNeg (vp_nar .byte z_3.toInt8.toInt32)) (17 : Int32).toNatClampNeg (vp_nar .byte z_7.toInt8.toInt32))))] := hD
  refine lv_iinc (v := 8) (lv' := [(2, .int 8), (0, .ref tp), (1, .int a1)]) hx hb dX7_append_40 hl (k := 0) rfl (by decide) (by decide) rfl (fun ls hl => ?_)
  refine lv_goto (tgt := 3) hx hb dX7_append_43 (by decide) ?_
  refine lv_iload_n hx hb dX7_append_3 rfl (lv_at hl 0 rfl) ?_
  refine lv_if_lt (tgt := 46) hx hb dX7_append_4 (by decide) (fun c_9 => absurd c_9 (by decide)) (fun _ => ?_)
  refine lv_aload_n hx hb dX7_append_7 rfl (lv_at hl 1 rfl) ?_
  refine va_get (D := (dC, dI)) (ci := 6) (v := .int 18) (C := RX7) (T := TX7) (N := 2) hx hb hts iX7_append_16_X7 hown hK hP 0 rfl rfl 1 (by decide) (hts (.fieldLink RX7 13 "LuckyTicket$Tape" "size" "I") (List.mem_of_getElem? (i := 1) rfl)) (fun _ h9 => h9) rfl dX7_append_8 ?_
  refine lv_sipush (v := 1200) hx hb dX7_append_11 (by decide) ?_
  refine lv_icmp_ge (tgt := 40) hx hb dX7_append_14 (by decide) (fun c_10 => absurd c_10 (by decide)) (fun _ => ?_)
  refine lv_aload_n hx hb dX7_append_17 rfl (lv_at hl 1 rfl) ?_
  refine va_get (D := (dC, dI)) (ci := 6) (v := .ref tb) (C := RX7) (T := TX7) (N := 2) hx hb hts iX7_append_16_X7 hown hK hP 0 rfl rfl 0 (by decide) (hts (.fieldLink RX7 9 "LuckyTicket$Tape" "bytes" "[B") (List.mem_of_getElem? (i := 2) rfl)) (fun _ h9 => h9) rfl dX7_append_18 ?_
  refine lv_aload_n hx hb dX7_append_21 rfl (lv_at hl 1 rfl) ?_
  refine va_get (D := (dC, dI)) (ci := 6) (v := .int 18) (C := RX7) (T := TX7) (N := 2) hx hb hts iX7_append_16_X7 hown hK hP 0 rfl rfl 1 (by decide) (hts (.fieldLink RX7 13 "LuckyTicket$Tape" "size" "I") (List.mem_of_getElem? (i := 1) rfl)) (fun _ h9 => h9) rfl dX7_append_22 ?_
  refine lv_iload_n hx hb dX7_append_25 rfl (lv_at hl 2 rfl) ?_
  refine lv_iload_n hx hb dX7_append_26 rfl (lv_at hl 0 rfl) ?_
  obtain ⟨z_11, ez_11⟩ : ∃ y : Int32, y = ((a1 : Int32).toUInt32 >>> ((8 : Int32).toUInt32 &&& Int32.toUInt32 31)).toInt32 := ⟨_, rfl⟩
  refine lv_iushr (v := z_11) hx hb dX7_append_27 ez_11.symm ?_
  refine lv_i2b (v := z_11.toInt8.toInt32) hx hb dX7_append_28 rfl ?_
  refine va_bast hx hb hK hP hD hS 1 0 rfl rfl (vp_in_lit (by decide)) dX7_append_29 (fun H locs hP hD hS => ?_)
  have hP : va_P (dC, dI) vwCl [(tp, .inr (6, [.ref tb, .int 18])), (tb, .inl (cB, 1200, .inl (upd (upd (upd f (16 : Int32).toNatClampNeg (vp_nar .byte z_3.toInt8.toInt32)) (17 : Int32).toNatClampNeg (vp_nar .byte z_7.toInt8.toInt32)) (18 : Int32).toNatClampNeg (vp_nar .byte z_11.toInt8.toInt32))))] H := hP
  have hD : va_D A [(tp, .inr (6, [.ref tb, .int 18])), (tb, .inl (cB, 1200, .inl (upd (upd (upd f (16 : Int32).toNatClampNeg (vp_nar .byte z_3.toInt8.toInt32)) (17 : Int32).toNatClampNeg (vp_nar .byte z_7.toInt8.toInt32)) (18 : Int32).toNatClampNeg (vp_nar .byte z_11.toInt8.toInt32))))] := hD
  refine lv_aload_n hx hb dX7_append_30 rfl (lv_at hl 1 rfl) ?_
  refine lv_dup hx hb dX7_append_31 rfl ?_
  refine va_get (D := (dC, dI)) (ci := 6) (v := .int 18) (C := RX7) (T := TX7) (N := 2) hx hb hts iX7_append_16_X7 hown hK hP 0 rfl rfl 1 (by decide) (hts (.fieldLink RX7 13 "LuckyTicket$Tape" "size" "I") (List.mem_of_getElem? (i := 1) rfl)) (fun _ h9 => h9) rfl dX7_append_32 ?_
  refine lv_iconst (v := 1) hx hb dX7_append_35 (by decide) ?_
  refine lv_iadd hx hb dX7_append_36 ?_
  refine lv_topi (fun z_12 ez_12 => ?_)
  obtain rfl : z_12 = 19 := ez_12.trans (by decide)
  refine va_put (D := (dC, dI)) (ci := 6) (v := .int 19) (ty := .int) (C := RX7) (T := TX7) (N := 2) hx hb hts iX7_append_16_X7 tyX7 tyX7_ok nmX7 hown hK hP hD hS 0 rfl rfl 1 (by decide) (hts (.fieldLink RX7 13 "LuckyTicket$Tape" "size" "I") (List.mem_of_getElem? (i := 1) rfl)) (fun _ h9 => h9) rfl (by decide +kernel) rfl rfl (Nat.le_of_ble_eq_true rfl) dX7_append_37 (fun H locs hP hD hS => ?_)
  have hP : va_P (dC, dI) vwCl [(tp, .inr (6, [.ref tb, .int 19])), (tb, .inl (cB, 1200, .inl (upd (upd (upd f (16 : Int32).toNatClampNeg (vp_nar .byte z_3.toInt8.toInt32)) (17 : Int32).toNatClampNeg (vp_nar .byte z_7.toInt8.toInt32)) (18 : Int32).toNatClampNeg (vp_nar .byte z_11.toInt8.toInt32))))] H := hP
  have hD : va_D A [(tp, .inr (6, [.ref tb, .int 19])), (tb, .inl (cB, 1200, .inl (upd (upd (upd f (16 : Int32).toNatClampNeg (vp_nar .byte z_3.toInt8.toInt32)) (17 : Int32).toNatClampNeg (vp_nar .byte z_7.toInt8.toInt32)) (18 : Int32).toNatClampNeg (vp_nar .byte z_11.toInt8.toInt32))))] := hD
  refine lv_iinc (v := 0) (lv' := [(2, .int 0), (0, .ref tp), (1, .int a1)]) hx hb dX7_append_40 hl (k := 0) rfl (by decide) (by decide) rfl (fun ls hl => ?_)
  refine lv_goto (tgt := 3) hx hb dX7_append_43 (by decide) ?_
  refine lv_iload_n hx hb dX7_append_3 rfl (lv_at hl 0 rfl) ?_
  refine lv_if_lt (tgt := 46) hx hb dX7_append_4 (by decide) (fun c_13 => absurd c_13 (by decide)) (fun _ => ?_)
  refine lv_aload_n hx hb dX7_append_7 rfl (lv_at hl 1 rfl) ?_
  refine va_get (D := (dC, dI)) (ci := 6) (v := .int 19) (C := RX7) (T := TX7) (N := 2) hx hb hts iX7_append_16_X7 hown hK hP 0 rfl rfl 1 (by decide) (hts (.fieldLink RX7 13 "LuckyTicket$Tape" "size" "I") (List.mem_of_getElem? (i := 1) rfl)) (fun _ h9 => h9) rfl dX7_append_8 ?_
  refine lv_sipush (v := 1200) hx hb dX7_append_11 (by decide) ?_
  refine lv_icmp_ge (tgt := 40) hx hb dX7_append_14 (by decide) (fun c_14 => absurd c_14 (by decide)) (fun _ => ?_)
  refine lv_aload_n hx hb dX7_append_17 rfl (lv_at hl 1 rfl) ?_
  refine va_get (D := (dC, dI)) (ci := 6) (v := .ref tb) (C := RX7) (T := TX7) (N := 2) hx hb hts iX7_append_16_X7 hown hK hP 0 rfl rfl 0 (by decide) (hts (.fieldLink RX7 9 "LuckyTicket$Tape" "bytes" "[B") (List.mem_of_getElem? (i := 2) rfl)) (fun _ h9 => h9) rfl dX7_append_18 ?_
  refine lv_aload_n hx hb dX7_append_21 rfl (lv_at hl 1 rfl) ?_
  refine va_get (D := (dC, dI)) (ci := 6) (v := .int 19) (C := RX7) (T := TX7) (N := 2) hx hb hts iX7_append_16_X7 hown hK hP 0 rfl rfl 1 (by decide) (hts (.fieldLink RX7 13 "LuckyTicket$Tape" "size" "I") (List.mem_of_getElem? (i := 1) rfl)) (fun _ h9 => h9) rfl dX7_append_22 ?_
  refine lv_iload_n hx hb dX7_append_25 rfl (lv_at hl 2 rfl) ?_
  refine lv_iload_n hx hb dX7_append_26 rfl (lv_at hl 0 rfl) ?_
  obtain ⟨z_15, ez_15⟩ : ∃ y : Int32, y = ((a1 : Int32).toUInt32 >>> ((0 : Int32).toUInt32 &&& Int32.toUInt32 31)).toInt32 := ⟨_, rfl⟩
  refine lv_iushr (v := z_15) hx hb dX7_append_27 ez_15.symm ?_
  refine lv_i2b (v := z_15.toInt8.toInt32) hx hb dX7_append_28 rfl ?_
  refine va_bast hx hb hK hP hD hS 1 0 rfl rfl (vp_in_lit (by decide)) dX7_append_29 (fun H locs hP hD hS => ?_)
  have hP : va_P (dC, dI) vwCl [(tp, .inr (6, [.ref tb, .int 19])), (tb, .inl (cB, 1200, .inl (upd (upd (upd (upd f (16 : Int32).toNatClampNeg (vp_nar .byte z_3.toInt8.toInt32)) (17 : Int32).toNatClampNeg (vp_nar .byte z_7.toInt8.toInt32)) (18 : Int32).toNatClampNeg (vp_nar .byte z_11.toInt8.toInt32)) (19 : Int32).toNatClampNeg (vp_nar .byte z_15.toInt8.toInt32))))] H := hP
  have hD : va_D A [(tp, .inr (6, [.ref tb, .int 19])), (tb, .inl (cB, 1200, .inl (upd (upd (upd (upd f (16 : Int32).toNatClampNeg (vp_nar .byte z_3.toInt8.toInt32)) (17 : Int32).toNatClampNeg (vp_nar .byte z_7.toInt8.toInt32)) (18 : Int32).toNatClampNeg (vp_nar .byte z_11.toInt8.toInt32)) (19 : Int32).toNatClampNeg (vp_nar .byte z_15.toInt8.toInt32))))] := hD
  refine lv_aload_n hx hb dX7_append_30 rfl (lv_at hl 1 rfl) ?_
  refine lv_dup hx hb dX7_append_31 rfl ?_
  refine va_get (D := (dC, dI)) (ci := 6) (v := .int 19) (C := RX7) (T := TX7) (N := 2) hx hb hts iX7_append_16_X7 hown hK hP 0 rfl rfl 1 (by decide) (hts (.fieldLink RX7 13 "LuckyTicket$Tape" "size" "I") (List.mem_of_getElem? (i := 1) rfl)) (fun _ h9 => h9) rfl dX7_append_32 ?_
  refine lv_iconst (v := 1) hx hb dX7_append_35 (by decide) ?_
  refine lv_iadd hx hb dX7_append_36 ?_
  refine lv_topi (fun z_16 ez_16 => ?_)
  obtain rfl : z_16 = 20 := ez_16.trans (by decide)
  refine va_put (D := (dC, dI)) (ci := 6) (v := .int 20) (ty := .int) (C := RX7) (T := TX7) (N := 2) hx hb hts iX7_append_16_X7 tyX7 tyX7_ok nmX7 hown hK hP hD hS 0 rfl rfl 1 (by decide) (hts (.fieldLink RX7 13 "LuckyTicket$Tape" "size" "I") (List.mem_of_getElem? (i := 1) rfl)) (fun _ h9 => h9) rfl (by decide +kernel) rfl rfl (Nat.le_of_ble_eq_true rfl) dX7_append_37 (fun H locs hP hD hS => ?_)
  have hP : va_P (dC, dI) vwCl [(tp, .inr (6, [.ref tb, .int 20])), (tb, .inl (cB, 1200, .inl (upd (upd (upd (upd f (16 : Int32).toNatClampNeg (vp_nar .byte z_3.toInt8.toInt32)) (17 : Int32).toNatClampNeg (vp_nar .byte z_7.toInt8.toInt32)) (18 : Int32).toNatClampNeg (vp_nar .byte z_11.toInt8.toInt32)) (19 : Int32).toNatClampNeg (vp_nar .byte z_15.toInt8.toInt32))))] H := hP
  have hD : va_D A [(tp, .inr (6, [.ref tb, .int 20])), (tb, .inl (cB, 1200, .inl (upd (upd (upd (upd f (16 : Int32).toNatClampNeg (vp_nar .byte z_3.toInt8.toInt32)) (17 : Int32).toNatClampNeg (vp_nar .byte z_7.toInt8.toInt32)) (18 : Int32).toNatClampNeg (vp_nar .byte z_11.toInt8.toInt32)) (19 : Int32).toNatClampNeg (vp_nar .byte z_15.toInt8.toInt32))))] := hD
  refine lv_iinc (v := (-8)) (lv' := [(2, .int (-8)), (0, .ref tp), (1, .int a1)]) hx hb dX7_append_40 hl (k := 0) rfl (by decide) (by decide) rfl (fun ls hl => ?_)
  refine lv_goto (tgt := 3) hx hb dX7_append_43 (by decide) ?_
  refine lv_iload_n hx hb dX7_append_3 rfl (lv_at hl 0 rfl) ?_
  refine lv_if_lt (tgt := 46) hx hb dX7_append_4 (by decide) (fun _ => ?_) (fun c_17 => absurd c_17 (by decide))
  have hP9 := hP.sub (ws' := [(tp, .inr (6, [.ref tb, .int 20])), (tb, .inl (cB, 1200, .inl (upd (upd (upd (upd f (16 : Int32).toNatClampNeg (vp_nar .byte z_3.toInt8.toInt32)) (17 : Int32).toNatClampNeg (vp_nar .byte z_7.toInt8.toInt32)) (18 : Int32).toNatClampNeg (vp_nar .byte z_11.toInt8.toInt32)) (19 : Int32).toNatClampNeg (vp_nar .byte z_15.toInt8.toInt32))))]) [0, 1] rfl
  have hD9 := hD.sub (ws' := [(tp, .inr (6, [.ref tb, .int 20])), (tb, .inl (cB, 1200, .inl (upd (upd (upd (upd f (16 : Int32).toNatClampNeg (vp_nar .byte z_3.toInt8.toInt32)) (17 : Int32).toNatClampNeg (vp_nar .byte z_7.toInt8.toInt32)) (18 : Int32).toNatClampNeg (vp_nar .byte z_11.toInt8.toInt32)) (19 : Int32).toNatClampNeg (vp_nar .byte z_15.toInt8.toInt32))))]) [0, 1] (by decide) rfl
  have hK9 := hK.sub (tys' := [(cB, .byte)]) [0] rfl
  exact W.vret hx hb hr (fun t ht hW => ⟨⟨(), rfl, trivial, (upd (upd (upd (upd f (16 : Int32).toNatClampNeg (vp_nar .byte z_3.toInt8.toInt32)) (17 : Int32).toNatClampNeg (vp_nar .byte z_7.toInt8.toInt32)) (18 : Int32).toNatClampNeg (vp_nar .byte z_11.toInt8.toInt32)) (19 : Int32).toNatClampNeg (vp_nar .byte z_15.toInt8.toInt32)), by rw [ht]; exact hP9, va_K.moved hW.alike hK9, hD9⟩, hS.F ht⟩) hS.2.2 dX7_append_46
theorem dX9_feed_0 : decode cX9_feed 0 = .ok (.aload_n 0, 1) := by decide +kernel
theorem dX9_feed_1 : decode cX9_feed 1 = .ok (.getfield 10, 3) := by decide +kernel
theorem dX9_feed_4 : decode cX9_feed 4 = .ok (.bipush 20, 2) := by decide +kernel
theorem dX9_feed_6 : decode cX9_feed 6 = .ok (.invokevirtual 72, 3) := by decide +kernel
theorem dX9_feed_9 : decode cX9_feed 9 = .ok (.ifCond .ne 5, 3) := by decide +kernel
theorem dX9_feed_14 : decode cX9_feed 14 = .ok (.aload_n 0, 1) := by decide +kernel
theorem dX9_feed_15 : decode cX9_feed 15 = .ok (.getfield 10, 3) := by decide +kernel
theorem dX9_feed_18 : decode cX9_feed 18 = .ok (.iload_n 1, 1) := by decide +kernel
theorem dX9_feed_19 : decode cX9_feed 19 = .ok (.invokevirtual 76, 3) := by decide +kernel
theorem dX9_feed_22 : decode cX9_feed 22 = .ok (.aload_n 0, 1) := by decide +kernel
theorem dX9_feed_23 : decode cX9_feed 23 = .ok (.getfield 10, 3) := by decide +kernel
theorem dX9_feed_26 : decode cX9_feed 26 = .ok (.iload_n 2, 1) := by decide +kernel
theorem dX9_feed_27 : decode cX9_feed 27 = .ok (.invokevirtual 76, 3) := by decide +kernel
theorem dX9_feed_30 : decode cX9_feed 30 = .ok (.aload_n 0, 1) := by decide +kernel
theorem dX9_feed_31 : decode cX9_feed 31 = .ok (.getfield 10, 3) := by decide +kernel
theorem dX9_feed_34 : decode cX9_feed 34 = .ok (.iload_n 3, 1) := by decide +kernel
theorem dX9_feed_35 : decode cX9_feed 35 = .ok (.invokevirtual 76, 3) := by decide +kernel
theorem dX9_feed_38 : decode cX9_feed 38 = .ok (.aload_n 0, 1) := by decide +kernel
theorem dX9_feed_39 : decode cX9_feed 39 = .ok (.getfield 10, 3) := by decide +kernel
theorem dX9_feed_42 : decode cX9_feed 42 = .ok (.iload 4, 2) := by decide +kernel
theorem dX9_feed_44 : decode cX9_feed 44 = .ok (.invokevirtual 76, 3) := by decide +kernel
theorem dX9_feed_47 : decode cX9_feed 47 = .ok (.aload_n 0, 1) := by decide +kernel
theorem dX9_feed_48 : decode cX9_feed 48 = .ok (.getfield 10, 3) := by decide +kernel
theorem dX9_feed_51 : decode cX9_feed 51 = .ok (.iload 5, 2) := by decide +kernel
theorem dX9_feed_53 : decode cX9_feed 53 = .ok (.invokevirtual 76, 3) := by decide +kernel
theorem dX9_feed_56 : decode cX9_feed 56 = .ok (.aload_n 0, 1) := by decide +kernel
theorem dX9_feed_57 : decode cX9_feed 57 = .ok (.getfield 10, 3) := by decide +kernel
theorem dX9_feed_60 : decode cX9_feed 60 = .ok (.getfield 80, 3) := by decide +kernel
theorem dX9_feed_63 : decode cX9_feed 63 = .ok (.ireturn, 1) := by decide +kernel
def uX9_feed : List Cond := .code yX9_feed cX9_feed 6 (some .int) :: ([.fieldLink RX9 10 "LuckyTicket" "tape" "LLuckyTicket$Tape;", .methodLink RX9 72 yX7_hasRoomFor, .instanceMethod yX7_hasRoomFor, .selects RX7 yX7_hasRoomFor yX7_hasRoomFor, .initialized RX7, .code yX7_hasRoomFor cX7_hasRoomFor 2 (some .boolean), .fieldLink RX7 13 "LuckyTicket$Tape" "size" "I", .methodLink RX9 76 yX7_append, .instanceMethod yX7_append, .selects RX7 yX7_append yX7_append, .code yX7_append cX7_append 3 none, .fieldLink RX7 9 "LuckyTicket$Tape" "bytes" "[B"] ++ wsX90 ++ wsX70)
theorem iX9_feed_X9 : ∀ w ∈ wsX90, w ∈ uX9_feed := fun _ h => List.mem_cons_of_mem _ (List.mem_append_left _ (List.mem_append_right _ h))
theorem iX9_feed_X7 : ∀ w ∈ wsX70, w ∈ uX9_feed := fun _ h => List.mem_cons_of_mem _ (List.mem_append_right _ h)
set_option maxRecDepth 20000 in
theorem gX9_feed__X7_hasRoomFor_V72 : GoodIn uX9_feed (wsV RX9 72 RX7 yX7_hasRoomFor uX7_hasRoomFor) := goodIn_p _ [6] rfl (by decide +kernel)
set_option maxRecDepth 20000 in
theorem gX9_feed__X7_append_0_V76 : GoodIn uX9_feed (wsV RX9 76 RX7 yX7_append uX7_append_0) := goodIn_p _ [11] rfl (by decide +kernel)
set_option maxRecDepth 20000 in
theorem gX9_feed__X7_append_4_V76 : GoodIn uX9_feed (wsV RX9 76 RX7 yX7_append uX7_append_4) := goodIn_p _ [11] rfl (by decide +kernel)
set_option maxRecDepth 20000 in
theorem gX9_feed__X7_append_8_V76 : GoodIn uX9_feed (wsV RX9 76 RX7 yX7_append uX7_append_8) := goodIn_p _ [11] rfl (by decide +kernel)
set_option maxRecDepth 20000 in
theorem gX9_feed__X7_append_12_V76 : GoodIn uX9_feed (wsV RX9 76 RX7 yX7_append uX7_append_12) := goodIn_p _ [11] rfl (by decide +kernel)
set_option maxRecDepth 20000 in
theorem gX9_feed__X7_append_16_V76 : GoodIn uX9_feed (wsV RX9 76 RX7 yX7_append uX7_append_16) := goodIn_p _ [11] rfl (by decide +kernel)
set_option maxHeartbeats 4000000 in
set_option maxRecDepth 100000 in
theorem kX9_feed (l : Launch) (dC : Nat → ClassId) (dI : Nat → Nat → Nat) (h0 : Nat) (tp : Nat) (sc : Nat) (rd : Nat) (cu : Nat) (im : Nat) (ig : Nat) (sl : Nat) (se : Nat) (su : Nat) (fc : Nat) (tb : Nat) (cB : ClassId) (f : Nat → Int32) (a1 : Int32) (a2 : Int32) (a3 : Int32) (a4 : Int32) (a5 : Int32) (sz : Nat) : Met l yX9_feed uX9_feed ({ frames := 1, cells := 0, slots := 0, locals := 22 }) (va_Pc [.ref h0, .int a1, .int a2, .int a3, .int a4, .int a5] (hw (dC, dI) vwCl [(h0, .inr (7, [.ref tp, .ref sc, .ref rd, .ref cu, .ref im, .ref ig, .ref sl, .ref se, .ref su, .ref fc])), (tp, .inr (6, [.ref tb, .int 0])), (tb, .inl (cB, 1200, .inl f))] [(cB, .byte)] sz)) (va_Qi (fun (r : Int32) (_ : Unit) => r = 20) (fun (_ : Unit) t => va_P (dC, dI) vwCl [] t.heap ∧ va_K (dC, dI) vwCl [] t ∧ va_D (va_A [(h0, .inr (7, [.ref tp, .ref sc, .ref rd, .ref cu, .ref im, .ref ig, .ref sl, .ref se, .ref su, .ref fc])), (tp, .inr (6, [.ref tb, .int 0])), (tb, .inl (cB, 1200, .inl f))] sz) []) (va_A [(h0, .inr (7, [.ref tp, .ref sc, .ref rd, .ref cu, .ref im, .ref ig, .ref sl, .ref se, .ref su, .ref fc])), (tp, .inr (6, [.ref tb, .int 0])), (tb, .inl (cB, 1200, .inl f))] sz)) 0 0 (va_A [(h0, .inr (7, [.ref tp, .ref sc, .ref rd, .ref cu, .ref im, .ref ig, .ref sl, .ref se, .ref su, .ref fc])), (tp, .inr (6, [.ref tb, .int 0])), (tb, .inl (cB, 1200, .inl f))] sz) := by
  refine Met.ofW (cc := cX9_feed) (maxL := 6) (ret := (some .int)) (by decide) rfl ?_
  intro p e s m args below meth c s₁ B hml hv
  obtain ⟨rfl, hsz, hP, hK, hD0, hN⟩ := hv
  have hx := B.exec
  have hb := B.bytes
  have hr := B.returns
  have hts := atoms_spec (ws := uX9_feed) B.pre
  have hown : s.vm.findClass RX9 = some m.cls := findClass_of_methodNamed B.named
  have hlocks := B.notSynchronized
  subst hsz
  have hD := hD0.self (sz := s.heap.size)
  generalize hAe : va_A [(h0, .inr (7, [.ref tp, .ref sc, .ref rd, .ref cu, .ref im, .ref ig, .ref sl, .ref se, .ref su, .ref fc])), (tp, .inr (6, [.ref tb, .int 0])), (tb, .inl (cB, 1200, .inl f))] s.heap.size = A at hD ⊢
  have hA : ∀ q : Nat, s.heap.size ≤ q → A q := fun q h => by rw [← hAe]; exact Or.inr h
  have hS : va_S A s.heap s.heap [] := va_S.rf
  have hP : va_P (dC, dI) vwCl [(h0, .inr (7, [.ref tp, .ref sc, .ref rd, .ref cu, .ref im, .ref ig, .ref sl, .ref se, .ref su, .ref fc])), (tp, .inr (6, [.ref tb, .int 0])), (tb, .inl (cB, 1200, .inl f))] s.heap := hP
  have hl := lv_entry ([.ref h0, .int a1, .int a2, .int a3, .int a4, .int a5]) (n := 6) (Nat.le_of_ble_eq_true rfl)
  rw [lg_entry_eq]
  generalize (lg_sl ([.ref h0, .int a1, .int a2, .int a3, .int a4, .int a5]) ++ List.replicate (6 - (lg_sl ([.ref h0, .int a1, .int a2, .int a3, .int a4, .int a5])).length) Slot.unset).toArray = ls at hl ⊢
  have hl : lv_has ls 6 [(0, .ref h0), (1, .int a1), (2, .int a2), (3, .int a3), (4, .int a4), (5, .int a5)] := hl
  refine lv_aload_n hx hb dX9_feed_0 rfl (lv_at hl 0 rfl) ?_
  refine va_get (D := (dC, dI)) (ci := 7) (v := .ref tp) (C := RX9) (T := TX9) (N := 10) hx hb hts iX9_feed_X9 hown hK hP 0 rfl rfl 0 (by decide) (hts (.fieldLink RX9 10 "LuckyTicket" "tape" "LLuckyTicket$Tape;") (List.mem_of_getElem? (i := 1) rfl)) (fun _ h9 => h9) rfl dX9_feed_1 ?_
  refine lv_bipush (v := 20) hx hb dX9_feed_4 (by decide) ?_
  refine vp_callSi (W.runV (As := [.int 20]) (rest := []) ⟨hx, hb, hml, hown, hts⟩ (kX7_hasRoomFor l dC dI tp tb) (cwV 1 hts gX9_feed__X7_hasRoomFor_V72 rfl rfl rfl (by decide +kernel) ⟨lel 1 1 rfl, lel 21 22 rfl⟩) ⟨pw_fb, va_recv hK hP (ci := 6) (q0 := 1) rfl rfl, (pw_use hP hK hN [1] rfl [] rfl)⟩ rfl rfl hl.1 rfl (lv_room (Nat.le_of_ble_eq_true rfl)) dX9_feed_6 ⟨lel 0 0 rfl, lel 0 0 rfl⟩) (fun r_1 hr_1 => ?_)
  obtain rfl : r_1 = 1 := hr_1
  refine lv_if_ne (tgt := 14) hx hb dX9_feed_9 (by decide) (fun _ => ?_) (fun c_2 => absurd c_2 (by decide))
  refine lv_aload_n hx hb dX9_feed_14 rfl (lv_at hl 0 rfl) ?_
  refine va_get (D := (dC, dI)) (ci := 7) (v := .ref tp) (C := RX9) (T := TX9) (N := 10) hx hb hts iX9_feed_X9 hown hK hP 0 rfl rfl 0 (by decide) (hts (.fieldLink RX9 10 "LuckyTicket" "tape" "LLuckyTicket$Tape;") (List.mem_of_getElem? (i := 1) rfl)) (fun _ h9 => h9) rfl dX9_feed_15 ?_
  refine lv_iload_n hx hb dX9_feed_18 rfl (lv_at hl 1 rfl) ?_
  have hFc := va_free (wc := [(tp, .inr (6, [.ref tb, .int 0])), (tb, .inl (cB, 1200, .inl f))]) hD hS hA [1, 2] rfl
  refine va_callv (va_runV (As := [.int a1]) (rest := []) ⟨hx, hb, hml, hown, hts⟩ (kX7_append_0 l dC dI tp tb cB f a1 (s.heap.size)) (cwV 1 hts gX9_feed__X7_append_0_V76 rfl rfl rfl (by decide +kernel) ⟨lel 1 1 rfl, lel 22 22 rfl⟩) ⟨hw_fb, va_recv hK hP (ci := 6) (q0 := 1) rfl rfl, (hw_use hP hD hK hN [1, 2] rfl (by decide) rfl [0] rfl)⟩ rfl rfl hl.1 rfl (lv_room (Nat.le_of_ble_eq_true rfl)) dX9_feed_19 ⟨lel 0 0 rfl, lel 0 0 rfl⟩) hS (fun q _ h => hFc q h) hFc (fun u_4 t H1 locs ht hvm hwr_3 hB hz1 hk1 hS => ?_)
  obtain ⟨f2_5, hP1, hK1, hD1⟩ := hB
  rw [ht] at hP1
  have hK1 := va_K.moved hvm.symm hK1
  obtain ⟨hP, hD⟩ := va_join (wr := [(h0, .inr (7, [.ref tp, .ref sc, .ref rd, .ref cu, .ref im, .ref ig, .ref sl, .ref se, .ref su, .ref fc]))]) (w1 := [(tp, .inr (6, [.ref tb, .int 4])), (tb, .inl (cB, 1200, .inl f2_5))]) hP hD [1, 2] [0] rfl rfl (by decide) (by decide) hk1 hFc hP1 hD1
  have hK := (hK.sub (tys' := []) [] rfl).app hK1
  generalize H1 = H at hP hS ⊢
  have hP : va_P (dC, dI) vwCl [(h0, .inr (7, [.ref tp, .ref sc, .ref rd, .ref cu, .ref im, .ref ig, .ref sl, .ref se, .ref su, .ref fc])), (tp, .inr (6, [.ref tb, .int 4])), (tb, .inl (cB, 1200, .inl f2_5))] H := hP
  have hD : va_D A [(h0, .inr (7, [.ref tp, .ref sc, .ref rd, .ref cu, .ref im, .ref ig, .ref sl, .ref se, .ref su, .ref fc])), (tp, .inr (6, [.ref tb, .int 4])), (tb, .inl (cB, 1200, .inl f2_5))] := hD
  have hK : va_K (dC, dI) vwCl [(cB, .byte)] s := hK
  refine lv_aload_n hx hb dX9_feed_22 rfl (lv_at hl 0 rfl) ?_
  refine va_get (D := (dC, dI)) (ci := 7) (v := .ref tp) (C := RX9) (T := TX9) (N := 10) hx hb hts iX9_feed_X9 hown hK hP 0 rfl rfl 0 (by decide) (hts (.fieldLink RX9 10 "LuckyTicket" "tape" "LLuckyTicket$Tape;") (List.mem_of_getElem? (i := 1) rfl)) (fun _ h9 => h9) rfl dX9_feed_23 ?_
  refine lv_iload_n hx hb dX9_feed_26 rfl (lv_at hl 2 rfl) ?_
  have hFc := va_free (wc := [(tp, .inr (6, [.ref tb, .int 4])), (tb, .inl (cB, 1200, .inl f2_5))]) hD hS hA [1, 2] rfl
  refine va_callv (va_runV (As := [.int a2]) (rest := []) ⟨hx, hb, hml, hown, hts⟩ (kX7_append_4 l dC dI tp tb cB f2_5 a2 (H.size)) (cwV 1 hts gX9_feed__X7_append_4_V76 rfl rfl rfl (by decide +kernel) ⟨lel 1 1 rfl, lel 22 22 rfl⟩) ⟨hw_fb, va_recv hK hP (ci := 6) (q0 := 1) rfl rfl, (hw_use hP hD hK hN [1, 2] rfl (by decide) rfl [0] rfl)⟩ rfl rfl hl.1 rfl (lv_room (Nat.le_of_ble_eq_true rfl)) dX9_feed_27 ⟨lel 0 0 rfl, lel 0 0 rfl⟩) hS (fun q _ h => hFc q h) hFc (fun u_7 t H1 locs ht hvm hwr_6 hB hz1 hk1 hS => ?_)
  obtain ⟨f2_8, hP1, hK1, hD1⟩ := hB
  rw [ht] at hP1
  have hK1 := va_K.moved hvm.symm hK1
  obtain ⟨hP, hD⟩ := va_join (wr := [(h0, .inr (7, [.ref tp, .ref sc, .ref rd, .ref cu, .ref im, .ref ig, .ref sl, .ref se, .ref su, .ref fc]))]) (w1 := [(tp, .inr (6, [.ref tb, .int 8])), (tb, .inl (cB, 1200, .inl f2_8))]) hP hD [1, 2] [0] rfl rfl (by decide) (by decide) hk1 hFc hP1 hD1
  have hK := (hK.sub (tys' := []) [] rfl).app hK1
  generalize H1 = H at hP hS ⊢
  have hP : va_P (dC, dI) vwCl [(h0, .inr (7, [.ref tp, .ref sc, .ref rd, .ref cu, .ref im, .ref ig, .ref sl, .ref se, .ref su, .ref fc])), (tp, .inr (6, [.ref tb, .int 8])), (tb, .inl (cB, 1200, .inl f2_8))] H := hP
  have hD : va_D A [(h0, .inr (7, [.ref tp, .ref sc, .ref rd, .ref cu, .ref im, .ref ig, .ref sl, .ref se, .ref su, .ref fc])), (tp, .inr (6, [.ref tb, .int 8])), (tb, .inl (cB, 1200, .inl f2_8))] := hD
  have hK : va_K (dC, dI) vwCl [(cB, .byte)] s := hK
  refine lv_aload_n hx hb dX9_feed_30 rfl (lv_at hl 0 rfl) ?_
  refine va_get (D := (dC, dI)) (ci := 7) (v := .ref tp) (C := RX9) (T := TX9) (N := 10) hx hb hts iX9_feed_X9 hown hK hP 0 rfl rfl 0 (by decide) (hts (.fieldLink RX9 10 "LuckyTicket" "tape" "LLuckyTicket$Tape;") (List.mem_of_getElem? (i := 1) rfl)) (fun _ h9 => h9) rfl dX9_feed_31 ?_
  refine lv_iload_n hx hb dX9_feed_34 rfl (lv_at hl 3 rfl) ?_
  have hFc := va_free (wc := [(tp, .inr (6, [.ref tb, .int 8])), (tb, .inl (cB, 1200, .inl f2_8))]) hD hS hA [1, 2] rfl
  refine va_callv (va_runV (As := [.int a3]) (rest := []) ⟨hx, hb, hml, hown, hts⟩ (kX7_append_8 l dC dI tp tb cB f2_8 a3 (H.size)) (cwV 1 hts gX9_feed__X7_append_8_V76 rfl rfl rfl (by decide +kernel) ⟨lel 1 1 rfl, lel 22 22 rfl⟩) ⟨hw_fb, va_recv hK hP (ci := 6) (q0 := 1) rfl rfl, (hw_use hP hD hK hN [1, 2] rfl (by decide) rfl [0] rfl)⟩ rfl rfl hl.1 rfl (lv_room (Nat.le_of_ble_eq_true rfl)) dX9_feed_35 ⟨lel 0 0 rfl, lel 0 0 rfl⟩) hS (fun q _ h => hFc q h) hFc (fun u_10 t H1 locs ht hvm hwr_9 hB hz1 hk1 hS => ?_)
  obtain ⟨f2_11, hP1, hK1, hD1⟩ := hB
  rw [ht] at hP1
  have hK1 := va_K.moved hvm.symm hK1
  obtain ⟨hP, hD⟩ := va_join (wr := [(h0, .inr (7, [.ref tp, .ref sc, .ref rd, .ref cu, .ref im, .ref ig, .ref sl, .ref se, .ref su, .ref fc]))]) (w1 := [(tp, .inr (6, [.ref tb, .int 12])), (tb, .inl (cB, 1200, .inl f2_11))]) hP hD [1, 2] [0] rfl rfl (by decide) (by decide) hk1 hFc hP1 hD1
  have hK := (hK.sub (tys' := []) [] rfl).app hK1
  generalize H1 = H at hP hS ⊢
  have hP : va_P (dC, dI) vwCl [(h0, .inr (7, [.ref tp, .ref sc, .ref rd, .ref cu, .ref im, .ref ig, .ref sl, .ref se, .ref su, .ref fc])), (tp, .inr (6, [.ref tb, .int 12])), (tb, .inl (cB, 1200, .inl f2_11))] H := hP
  have hD : va_D A [(h0, .inr (7, [.ref tp, .ref sc, .ref rd, .ref cu, .ref im, .ref ig, .ref sl, .ref se, .ref su, .ref fc])), (tp, .inr (6, [.ref tb, .int 12])), (tb, .inl (cB, 1200, .inl f2_11))] := hD
  have hK : va_K (dC, dI) vwCl [(cB, .byte)] s := hK
  refine lv_aload_n hx hb dX9_feed_38 rfl (lv_at hl 0 rfl) ?_
  refine va_get (D := (dC, dI)) (ci := 7) (v := .ref tp) (C := RX9) (T := TX9) (N := 10) hx hb hts iX9_feed_X9 hown hK hP 0 rfl rfl 0 (by decide) (hts (.fieldLink RX9 10 "LuckyTicket" "tape" "LLuckyTicket$Tape;") (List.mem_of_getElem? (i := 1) rfl)) (fun _ h9 => h9) rfl dX9_feed_39 ?_
  refine lv_iload hx hb dX9_feed_42 (lv_at hl 4 rfl) ?_
  have hFc := va_free (wc := [(tp, .inr (6, [.ref tb, .int 12])), (tb, .inl (cB, 1200, .inl f2_11))]) hD hS hA [1, 2] rfl
  refine va_callv (va_runV (As := [.int a4]) (rest := []) ⟨hx, hb, hml, hown, hts⟩ (kX7_append_12 l dC dI tp tb cB f2_11 a4 (H.size)) (cwV 1 hts gX9_feed__X7_append_12_V76 rfl rfl rfl (by decide +kernel) ⟨lel 1 1 rfl, lel 22 22 rfl⟩) ⟨hw_fb, va_recv hK hP (ci := 6) (q0 := 1) rfl rfl, (hw_use hP hD hK hN [1, 2] rfl (by decide) rfl [0] rfl)⟩ rfl rfl hl.1 rfl (lv_room (Nat.le_of_ble_eq_true rfl)) dX9_feed_44 ⟨lel 0 0 rfl, lel 0 0 rfl⟩) hS (fun q _ h => hFc q h) hFc (fun u_13 t H1 locs ht hvm hwr_12 hB hz1 hk1 hS => ?_)
  obtain ⟨f2_14, hP1, hK1, hD1⟩ := hB
  rw [ht] at hP1
  have hK1 := va_K.moved hvm.symm hK1
  obtain ⟨hP, hD⟩ := va_join (wr := [(h0, .inr (7, [.ref tp, .ref sc, .ref rd, .ref cu, .ref im, .ref ig, .ref sl, .ref se, .ref su, .ref fc]))]) (w1 := [(tp, .inr (6, [.ref tb, .int 16])), (tb, .inl (cB, 1200, .inl f2_14))]) hP hD [1, 2] [0] rfl rfl (by decide) (by decide) hk1 hFc hP1 hD1
  have hK := (hK.sub (tys' := []) [] rfl).app hK1
  generalize H1 = H at hP hS ⊢
  have hP : va_P (dC, dI) vwCl [(h0, .inr (7, [.ref tp, .ref sc, .ref rd, .ref cu, .ref im, .ref ig, .ref sl, .ref se, .ref su, .ref fc])), (tp, .inr (6, [.ref tb, .int 16])), (tb, .inl (cB, 1200, .inl f2_14))] H := hP
  have hD : va_D A [(h0, .inr (7, [.ref tp, .ref sc, .ref rd, .ref cu, .ref im, .ref ig, .ref sl, .ref se, .ref su, .ref fc])), (tp, .inr (6, [.ref tb, .int 16])), (tb, .inl (cB, 1200, .inl f2_14))] := hD
  have hK : va_K (dC, dI) vwCl [(cB, .byte)] s := hK
  refine lv_aload_n hx hb dX9_feed_47 rfl (lv_at hl 0 rfl) ?_
  refine va_get (D := (dC, dI)) (ci := 7) (v := .ref tp) (C := RX9) (T := TX9) (N := 10) hx hb hts iX9_feed_X9 hown hK hP 0 rfl rfl 0 (by decide) (hts (.fieldLink RX9 10 "LuckyTicket" "tape" "LLuckyTicket$Tape;") (List.mem_of_getElem? (i := 1) rfl)) (fun _ h9 => h9) rfl dX9_feed_48 ?_
  refine lv_iload hx hb dX9_feed_51 (lv_at hl 5 rfl) ?_
  have hFc := va_free (wc := [(tp, .inr (6, [.ref tb, .int 16])), (tb, .inl (cB, 1200, .inl f2_14))]) hD hS hA [1, 2] rfl
  refine va_callv (va_runV (As := [.int a5]) (rest := []) ⟨hx, hb, hml, hown, hts⟩ (kX7_append_16 l dC dI tp tb cB f2_14 a5 (H.size)) (cwV 1 hts gX9_feed__X7_append_16_V76 rfl rfl rfl (by decide +kernel) ⟨lel 1 1 rfl, lel 22 22 rfl⟩) ⟨hw_fb, va_recv hK hP (ci := 6) (q0 := 1) rfl rfl, (hw_use hP hD hK hN [1, 2] rfl (by decide) rfl [0] rfl)⟩ rfl rfl hl.1 rfl (lv_room (Nat.le_of_ble_eq_true rfl)) dX9_feed_53 ⟨lel 0 0 rfl, lel 0 0 rfl⟩) hS (fun q _ h => hFc q h) hFc (fun u_16 t H1 locs ht hvm hwr_15 hB hz1 hk1 hS => ?_)
  obtain ⟨f2_17, hP1, hK1, hD1⟩ := hB
  rw [ht] at hP1
  have hK1 := va_K.moved hvm.symm hK1
  obtain ⟨hP, hD⟩ := va_join (wr := [(h0, .inr (7, [.ref tp, .ref sc, .ref rd, .ref cu, .ref im, .ref ig, .ref sl, .ref se, .ref su, .ref fc]))]) (w1 := [(tp, .inr (6, [.ref tb, .int 20])), (tb, .inl (cB, 1200, .inl f2_17))]) hP hD [1, 2] [0] rfl rfl (by decide) (by decide) hk1 hFc hP1 hD1
  have hK := (hK.sub (tys' := []) [] rfl).app hK1
  generalize H1 = H at hP hS ⊢
  have hP : va_P (dC, dI) vwCl [(h0, .inr (7, [.ref tp, .ref sc, .ref rd, .ref cu, .ref im, .ref ig, .ref sl, .ref se, .ref su, .ref fc])), (tp, .inr (6, [.ref tb, .int 20])), (tb, .inl (cB, 1200, .inl f2_17))] H := hP
  have hD : va_D A [(h0, .inr (7, [.ref tp, .ref sc, .ref rd, .ref cu, .ref im, .ref ig, .ref sl, .ref se, .ref su, .ref fc])), (tp, .inr (6, [.ref tb, .int 20])), (tb, .inl (cB, 1200, .inl f2_17))] := hD
  have hK : va_K (dC, dI) vwCl [(cB, .byte)] s := hK
  refine lv_aload_n hx hb dX9_feed_56 rfl (lv_at hl 0 rfl) ?_
  refine va_get (D := (dC, dI)) (ci := 7) (v := .ref tp) (C := RX9) (T := TX9) (N := 10) hx hb hts iX9_feed_X9 hown hK hP 0 rfl rfl 0 (by decide) (hts (.fieldLink RX9 10 "LuckyTicket" "tape" "LLuckyTicket$Tape;") (List.mem_of_getElem? (i := 1) rfl)) (fun _ h9 => h9) rfl dX9_feed_57 ?_
  refine va_getN (own := RX9) (index := 80) (ref := RX7) (host := RX9) (D := (dC, dI)) (ci := 6) (v := .int 20) (C := RX7) (T := TX7) (N := 2) hx hb hts iX9_feed_X7 hown hK hP 1 rfl rfl 1 (by decide) (va_Nw.use rfl (hN _ (List.mem_of_getElem? (i := 1) rfl))) (fun _ h9 => h9) rfl dX9_feed_60 ?_
  have hP9 := hP.sub (ws' := []) [] rfl
  have hD9 := hD.sub (ws' := []) [] (by decide) rfl
  have hK9 := hK.sub (tys' := []) [] rfl
  exact W.iret (v := 20) hx hb hr (fun t ht hW => ⟨⟨20, (), rfl, rfl, by rw [ht]; exact hP9, va_K.moved hW.alike hK9, hD9⟩, hS.F ht⟩) hS.2.2 dX9_feed_63
