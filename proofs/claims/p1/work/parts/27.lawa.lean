theorem hwo_use {av : List Value} {D : va_G} {cl : List vw_C} {ws ws' : va_W} {tys tys' : List (ClassId × FieldType)} {s : State} {H : Heap} {A : Nat → Prop} (hP : va_P D cl ws H) (hD : va_D A ws) (hK : va_K D cl tys s) (hN : nst s) (h2 : va_AO RX2 s) (h3 : va_AO RX3 s) (is : List Nat) (hs : is.filterMap (fun i => ws[i]?) = ws') (hn : va_nd is = true) (hs2 : is.map (fun i => ws[i]?) = ws'.map some) (it : List Nat) (ht : it.filterMap (fun i => tys[i]?) = tys') : ∀ U : State, U.heap = H → s.WarmedH U.vm → va_Pc av (hwo D cl ws' tys' H.size) av.toArray U := fun U hU hW => ⟨rfl, ⟨by rw [hU], by rw [hU]; exact hP.sub is hs, va_K.moved hW.alike (hK.sub it ht), (hD.sub is hn hs2).weaken (fun _ _ _ _ => trivial), hN.warm hW⟩, va_AO.moved hW.alike h2, va_AO.moved hW.alike h3⟩
def yw2 (s : State) (H : Heap) : Prop := ∃ t, va_Z "LuckyTicket$Year" "MONTHS" "[I" (.ref t) (fun _ => False) s H ∧ va_T .int t 12 moV (fun _ => False) s H
def ywA (A : Nat → Prop) (s : State) : Prop := ∃ t, va_Z "LuckyTicket$Year" "MONTHS" "[I" (.ref t) A s s.heap ∧ va_T .int t 12 moV A s s.heap
theorem yw2_of {A : Nat → Prop} {s : State} {H : Heap} {locs : List Loc} (h : ywA A s) (hS : va_S A s.heap H locs) : yw2 s H := by
  obtain ⟨t, hZ, hT⟩ := h
  exact ⟨t, (hZ.kept hS.2.1).narrow (fun _ q => q.elim), (hT.kept hS.2.1).narrow (fun _ q => q.elim)⟩
theorem yw2_use {av : List Value} {s : State} {H : Heap} (h : yw2 s H) : ∀ U : State, U.heap = H → s.WarmedH U.vm → va_Pc av yw av.toArray U := fun U hU hW => by
  obtain ⟨t, qZ, qT⟩ := h
  exact ⟨rfl, t, by rw [hU]; exact va_Z.moved hW.alike qZ, by rw [hU]; exact va_T.moved hW.alike qT⟩
section LLD
variable {p : Program} {l : Launch} {e : Env} {R : Room} {s : State} {m : MethodId} {args : Array Value} {below : List Frame} {meth : Method} {c : Code} {H : Heap} {locs : List Loc} {cells slots : Nat} {Q : State → Prop}
theorem law_ld {pc : Nat} {k : Int} {v : Int32} {ls : Array Slot} {rest : List Value} {xx mm b L : Nat} {xs : Nat → Int32} {A : Nat → Prop} (hx : p.tables.exec = Jvm.exec) (hb : c.code = code) (hX : va_X b L xs s s.heap) (hbl : b < s.heap.size) (hbA : ¬ A b) (hS : va_S A s.heap H locs) (hl : lv_has ls 4 [(3, .int 0), (2, .ref mm), (1, .ref xx), (0, .ref b)]) (d1 : decode code pc = .ok (.aload_n 0, 1)) (d2 : decode code (pc + 1) = .ok (.iload_n 3, 1)) (d3 : decode code (pc + 1 + 1) = .ok (.iconst k, 1)) (d4 : decode code (pc + 1 + 1 + 1) = .ok (.iadd, 1)) (d5 : decode code (pc + 1 + 1 + 1 + 1) = .ok (.iaload, 1)) (hv : Int32.ofInt k = v) (hv2 : (0 : Int32) + v = v) (hin : vp_in v L) (kk : W p l e R s m args below meth c H locs cells slots Q (F0 m (pc + 5) ls (.int (xs v.toNatClampNeg) :: rest))) : W p l e R s m args below meth c H locs cells slots Q (F0 m pc ls rest) := by
  refine lv_aload_n hx hb d1 rfl (lv_at hl 3 rfl) ?_
  refine lv_iload_n hx hb d2 rfl (lv_at hl 0 rfl) ?_
  refine lv_iconst (v := v) hx hb d3 hv ?_
  refine lv_iadd hx hb d4 ?_
  refine lv_topi (fun z ez => ?_)
  obtain rfl : z = v := ez.trans hv2
  exact va_sld hx hb hX hbl hbA hS hin d5 kk
end LLD
/-! THE CLAIM OUT OF ONE WALK OF THE LAW'S BODY. Your part is whole_start (and what it stands on); all else here is the same for every law, but numbers. -/
def R_law : String := "LuckyTicketLaw"
def lw_P (b : Addr) (xs : List Int32) (args : Array Value) (s : State) : Prop := args = #[.ref b] ∧ s.IntsAt b xs ∧ xs.length ≤ 6 ∧ (Jvm.Cond.and given_1 narrow_1).before args s = true
def lw_Q (_ : Array Value) (s : State) (o : Outcome) (t : State) : Prop := o = .returned (some (.int 1)) ∧ Framed s o t [] 600000 7302250
def lw_Z (below : List Frame) (a : Array Value) (s : State) : State → Prop := fun t => ∃ o, t.status = .running ∧ Ended t below o ∧ lw_Q a s o t
/-- the law's own end, with 1 on the stack, nothing written that was there before, its room as the claim has it -/
theorem lw_ret {p : Program} {l : Launch} {e : Env} {s : State} {m : MethodId} {below : List Frame} {meth : Method} {c : Code} {b : Nat} (hx : p.tables.exec = Jvm.exec) (hb : c.code = code) (hr : meth.sig.returnType = ret) (hlocks : meth.locks = false) {pc : Nat} {H : Heap} {ls : Array Slot} (hdg : decode code pc = .ok (.ireturn, 1)) : W p l e room_1 s m #[Value.ref b] below meth c H [] 600000 7302250 (lw_Z below #[Value.ref b] s) (F0 m pc ls [.int 1]) := by
  intro T hT X
  obtain ⟨fs, hret, hrun, hended, hW, hframe⟩ := X.leave (v := some (.int 1)) (hlocks := hlocks) (fun h => by rw [hr] at h; cases h)
  have hmeth' : T.vm.method? m = some meth := X.method'
  refine ⟨T.setFrames fs, ?_, .returned (some (.int 1)), hrun, hended, rfl, ⟨_, rfl⟩, hW, hframe⟩
  jvm_step X.here [X.here.top, hx, hb, hdg, hmeth', hr, ret, narrow_b1]
  (try refine ⟨rfl, ?_⟩); (try refine ⟨rfl, ?_⟩)
  first | (intro acts; rw [hret _ acts rfl rfl rfl]) | rw [hret _ _ rfl rfl rfl]
  exact Steps.refl _
/-- what holds at the law's entry: the machine, the code, the tables' words (any of lw_tbl by 'hts w (by decide +kernel)'), the script of L ints xs at the cell b, what the Statement gives of the start (any of its parts by flat_of_before) -/
def lw_At (p : Program) (s : State) (m : MethodId) (meth : Method) (c : Code) (b L : Nat) (xs : Nat → Int32) : Prop :=
  p.tables.exec = Jvm.exec ∧ c.code = code ∧ meth.sig.returnType = ret ∧ c.maxLocals = 4 ∧ s.vm.findClass R_law = some m.cls ∧ (∀ w ∈ lw_tbl, w.before #[Value.ref b] s = true) ∧ va_X b L xs s s.heap ∧ b < s.heap.size ∧ meth.locks = false ∧ (Jvm.Cond.and given_1 narrow_1).before #[Value.ref b] s = true

def uX10_count2 : List Cond := .code yX10_count cX10_count 4 (some .int) :: ([.fieldLink RX10 9 "LuckyTicketModel" "world" "[I", .fieldLink RX10 97 "LuckyTicketModel" "taped" "I", .fieldLink RX10 65 "LuckyTicketModel" "many" "[I"] ++ wsX100)
theorem iX10_count2_X10 : ∀ w ∈ wsX100, w ∈ uX10_count2 := fun _ h => List.mem_cons_of_mem _ (List.mem_append_right _ h)
set_option maxHeartbeats 4000000 in
set_option maxRecDepth 100000 in
theorem kX10_count2 (l : Launch) (dC : Nat → ClassId) (dI : Nat → Nat → Nat) (h0 : Nat) (m_world : Nat) (m_images : Nat) (m_hasImage : Nat) (m_luck : Nat) (m_tape : Nat) (m_five : Nat) (m_fresh : Nat) (m_waits : Nat) (m_figures : Nat) (m_pile : Nat) (m_times : Nat) (m_far : Nat) (m_queue : Nat) (m_months : Nat) (m_ways : Nat) (m_waysOn : Nat) (m_many : Nat) (m_width : Nat) (m_numbers : Nat) (m_moving : Nat) (cI : ClassId) (cI2 : ClassId) (a1 : Int32) : Met l yX10_count uX10_count2 ({ frames := 0, cells := 0, slots := 0, locals := 0 }) (va_Pc [.ref h0, .int a1] (pw (dC, dI) vwCl [(h0, .inr (8, [.int 0, .ref m_world, .ref m_images, .ref m_hasImage, .ref m_luck, .ref m_tape, .int 0, .ref m_five, .int 0, .int 0, .int 0, .int 0, .int 0, .int 0, .int (-1), .ref m_fresh, .ref m_waits, .int 0, .int 0, .int 0, .ref m_figures, .ref m_pile, .long 0, .ref m_times, .ref m_far, .ref m_queue, .ref m_months, .ref m_ways, .ref m_waysOn, .ref m_many, .ref m_width, .ref m_numbers, .ref m_moving])), (m_world, .inl (cI, 1875, .inl (fun _ => 0))), (m_many, .inl (cI2, 4, .inl manyF))] [(cI, .int), (cI2, .int)])) (vp_Si (fun r => r = ct a1)) 0 0 (fun _ => False) := by
  refine Met.ofW (cc := cX10_count) (maxL := 4) (ret := (some .int)) (by decide) rfl ?_
  intro p e s m args below meth c s₁ B hml hv
  obtain ⟨rfl, hP, hK, hN⟩ := hv
  have hx := B.exec
  have hb := B.bytes
  have hr := B.returns
  have hts := atoms_spec (ws := uX10_count2) B.pre
  have hown : s.vm.findClass RX10 = some m.cls := findClass_of_methodNamed B.named
  have hlocks := B.notSynchronized
  have hl := lv_entry ([.ref h0, .int a1]) (n := 4) (Nat.le_of_ble_eq_true rfl)
  rw [lg_entry_eq]
  generalize (lg_sl ([.ref h0, .int a1]) ++ List.replicate (4 - (lg_sl ([.ref h0, .int a1])).length) Slot.unset).toArray = ls at hl ⊢
  have hl : lv_has ls 4 [(0, .ref h0), (1, .int a1)] := hl
  refine lv_iconst (v := 0) hx hb dX10_count_0 (by decide) ?_
  refine lv_istore_n (lv' := [(2, .int 0), (0, .ref h0), (1, .int a1)]) hx hb dX10_count_1 rfl hl (by decide) rfl (fun ls hl => ?_)
  refine lv_iload_n hx hb dX10_count_2 rfl (lv_at hl 2 rfl) ?_
  by_cases c_1 : a1.toInt < 0 ∨ 7 < a1.toInt
  ·
    refine lv_tableOut (tgt := 158) hx hb dX10_count_3 c_1 (by decide) ?_
    refine lv_iconst (v := (-1)) hx hb dX10_count_158 (by decide) ?_
    exact W.iret (v := (-1)) hx hb hr (fun t ht hW => ⟨(-1), rfl, (if_pos c_1).symm, ht⟩) t_nil dX10_count_159
  ·
    rcases ts_8 c_1 with rfl | rfl | rfl | rfl | rfl | rfl | rfl | rfl
    ·
      refine lv_tableIn (off := 45) (tgt := 48) hx hb dX10_count_3 (by decide) (by decide) (by decide) (by decide) ?_
      refine lv_aload_n hx hb dX10_count_48 rfl (lv_at hl 1 rfl) ?_
      refine va_get (D := (dC, dI)) (ci := 8) (v := .ref m_world) (C := RX10) (T := TX10) (N := 33) hx hb hts iX10_count2_X10 hown hK hP 0 rfl rfl 1 (by decide) (hts (.fieldLink RX10 9 "LuckyTicketModel" "world" "[I") (List.mem_of_getElem? (i := 1) rfl)) (fun _ h9 => h9) rfl dX10_count_49 ?_
      refine lv_iconst (v := 0) hx hb dX10_count_52 (by decide) ?_
      refine va_iald hx hb hK hP 1 0 rfl rfl (vp_in_lit (by decide)) dX10_count_53 ?_
      refine lv_topi (fun z_2 ez_2 => ?_)
      obtain rfl : z_2 = 0 := ez_2
      exact W.iret (v := 0) hx hb hr (fun t ht hW => ⟨0, rfl, (by decide), ht⟩) t_nil dX10_count_54
    ·
      refine lv_tableIn (off := 52) (tgt := 55) hx hb dX10_count_3 (by decide) (by decide) (by decide) (by decide) ?_
      refine lv_aload_n hx hb dX10_count_55 rfl (lv_at hl 1 rfl) ?_
      refine va_get (D := (dC, dI)) (ci := 8) (v := .ref m_world) (C := RX10) (T := TX10) (N := 33) hx hb hts iX10_count2_X10 hown hK hP 0 rfl rfl 1 (by decide) (hts (.fieldLink RX10 9 "LuckyTicketModel" "world" "[I") (List.mem_of_getElem? (i := 1) rfl)) (fun _ h9 => h9) rfl dX10_count_56 ?_
      refine lv_iconst (v := 1) hx hb dX10_count_59 (by decide) ?_
      refine va_iald hx hb hK hP 1 0 rfl rfl (vp_in_lit (by decide)) dX10_count_60 ?_
      refine lv_topi (fun z_3 ez_3 => ?_)
      obtain rfl : z_3 = 0 := ez_3
      exact W.iret (v := 0) hx hb hr (fun t ht hW => ⟨0, rfl, (by decide), ht⟩) t_nil dX10_count_61
    ·
      refine lv_tableIn (off := 59) (tgt := 62) hx hb dX10_count_3 (by decide) (by decide) (by decide) (by decide) ?_
      refine lv_aload_n hx hb dX10_count_62 rfl (lv_at hl 1 rfl) ?_
      refine va_get (D := (dC, dI)) (ci := 8) (v := .ref m_world) (C := RX10) (T := TX10) (N := 33) hx hb hts iX10_count2_X10 hown hK hP 0 rfl rfl 1 (by decide) (hts (.fieldLink RX10 9 "LuckyTicketModel" "world" "[I") (List.mem_of_getElem? (i := 1) rfl)) (fun _ h9 => h9) rfl dX10_count_63 ?_
      refine lv_iconst (v := 2) hx hb dX10_count_66 (by decide) ?_
      refine va_iald hx hb hK hP 1 0 rfl rfl (vp_in_lit (by decide)) dX10_count_67 ?_
      refine lv_topi (fun z_4 ez_4 => ?_)
      obtain rfl : z_4 = 0 := ez_4
      exact W.iret (v := 0) hx hb hr (fun t ht hW => ⟨0, rfl, (by decide), ht⟩) t_nil dX10_count_68
    ·
      refine lv_tableIn (off := 66) (tgt := 69) hx hb dX10_count_3 (by decide) (by decide) (by decide) (by decide) ?_
      refine lv_aload_n hx hb dX10_count_69 rfl (lv_at hl 1 rfl) ?_
      refine va_get (D := (dC, dI)) (ci := 8) (v := .ref m_world) (C := RX10) (T := TX10) (N := 33) hx hb hts iX10_count2_X10 hown hK hP 0 rfl rfl 1 (by decide) (hts (.fieldLink RX10 9 "LuckyTicketModel" "world" "[I") (List.mem_of_getElem? (i := 1) rfl)) (fun _ h9 => h9) rfl dX10_count_70 ?_
      refine lv_iconst (v := 3) hx hb dX10_count_73 (by decide) ?_
      refine va_iald hx hb hK hP 1 0 rfl rfl (vp_in_lit (by decide)) dX10_count_74 ?_
      refine lv_topi (fun z_5 ez_5 => ?_)
      obtain rfl : z_5 = 0 := ez_5
      exact W.iret (v := 0) hx hb hr (fun t ht hW => ⟨0, rfl, (by decide), ht⟩) t_nil dX10_count_75
    ·
      refine lv_tableIn (off := 73) (tgt := 76) hx hb dX10_count_3 (by decide) (by decide) (by decide) (by decide) ?_
      refine lv_aload_n hx hb dX10_count_76 rfl (lv_at hl 1 rfl) ?_
      refine va_get (D := (dC, dI)) (ci := 8) (v := .ref m_world) (C := RX10) (T := TX10) (N := 33) hx hb hts iX10_count2_X10 hown hK hP 0 rfl rfl 1 (by decide) (hts (.fieldLink RX10 9 "LuckyTicketModel" "world" "[I") (List.mem_of_getElem? (i := 1) rfl)) (fun _ h9 => h9) rfl dX10_count_77 ?_
      refine lv_iconst (v := 4) hx hb dX10_count_80 (by decide) ?_
      refine va_iald hx hb hK hP 1 0 rfl rfl (vp_in_lit (by decide)) dX10_count_81 ?_
      refine lv_topi (fun z_6 ez_6 => ?_)
      obtain rfl : z_6 = 0 := ez_6
      exact W.iret (v := 0) hx hb hr (fun t ht hW => ⟨0, rfl, (by decide), ht⟩) t_nil dX10_count_82
    ·
      refine lv_tableIn (off := 80) (tgt := 83) hx hb dX10_count_3 (by decide) (by decide) (by decide) (by decide) ?_
      refine lv_aload_n hx hb dX10_count_83 rfl (lv_at hl 1 rfl) ?_
      refine va_get (D := (dC, dI)) (ci := 8) (v := .int 0) (C := RX10) (T := TX10) (N := 33) hx hb hts iX10_count2_X10 hown hK hP 0 rfl rfl 6 (by decide) (hts (.fieldLink RX10 97 "LuckyTicketModel" "taped" "I") (List.mem_of_getElem? (i := 2) rfl)) (fun _ h9 => h9) rfl dX10_count_84 ?_
      exact W.iret (v := 0) hx hb hr (fun t ht hW => ⟨0, rfl, (by decide), ht⟩) t_nil dX10_count_87
    ·
      refine lv_tableIn (off := 85) (tgt := 88) hx hb dX10_count_3 (by decide) (by decide) (by decide) (by decide) ?_
      refine lv_iconst (v := 0) hx hb dX10_count_88 (by decide) ?_
      refine lv_istore_n (lv' := [(3, .int 0), (2, .int 0), (0, .ref h0), (1, .int 6)]) hx hb dX10_count_89 rfl hl (by decide) rfl (fun ls hl => ?_)
      refine lv_iload_n hx hb dX10_count_90 rfl (lv_at hl 0 rfl) ?_
      refine lv_aload_n hx hb dX10_count_91 rfl (lv_at hl 2 rfl) ?_
      refine va_get (D := (dC, dI)) (ci := 8) (v := .ref m_world) (C := RX10) (T := TX10) (N := 33) hx hb hts iX10_count2_X10 hown hK hP 0 rfl rfl 1 (by decide) (hts (.fieldLink RX10 9 "LuckyTicketModel" "world" "[I") (List.mem_of_getElem? (i := 1) rfl)) (fun _ h9 => h9) rfl dX10_count_92 ?_
      refine lv_iconst (v := 2) hx hb dX10_count_95 (by decide) ?_
      refine va_iald hx hb hK hP 1 0 rfl rfl (vp_in_lit (by decide)) dX10_count_96 ?_
      refine lv_topi (fun z_7 ez_7 => ?_)
      obtain rfl : z_7 = 0 := ez_7
      refine lv_icmp_ge (tgt := 123) hx hb dX10_count_97 (by decide) (fun _ => ?_) (fun c_8 => absurd c_8 (by decide))
      refine lv_iload_n hx hb dX10_count_123 rfl (lv_at hl 1 rfl) ?_
      exact W.iret (v := 0) hx hb hr (fun t ht hW => ⟨0, rfl, (by decide), ht⟩) t_nil dX10_count_124
    ·
      refine lv_tableIn (off := 122) (tgt := 125) hx hb dX10_count_3 (by decide) (by decide) (by decide) (by decide) ?_
      refine lv_iconst (v := 0) hx hb dX10_count_125 (by decide) ?_
      refine lv_istore_n (lv' := [(3, .int 0), (2, .int 0), (0, .ref h0), (1, .int 7)]) hx hb dX10_count_126 rfl hl (by decide) rfl (fun ls hl => ?_)
      refine lv_iload_n hx hb dX10_count_127 rfl (lv_at hl 0 rfl) ?_
      refine lv_iconst (v := 4) hx hb dX10_count_128 (by decide) ?_
      refine lv_icmp_ge (tgt := 156) hx hb dX10_count_129 (by decide) (fun c_9 => absurd c_9 (by decide)) (fun _ => ?_)
      refine lv_iload_n hx hb dX10_count_132 rfl (lv_at hl 1 rfl) ?_
      refine lv_aload_n hx hb dX10_count_133 rfl (lv_at hl 2 rfl) ?_
      refine va_get (D := (dC, dI)) (ci := 8) (v := .ref m_many) (C := RX10) (T := TX10) (N := 33) hx hb hts iX10_count2_X10 hown hK hP 0 rfl rfl 29 (by decide) (hts (.fieldLink RX10 65 "LuckyTicketModel" "many" "[I") (List.mem_of_getElem? (i := 3) rfl)) (fun _ h9 => h9) rfl dX10_count_134 ?_
      refine lv_iload_n hx hb dX10_count_137 rfl (lv_at hl 0 rfl) ?_
      refine va_iald hx hb hK hP 2 1 rfl rfl (vp_in_lit (by decide)) dX10_count_138 ?_
      refine lv_topi (fun z_10 ez_10 => ?_)
      obtain rfl : z_10 = (-1) := ez_10.trans (by decide)
      refine lv_iconst (v := (-1)) hx hb dX10_count_139 (by decide) ?_
      refine lv_icmp_ne (tgt := 147) hx hb dX10_count_140 (by decide) (fun c_11 => absurd c_11 (by decide)) (fun _ => ?_)
      refine lv_iconst (v := 0) hx hb dX10_count_143 (by decide) ?_
      refine lv_goto (tgt := 148) hx hb dX10_count_144 (by decide) ?_
      refine lv_iadd hx hb dX10_count_148 ?_
      refine lv_topi (fun z_12 ez_12 => ?_)
      obtain rfl : z_12 = 0 := ez_12.trans (by decide)
      refine lv_istore_n (lv' := [(2, .int 0), (3, .int 0), (0, .ref h0), (1, .int 7)]) hx hb dX10_count_149 rfl hl (by decide) rfl (fun ls hl => ?_)
      refine lv_iinc (v := 1) (lv' := [(3, .int 1), (2, .int 0), (0, .ref h0), (1, .int 7)]) hx hb dX10_count_150 hl (k := 1) rfl (by decide) (by decide) rfl (fun ls hl => ?_)
      refine lv_goto (tgt := 127) hx hb dX10_count_153 (by decide) ?_
      refine lv_iload_n hx hb dX10_count_127 rfl (lv_at hl 0 rfl) ?_
      refine lv_iconst (v := 4) hx hb dX10_count_128 (by decide) ?_
      refine lv_icmp_ge (tgt := 156) hx hb dX10_count_129 (by decide) (fun c_13 => absurd c_13 (by decide)) (fun _ => ?_)
      refine lv_iload_n hx hb dX10_count_132 rfl (lv_at hl 1 rfl) ?_
      refine lv_aload_n hx hb dX10_count_133 rfl (lv_at hl 2 rfl) ?_
      refine va_get (D := (dC, dI)) (ci := 8) (v := .ref m_many) (C := RX10) (T := TX10) (N := 33) hx hb hts iX10_count2_X10 hown hK hP 0 rfl rfl 29 (by decide) (hts (.fieldLink RX10 65 "LuckyTicketModel" "many" "[I") (List.mem_of_getElem? (i := 3) rfl)) (fun _ h9 => h9) rfl dX10_count_134 ?_
      refine lv_iload_n hx hb dX10_count_137 rfl (lv_at hl 0 rfl) ?_
      refine va_iald hx hb hK hP 2 1 rfl rfl (vp_in_lit (by decide)) dX10_count_138 ?_
      refine lv_topi (fun z_14 ez_14 => ?_)
      obtain rfl : z_14 = (-1) := ez_14.trans (by decide)
      refine lv_iconst (v := (-1)) hx hb dX10_count_139 (by decide) ?_
      refine lv_icmp_ne (tgt := 147) hx hb dX10_count_140 (by decide) (fun c_15 => absurd c_15 (by decide)) (fun _ => ?_)
      refine lv_iconst (v := 0) hx hb dX10_count_143 (by decide) ?_
      refine lv_goto (tgt := 148) hx hb dX10_count_144 (by decide) ?_
      refine lv_iadd hx hb dX10_count_148 ?_
      refine lv_topi (fun z_16 ez_16 => ?_)
      obtain rfl : z_16 = 0 := ez_16.trans (by decide)
      refine lv_istore_n (lv' := [(2, .int 0), (3, .int 1), (0, .ref h0), (1, .int 7)]) hx hb dX10_count_149 rfl hl (by decide) rfl (fun ls hl => ?_)
      refine lv_iinc (v := 2) (lv' := [(3, .int 2), (2, .int 0), (0, .ref h0), (1, .int 7)]) hx hb dX10_count_150 hl (k := 1) rfl (by decide) (by decide) rfl (fun ls hl => ?_)
      refine lv_goto (tgt := 127) hx hb dX10_count_153 (by decide) ?_
      refine lv_iload_n hx hb dX10_count_127 rfl (lv_at hl 0 rfl) ?_
      refine lv_iconst (v := 4) hx hb dX10_count_128 (by decide) ?_
      refine lv_icmp_ge (tgt := 156) hx hb dX10_count_129 (by decide) (fun c_17 => absurd c_17 (by decide)) (fun _ => ?_)
      refine lv_iload_n hx hb dX10_count_132 rfl (lv_at hl 1 rfl) ?_
      refine lv_aload_n hx hb dX10_count_133 rfl (lv_at hl 2 rfl) ?_
      refine va_get (D := (dC, dI)) (ci := 8) (v := .ref m_many) (C := RX10) (T := TX10) (N := 33) hx hb hts iX10_count2_X10 hown hK hP 0 rfl rfl 29 (by decide) (hts (.fieldLink RX10 65 "LuckyTicketModel" "many" "[I") (List.mem_of_getElem? (i := 3) rfl)) (fun _ h9 => h9) rfl dX10_count_134 ?_
      refine lv_iload_n hx hb dX10_count_137 rfl (lv_at hl 0 rfl) ?_
      refine va_iald hx hb hK hP 2 1 rfl rfl (vp_in_lit (by decide)) dX10_count_138 ?_
      refine lv_topi (fun z_18 ez_18 => ?_)
      obtain rfl : z_18 = (-1) := ez_18.trans (by decide)
      refine lv_iconst (v := (-1)) hx hb dX10_count_139 (by decide) ?_
      refine lv_icmp_ne (tgt := 147) hx hb dX10_count_140 (by decide) (fun c_19 => absurd c_19 (by decide)) (fun _ => ?_)
      refine lv_iconst (v := 0) hx hb dX10_count_143 (by decide) ?_
      refine lv_goto (tgt := 148) hx hb dX10_count_144 (by decide) ?_
      refine lv_iadd hx hb dX10_count_148 ?_
      refine lv_topi (fun z_20 ez_20 => ?_)
      obtain rfl : z_20 = 0 := ez_20.trans (by decide)
      refine lv_istore_n (lv' := [(2, .int 0), (3, .int 2), (0, .ref h0), (1, .int 7)]) hx hb dX10_count_149 rfl hl (by decide) rfl (fun ls hl => ?_)
      refine lv_iinc (v := 3) (lv' := [(3, .int 3), (2, .int 0), (0, .ref h0), (1, .int 7)]) hx hb dX10_count_150 hl (k := 1) rfl (by decide) (by decide) rfl (fun ls hl => ?_)
      refine lv_goto (tgt := 127) hx hb dX10_count_153 (by decide) ?_
      refine lv_iload_n hx hb dX10_count_127 rfl (lv_at hl 0 rfl) ?_
      refine lv_iconst (v := 4) hx hb dX10_count_128 (by decide) ?_
      refine lv_icmp_ge (tgt := 156) hx hb dX10_count_129 (by decide) (fun c_21 => absurd c_21 (by decide)) (fun _ => ?_)
      refine lv_iload_n hx hb dX10_count_132 rfl (lv_at hl 1 rfl) ?_
      refine lv_aload_n hx hb dX10_count_133 rfl (lv_at hl 2 rfl) ?_
      refine va_get (D := (dC, dI)) (ci := 8) (v := .ref m_many) (C := RX10) (T := TX10) (N := 33) hx hb hts iX10_count2_X10 hown hK hP 0 rfl rfl 29 (by decide) (hts (.fieldLink RX10 65 "LuckyTicketModel" "many" "[I") (List.mem_of_getElem? (i := 3) rfl)) (fun _ h9 => h9) rfl dX10_count_134 ?_
      refine lv_iload_n hx hb dX10_count_137 rfl (lv_at hl 0 rfl) ?_
      refine va_iald hx hb hK hP 2 1 rfl rfl (vp_in_lit (by decide)) dX10_count_138 ?_
      refine lv_topi (fun z_22 ez_22 => ?_)
      obtain rfl : z_22 = (-1) := ez_22.trans (by decide)
      refine lv_iconst (v := (-1)) hx hb dX10_count_139 (by decide) ?_
      refine lv_icmp_ne (tgt := 147) hx hb dX10_count_140 (by decide) (fun c_23 => absurd c_23 (by decide)) (fun _ => ?_)
      refine lv_iconst (v := 0) hx hb dX10_count_143 (by decide) ?_
      refine lv_goto (tgt := 148) hx hb dX10_count_144 (by decide) ?_
      refine lv_iadd hx hb dX10_count_148 ?_
      refine lv_topi (fun z_24 ez_24 => ?_)
      obtain rfl : z_24 = 0 := ez_24.trans (by decide)
      refine lv_istore_n (lv' := [(2, .int 0), (3, .int 3), (0, .ref h0), (1, .int 7)]) hx hb dX10_count_149 rfl hl (by decide) rfl (fun ls hl => ?_)
      refine lv_iinc (v := 4) (lv' := [(3, .int 4), (2, .int 0), (0, .ref h0), (1, .int 7)]) hx hb dX10_count_150 hl (k := 1) rfl (by decide) (by decide) rfl (fun ls hl => ?_)
      refine lv_goto (tgt := 127) hx hb dX10_count_153 (by decide) ?_
      refine lv_iload_n hx hb dX10_count_127 rfl (lv_at hl 0 rfl) ?_
      refine lv_iconst (v := 4) hx hb dX10_count_128 (by decide) ?_
      refine lv_icmp_ge (tgt := 156) hx hb dX10_count_129 (by decide) (fun _ => ?_) (fun c_25 => absurd c_25 (by decide))
      refine lv_iload_n hx hb dX10_count_156 rfl (lv_at hl 1 rfl) ?_
      exact W.iret (v := 0) hx hb hr (fun t ht hW => ⟨0, rfl, (by decide), ht⟩) t_nil dX10_count_157
theorem dL_law_18 : decode cL_law 18 = .ok (.iload_n 3, 1) := by decide +kernel
theorem dL_law_19 : decode cL_law 19 = .ok (.aload_n 0, 1) := by decide +kernel
theorem dL_law_20 : decode cL_law 20 = .ok (.arraylength, 1) := by decide +kernel
theorem dL_law_21 : decode cL_law 21 = .ok (.bipush 6, 2) := by decide +kernel
theorem dL_law_23 : decode cL_law 23 = .ok (.isub, 1) := by decide +kernel
theorem dL_law_24 : decode cL_law 24 = .ok (.if_icmp .gt 2413, 3) := by decide +kernel
theorem dL_law_2431 : decode cL_law 2431 = .ok (.iinc 3 6, 3) := by decide +kernel
theorem dL_law_2434 : decode cL_law 2434 = .ok (.goto (-2416), 3) := by decide +kernel
theorem dL_law_2437 : decode cL_law 2437 = .ok (.iconst 1, 1) := by decide +kernel
theorem dL_law_2438 : decode cL_law 2438 = .ok (.ireturn, 1) := by decide +kernel
set_option maxHeartbeats 4000000 in
set_option maxRecDepth 100000 in
theorem law_tail {p : Program} {e : Env} {s : State} {m : MethodId} {below : List Frame} {meth : Method} {c : Code} (l : Launch) {b : Nat} {xs : Nat → Int32} (C0 : lw_At p s m meth c b 6 xs) {xx mm : Nat} {H : Heap} {locs : List Loc} {ls : Array Slot} (hS : va_S (fun q : Nat => s.heap.size ≤ q) s.heap H locs) (hl : lv_has ls 4 [(3, .int 0), (2, .ref mm), (1, .ref xx), (0, .ref b)]) : W p l e room_1 s m #[Value.ref b] below meth c H locs 60 75000 (lw_Z below #[Value.ref b] s) (F0 m 2431 ls []) := by
  obtain ⟨hx, hb, hr, hml, hown0, hts, hX, hbl, hlocks, hgv⟩ := id C0
  have hown : s.vm.findClass RL = some m.cls := hown0
  have hA : ∀ q : Nat, s.heap.size ≤ q → (fun q : Nat => s.heap.size ≤ q) q := fun _ h => h
  have hbA : ¬ (fun q : Nat => s.heap.size ≤ q) b := Nat.not_le.mpr hbl
  refine lv_iinc (v := 6) (lv' := [(3, .int 6), (2, .ref mm), (1, .ref xx), (0, .ref b)]) hx hb dL_law_2431 hl (k := 0) rfl (by decide) (by decide) rfl (fun ls hl => ?_)
  refine lv_goto (tgt := 18) hx hb dL_law_2434 (by decide) ?_
  refine lv_iload_n hx hb dL_law_18 rfl (lv_at hl 0 rfl) ?_
  refine lv_aload_n hx hb dL_law_19 rfl (lv_at hl 3 rfl) ?_
  refine va_slen hx hb hX hbl hbA hS dL_law_20 ?_
  refine lv_bipush (v := 6) hx hb dL_law_21 (by decide) ?_
  refine lv_isub hx hb dL_law_23 ?_
  refine lv_topi (fun z ez => ?_)
  obtain rfl : z = 0 := ez.trans (by decide)
  refine lv_icmp_gt (tgt := 2437) hx hb dL_law_24 (by decide) (fun _ => ?_) (fun c_1 => absurd c_1 (by decide))
  refine lv_iconst (v := 1) hx hb dL_law_2437 (by decide) ?_
  refine va_forget (fun q h => hS.2.2 q h) ?_
  refine W.widen (k := 600000) (n := 7302250) (lel _ _ rfl) (lel _ _ rfl) ?_
  exact lw_ret hx hb hr hlocks dL_law_2438
