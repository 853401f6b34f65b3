def nstL : List Cond := [.fieldLinkNest "LuckyTicket$Reader" 186 "LuckyTicket$Tape" "bytes" "[B" "LuckyTicket", .fieldLinkNest "LuckyTicket" 80 "LuckyTicket$Tape" "size" "I" "LuckyTicket", .fieldLinkNest "LuckyTicket$Reader" 194 "LuckyTicket$Tape" "size" "I" "LuckyTicket", .fieldLinkNest "LuckyTicket$Roll" 19 "LuckyTicket$Script" "length" "I" "LuckyTicket", .fieldLinkNest "LuckyTicket$Reader" 74 "LuckyTicket$Script" "length" "I" "LuckyTicket", .fieldLinkNest "LuckyTicket$Roll" 26 "LuckyTicket$Script" "base" "I" "LuckyTicket", .fieldLinkNest "LuckyTicket$Reader" 82 "LuckyTicket$Script" "base" "I" "LuckyTicket", .fieldLinkNest "LuckyTicket$Roll" 34 "LuckyTicket$Script" "lines" "I" "LuckyTicket", .fieldLinkNest "LuckyTicket$Reader" 42 "LuckyTicket$Script" "lines" "I" "LuckyTicket", .fieldLinkNest "LuckyTicket$Roll" 30 "LuckyTicket$Script" "laws" "I" "LuckyTicket", .fieldLinkNest "LuckyTicket$Reader" 93 "LuckyTicket$Script" "laws" "I" "LuckyTicket", .fieldLinkNest "LuckyTicket" 87 "LuckyTicket$Reader" "fault" "I" "LuckyTicket", .fieldLinkNest "LuckyTicket" 97 "LuckyTicket$Reader" "faultPlace" "I" "LuckyTicket", .fieldLinkNest "LuckyTicket$Search" 34 "LuckyTicket$Roll" "length" "I" "LuckyTicket", .fieldLinkNest "LuckyTicket" 110 "LuckyTicket$Roll" "length" "I" "LuckyTicket", .fieldLinkNest "LuckyTicket$Search" 56 "LuckyTicket$Roll" "base" "I" "LuckyTicket", .fieldLinkNest "LuckyTicket" 220 "LuckyTicket$Roll" "base" "I" "LuckyTicket", .fieldLinkNest "LuckyTicket$Search" 22 "LuckyTicket$Roll" "tickets" "I" "LuckyTicket", .fieldLinkNest "LuckyTicket" 155 "LuckyTicket$Roll" "tickets" "I" "LuckyTicket", .fieldLinkNest "LuckyTicket" 327 "LuckyTicket$Roll" "laws" "I" "LuckyTicket", .fieldLinkNest "LuckyTicket" 94 "LuckyTicket$Roll" "lines" "I" "LuckyTicket", .fieldLinkNest "LuckyTicket" 350 "LuckyTicket$Row" "width" "I" "LuckyTicket", .fieldLinkNest "LuckyTicket" 271 "LuckyTicket$Row" "size" "I" "LuckyTicket", .methodLinkNest "LuckyTicket" 9 ⟨"LuckyTicket$Tape", "<init>", "()V"⟩ "LuckyTicket", .methodLinkNest "LuckyTicket" 18 ⟨"LuckyTicket$Script", "<init>", "()V"⟩ "LuckyTicket", .methodLinkNest "LuckyTicket" 34 ⟨"LuckyTicket$Roll", "<init>", "()V"⟩ "LuckyTicket", .methodLinkNest "LuckyTicket" 49 ⟨"LuckyTicket$Row", "<init>", "()V"⟩ "LuckyTicket", .methodLinkNest "LuckyTicket" 56 ⟨"LuckyTicket$Search", "<init>", "()V"⟩ "LuckyTicket", .methodLinkNest "LuckyTicket" 63 ⟨"LuckyTicket$SumTable", "<init>", "()V"⟩ "LuckyTicket", .methodLinkNest "LuckyTicket$Reader" 84 ⟨"LuckyTicket", "power", "(II)I"⟩ "LuckyTicket", .methodLinkNest "LuckyTicket$Roll" 38 ⟨"LuckyTicket", "power", "(II)I"⟩ "LuckyTicket"]
def nst (U : State) : Prop := ∀ w ∈ nstL, va_Nw w U
def isNst : Cond → Bool
  | .fieldLinkNest .. => true
  | .methodLinkNest .. => true
  | _ => false
theorem nst_all : ∀ w ∈ nstL, isNst w = true := List.all_eq_true.mp (by decide +kernel)
theorem nst_w {w : Cond} (hi : isNst w = true) {s U : State} (hW : s.WarmedH U.vm) (h : va_Nw w s) : va_Nw w U := by
  cases w <;> first | exact va_Nw.warmF hW h | exact va_Nw.warmM hW h | cases hi
theorem nst_t {w : Cond} (hi : isNst w = true) : w.onTables = true := by
  cases w <;> first | rfl | cases hi
theorem nst.warm {s U : State} (hW : s.WarmedH U.vm) (h : nst s) : nst U := fun w hw => nst_w (nst_all w hw) hW (h w hw)
theorem nst.same {u U : State} (he : u.vm = U.vm) (h : nst u) : nst U := fun w hw => va_Nw.same (nst_t (nst_all w hw)) he (h w hw)
def pw (D : va_G) (cl : List vw_C) (ws : va_W) (tys : List (ClassId × FieldType)) (U : State) : Prop := va_P D cl ws U.heap ∧ va_K D cl tys U ∧ nst U
theorem pw_fb {av : List Value} {D : va_G} {cl : List vw_C} {ws : va_W} {tys : List (ClassId × FieldType)} : FrameBlind (va_Pc av (pw D cl ws tys)) := fun a U g mk q => by
  obtain ⟨q0, qP, qK, qN⟩ := q
  exact ⟨q0, qP, va_K.moved (u := U) (U := U.calling g mk a) (Vm.Alike.refl U.vm) qK, nst.same (u := U) (U := U.calling g mk a) rfl qN⟩
theorem pw_use {av : List Value} {D : va_G} {cl : List vw_C} {ws ws' : va_W} {tys tys' : List (ClassId × FieldType)} {s : State} {H : Heap} (hP : va_P D cl ws H) (hK : va_K D cl tys s) (hN : nst s) (is : List Nat) (hs : is.filterMap (fun i => ws[i]?) = ws') (it : List Nat) (ht : it.filterMap (fun i => tys[i]?) = tys') : ∀ U : State, U.heap = H → s.WarmedH U.vm → va_Pc av (pw D cl ws' tys') av.toArray U := fun U hU hW => ⟨rfl, by rw [hU]; exact hP.sub is hs, va_K.moved hW.alike (hK.sub it ht), hN.warm hW⟩
theorem pn_fb {av : List Value} : FrameBlind (va_Pc av (fun _ => True)) := fun a U g mk q => q
theorem pn_use {av : List Value} {s : State} {H : Heap} : ∀ U : State, U.heap = H → s.WarmedH U.vm → va_Pc av (fun _ => True) av.toArray U := fun U hU hW => ⟨rfl, trivial⟩
def hw (D : va_G) (cl : List vw_C) (ws : va_W) (tys : List (ClassId × FieldType)) (sz : Nat) (U : State) : Prop := U.heap.size = sz ∧ va_P D cl ws U.heap ∧ va_K D cl tys U ∧ va_D (fun _ => True) ws ∧ nst U
theorem hw_fb {av : List Value} {D : va_G} {cl : List vw_C} {ws : va_W} {tys : List (ClassId × FieldType)} {sz : Nat} : FrameBlind (va_Pc av (hw D cl ws tys sz)) := fun a U g mk q => by
  obtain ⟨q0, qs, qP, qK, qD, qN⟩ := q
  exact ⟨q0, qs, qP, va_K.moved (u := U) (U := U.calling g mk a) (Vm.Alike.refl U.vm) qK, qD, nst.same (u := U) (U := U.calling g mk a) rfl qN⟩
theorem hw_use {av : List Value} {D : va_G} {cl : List vw_C} {ws ws' : va_W} {tys tys' : List (ClassId × FieldType)} {s : State} {H : Heap} {A : Nat → Prop} (hP : va_P D cl ws H) (hD : va_D A ws) (hK : va_K D cl tys s) (hN : nst s) (is : List Nat) (hs : is.filterMap (fun i => ws[i]?) = ws') (hn : va_nd is = true) (hs2 : is.map (fun i => ws[i]?) = ws'.map some) (it : List Nat) (ht : it.filterMap (fun i => tys[i]?) = tys') : ∀ U : State, U.heap = H → s.WarmedH U.vm → va_Pc av (hw D cl ws' tys' H.size) av.toArray U := fun U hU hW => ⟨rfl, by rw [hU], by rw [hU]; exact hP.sub is hs, va_K.moved hW.alike (hK.sub it ht), (hD.sub is hn hs2).weaken (fun _ _ _ _ => trivial), hN.warm hW⟩
theorem vp_in_lit {i : Int32} {n : Nat} (h : (!(decide (i < 0)) && decide (i.toNatClampNeg < n)) = true) : vp_in i n := by
  simp only [Bool.and_eq_true, Bool.not_eq_true', decide_eq_false_iff_not, decide_eq_true_eq] at h
  exact fun q => q.elim h.1 (fun q => absurd h.2 (Nat.not_lt.mpr q))
theorem lel (a b : Nat) (h : Nat.ble a b = true) : a ≤ b := Nat.le_of_ble_eq_true h
theorem tb_0 {w : Cond} (h : w ∈ k2_sels lw_privs) : w ∈ lw_tbl := List.mem_append_left _ h
theorem tb_1 {w : Cond} (h : w ∈ tables_1_1) : w ∈ lw_tbl := List.mem_append_right _ (List.mem_append_left _ h)
theorem tb_2 {w : Cond} (h : w ∈ tables_1_2) : w ∈ lw_tbl := List.mem_append_right _ (List.mem_append_right _ (List.mem_append_left _ h))
theorem tb_3 {w : Cond} (h : w ∈ tables_1_3) : w ∈ lw_tbl := List.mem_append_right _ (List.mem_append_right _ (List.mem_append_right _ (List.mem_append_left _ h)))
theorem tb_4 {w : Cond} (h : w ∈ tables_1_4) : w ∈ lw_tbl := List.mem_append_right _ (List.mem_append_right _ (List.mem_append_right _ (List.mem_append_right _ (List.mem_append_left _ h))))
theorem tb_5 {w : Cond} (h : w ∈ tables_1_5) : w ∈ lw_tbl := List.mem_append_right _ (List.mem_append_right _ (List.mem_append_right _ (List.mem_append_right _ (List.mem_append_right _ (List.mem_append_left _ h)))))
theorem tb_6 {w : Cond} (h : w ∈ tables_1_6) : w ∈ lw_tbl := List.mem_append_right _ (List.mem_append_right _ (List.mem_append_right _ (List.mem_append_right _ (List.mem_append_right _ (List.mem_append_right _ (List.mem_append_left _ h))))))
theorem tb_7 {w : Cond} (h : w ∈ tables_1_7) : w ∈ lw_tbl := List.mem_append_right _ (List.mem_append_right _ (List.mem_append_right _ (List.mem_append_right _ (List.mem_append_right _ (List.mem_append_right _ (List.mem_append_right _ (List.mem_append_left _ h)))))))
theorem tb_8 {w : Cond} (h : w ∈ tables_1_8) : w ∈ lw_tbl := List.mem_append_right _ (List.mem_append_right _ (List.mem_append_right _ (List.mem_append_right _ (List.mem_append_right _ (List.mem_append_right _ (List.mem_append_right _ (List.mem_append_right _ h)))))))
abbrev vwCl : List vw_C := [(RX1, TX1, 9), (RX2, TX2, 7), (RX3, TX3, 3), (RX4, TX4, 9), (RX5, TX5, 3), (RX6, TX6, 1), (RX7, TX7, 2), (RX9, TX9, 10), (RX10, TX10, 33)]
theorem in_no (v : Int64) : ¬ (0 ≤ v ∧ v ≤ -1) := fun h => by
  have h1 := Int64.le_iff_toInt_le.mp h.1
  have h2 := Int64.le_iff_toInt_le.mp h.2
  have e1 : (0 : Int64).toInt = 0 := by decide
  have e2 : (-1 : Int64).toInt = -1 := by decide
  omega
theorem inX1 : ∀ w ∈ wsX10, w ∈ lw_tbl := by decide +kernel
theorem inX2 : ∀ w ∈ wsX20, w ∈ lw_tbl := by decide +kernel
theorem inX3 : ∀ w ∈ wsX30, w ∈ lw_tbl := by decide +kernel
theorem inX4 : ∀ w ∈ wsX40, w ∈ lw_tbl := by decide +kernel
theorem inX5 : ∀ w ∈ wsX50, w ∈ lw_tbl := by decide +kernel
theorem inX6 : ∀ w ∈ wsX60, w ∈ lw_tbl := by decide +kernel
theorem inX7 : ∀ w ∈ wsX70, w ∈ lw_tbl := by decide +kernel
theorem inX9 : ∀ w ∈ wsX90, w ∈ lw_tbl := by decide +kernel
theorem inX10 : ∀ w ∈ wsX100, w ∈ lw_tbl := by decide +kernel
