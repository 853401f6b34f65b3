def uX10_powerOfF : List Cond := List.cons (.code yX10_powerOf cX10_powerOf 6 (some .long)) ([] : List Cond)
theorem guX10_powerOfF : GU uX10_powerOfF := gu_cons (gu_all (by decide +kernel))
set_option maxHeartbeats 4000000 in
set_option maxRecDepth 100000 in
theorem kX10_powerOfF (l : Launch) (dC : Nat → ClassId) (dI : Nat → Nat → Nat) (a1 : Int64) (a2 : Int32) (b_a1 : (0 : Int) ≤ a1.toInt ∧ a1.toInt ≤ 17) (b_a2 : (0 : Int) ≤ a2.toInt ∧ a2.toInt ≤ 12) : Met l yX10_powerOf uX10_powerOfF ({ frames := 0, cells := 0, slots := 0, locals := 0 }) (va_Pc [.long a1, .int a2] (fun _ => True)) (vp_Sl (fun r => ((0 : Int) ≤ r.toInt ∧ r.toInt ≤ 582622237229761) ∧ (r.toInt = ((a1.toInt.toNat ^ a2.toInt.toNat : Nat) : Int)))) 0 0 (fun _ => False) := by
  refine Met.ofW (cc := cX10_powerOf) (maxL := 6) (ret := (some .long)) pn_X10 rfl ?_
  intro p e s m args below meth c s₁ B hml hv
  obtain ⟨rfl, _⟩ := hv
  have hx := B.exec
  have hb := B.bytes
  have hr := B.returns
  have hts := atoms_spec (ws := uX10_powerOfF) B.pre
  have hown : s.vm.findClass RX10 = some m.cls := hown_of B.named rfl
  have hlocks := B.notSynchronized
  have hl := lv_entry ([.long a1, .int a2]) (n := 6) (Nat.le_of_ble_eq_true rfl)
  rw [lg_entry_eq]
  generalize (lg_sl ([.long a1, .int a2]) ++ List.replicate (6 - (lg_sl ([.long a1, .int a2])).length) Slot.unset).toArray = ls at hl ⊢
  have hl : lv_has ls 6 [(0, .long a1), (2, .int a2)] := hl
  refine lv_lconst (v := 1) hx hb dX10_powerOf_0 (by decide) ?_
  refine lv_lstore_n (lv' := [(3, .long 1), (0, .long a1), (2, .int a2)]) hx hb dX10_powerOf_1 rfl hl (by decide) rfl (fun ls hl => ?_)
  refine lv_iconst (v := 0) hx hb dX10_powerOf_2 (by decide) ?_
  refine lv_istore (lv' := [(5, .int 0), (3, .long 1), (0, .long a1), (2, .int a2)]) hx hb dX10_powerOf_3 hl (by decide) rfl (fun ls hl => ?_)
  refine loopP (σ := Int32 × Int64) (fun v => (12 - v.1.toInt).toNat) (fun v ls => ((0 : Int) ≤ v.1.toInt ∧ v.1.toInt ≤ 12) ∧ ((0 : Int) ≤ v.2.toInt ∧ v.2.toInt ≤ 582622237229761) ∧ (v.2.toInt = ((a1.toInt.toNat ^ v.1.toInt.toNat : Nat) : Int)) ∧ (v.1.toInt ≤ a2.toInt) ∧ lv_has ls 6 [(5, .int v.1), (3, .long v.2), (0, .long a1), (2, .int a2)]) (fun v ls hI ih_5_31 => ?_) ((0 : Int32), (1 : Int64)) ⟨(show (0 : Int) ≤ (0 : Int32).toInt ∧ (0 : Int32).toInt ≤ 12 from (rg_w (by decide : (0 : Int) ≤ (0 : Int32).toInt ∧ (0 : Int32).toInt ≤ 0) (by decide) (by decide))), (show (0 : Int) ≤ (1 : Int64).toInt ∧ (1 : Int64).toInt ≤ 582622237229761 from (rg_w (by decide : (1 : Int) ≤ (1 : Int64).toInt ∧ (1 : Int64).toInt ≤ 1) (by decide) (by decide))), (show (1 : Int64).toInt = ((a1.toInt.toNat ^ (0 : Int32).toInt.toNat : Nat) : Int) from (by have zl : (0 : Int32).toInt = 0 := (by decide); rfl)), (show (0 : Int32).toInt ≤ a2.toInt from (by have zl : (0 : Int32).toInt = 0 := (by decide); omega)), lv_sub hl [0, 1, 2, 3] rfl⟩
  obtain ⟨y_21, y_22⟩ := v
  obtain ⟨b_y_21, b_y_22, hpl, hpi, hl⟩ := hI
  have b_y_21 : (0 : Int) ≤ y_21.toInt ∧ y_21.toInt ≤ 12 := b_y_21
  have b_y_22 : (0 : Int) ≤ y_22.toInt ∧ y_22.toInt ≤ 582622237229761 := b_y_22
  have hpl : y_22.toInt = ((a1.toInt.toNat ^ y_21.toInt.toNat : Nat) : Int) := hpl
  have hpi : y_21.toInt ≤ a2.toInt := hpi
  have hl : lv_has ls 6 [(5, .int y_21), (3, .long y_22), (0, .long a1), (2, .int a2)] := hl
  refine lv_iload hx hb dX10_powerOf_5 (lv_at hl 0 rfl) ?_
  refine lv_iload_n hx hb dX10_powerOf_7 rfl (lv_at hl 3 rfl) ?_
  refine lv_icmp_ge (tgt := 21) hx hb dX10_powerOf_8 (by decide) (fun c_32 => ?_) (fun c_32 => ?_)
  ·
    have n_c_32 : (a2.toInt : Int) ≤ y_21.toInt := c_ge rfl rfl c_32
    refine lv_lload_n hx hb dX10_powerOf_21 rfl (lv_at hl 1 rfl) ?_
    exact W.lret (v := y_22) hx hb hr (fun t ht hW => ⟨y_22, rfl, ⟨b_y_22, (by rw [hpl, show y_21.toInt.toNat = a2.toInt.toNat from by omega])⟩, ht⟩) t_nil dX10_powerOf_22
  ·
    have n_c_32 : (y_21.toInt : Int) < a2.toInt := c_nge rfl rfl c_32
    have b_y_21 : (0 : Int) ≤ y_21.toInt ∧ y_21.toInt ≤ 11 := r_lt1 b_y_21 b_a2 n_c_32 (by decide)
    have b_a2 : (1 : Int) ≤ a2.toInt ∧ a2.toInt ≤ 12 := r_lt2 b_y_21 b_a2 n_c_32 (by decide)
    refine lv_lload_n hx hb dX10_powerOf_11 rfl (lv_at hl 1 rfl) ?_
    refine lv_lload_n hx hb dX10_powerOf_12 rfl (lv_at hl 2 rfl) ?_
    refine lv_lmul hx hb dX10_powerOf_13 ?_
    refine lv_topl (fun z_33 e_z_33 => ?_)
    obtain ⟨q_z_33, b_z_33⟩ := tl_mul (lo := 0) (hi := 9904578032905937) e_z_33 rfl rfl b_y_22 b_a1 (by decide)
    refine lv_lstore_n (lv' := [(3, .long z_33), (5, .int y_21), (0, .long a1), (2, .int a2)]) hx hb dX10_powerOf_14 rfl hl (by decide) rfl (fun ls hl => ?_)
    obtain ⟨z_34, e_z_34⟩ : ∃ y : Int32, y = y_21 + 1 := ⟨_, rfl⟩
    refine lv_iinc (v := z_34) (lv' := [(5, .int z_34), (3, .long z_33), (0, .long a1), (2, .int a2)]) hx hb dX10_powerOf_15 hl (k := 1) rfl (by rw [e_z_34]; rfl) (by decide) rfl (fun ls hl => ?_)
    obtain ⟨q_z_34, b_z_34⟩ := ti_add (lo := 1) (hi := 12) e_z_34 rfl (by decide : (1 : Int32).toInt = 1) b_y_21 (by decide : (1 : Int) ≤ (1 : Int32).toInt ∧ (1 : Int32).toInt ≤ 1) (by decide)
    have hz9 := pl_step hpl q_z_33 (by omega) (by omega) q_z_34 (by omega)
    have b_z_33 : (0 : Int) ≤ z_33.toInt ∧ z_33.toInt ≤ 582622237229761 := hz9.2
    refine lv_goto (tgt := 5) hx hb dX10_powerOf_18 (by decide) ?_
    exact ih_5_31 (z_34, z_33) _ ⟨(show (0 : Int) ≤ z_34.toInt ∧ z_34.toInt ≤ 12 from (rg_w b_z_34 (by decide) (by decide))), (show (0 : Int) ≤ z_33.toInt ∧ z_33.toInt ≤ 582622237229761 from b_z_33), (show z_33.toInt = ((a1.toInt.toNat ^ z_34.toInt.toNat : Nat) : Int) from (hz9.1)), (show z_34.toInt ≤ a2.toInt from (by omega)), lv_sub hl [0, 1, 2, 3] rfl⟩ (show (12 - z_34.toInt).toNat < (12 - y_21.toInt).toNat by omega)
theorem dX10_readRoll_0 : decode cX10_readRoll 0 = .ok (.aload_n 0, 1) := by decide +kernel
theorem dX10_readRoll_1 : decode cX10_readRoll 1 = .ok (.ldc 248, 2) := by decide +kernel
theorem dX10_readRoll_3 : decode cX10_readRoll 3 = .ok (.invokevirtual 165, 3) := by decide +kernel
theorem dX10_readRoll_6 : decode cX10_readRoll 6 = .ok (.aload_n 0, 1) := by decide +kernel
theorem dX10_readRoll_7 : decode cX10_readRoll 7 = .ok (.getfield 34, 3) := by decide +kernel
theorem dX10_readRoll_10 : decode cX10_readRoll 10 = .ok (.iconst 0, 1) := by decide +kernel
theorem dX10_readRoll_11 : decode cX10_readRoll 11 = .ok (.aload_n 0, 1) := by decide +kernel
theorem dX10_readRoll_12 : decode cX10_readRoll 12 = .ok (.ldc 250, 2) := by decide +kernel
theorem dX10_readRoll_14 : decode cX10_readRoll 14 = .ok (.iconst 1, 1) := by decide +kernel
theorem dX10_readRoll_15 : decode cX10_readRoll 15 = .ok (.bipush 12, 2) := by decide +kernel
theorem dX10_readRoll_17 : decode cX10_readRoll 17 = .ok (.invokevirtual 251, 3) := by decide +kernel
theorem dX10_readRoll_20 : decode cX10_readRoll 20 = .ok (.iastore, 1) := by decide +kernel
theorem dX10_readRoll_21 : decode cX10_readRoll 21 = .ok (.aload_n 0, 1) := by decide +kernel
theorem dX10_readRoll_22 : decode cX10_readRoll 22 = .ok (.ldc 255, 2) := by decide +kernel
theorem dX10_readRoll_24 : decode cX10_readRoll 24 = .ok (.invokevirtual 165, 3) := by decide +kernel
theorem dX10_readRoll_27 : decode cX10_readRoll 27 = .ok (.iconst 1, 1) := by decide +kernel
theorem dX10_readRoll_28 : decode cX10_readRoll 28 = .ok (.istore_n 1, 1) := by decide +kernel
theorem dX10_readRoll_29 : decode cX10_readRoll 29 = .ok (.iload_n 1, 1) := by decide +kernel
theorem dX10_readRoll_30 : decode cX10_readRoll 30 = .ok (.bipush 16, 2) := by decide +kernel
theorem dX10_readRoll_32 : decode cX10_readRoll 32 = .ok (.if_icmp .ge 29, 3) := by decide +kernel
theorem dX10_readRoll_35 : decode cX10_readRoll 35 = .ok (.iload_n 1, 1) := by decide +kernel
theorem dX10_readRoll_36 : decode cX10_readRoll 36 = .ok (.iconst 1, 1) := by decide +kernel
theorem dX10_readRoll_37 : decode cX10_readRoll 37 = .ok (.iadd, 1) := by decide +kernel
theorem dX10_readRoll_38 : decode cX10_readRoll 38 = .ok (.i2l, 1) := by decide +kernel
theorem dX10_readRoll_39 : decode cX10_readRoll 39 = .ok (.aload_n 0, 1) := by decide +kernel
theorem dX10_readRoll_40 : decode cX10_readRoll 40 = .ok (.getfield 34, 3) := by decide +kernel
theorem dX10_readRoll_43 : decode cX10_readRoll 43 = .ok (.iconst 0, 1) := by decide +kernel
theorem dX10_readRoll_44 : decode cX10_readRoll 44 = .ok (.iaload, 1) := by decide +kernel
theorem dX10_readRoll_45 : decode cX10_readRoll 45 = .ok (.invokestatic 257, 3) := by decide +kernel
theorem dX10_readRoll_48 : decode cX10_readRoll 48 = .ok (.ldc2_w 261, 3) := by decide +kernel
theorem dX10_readRoll_51 : decode cX10_readRoll 51 = .ok (.lcmp, 1) := by decide +kernel
theorem dX10_readRoll_52 : decode cX10_readRoll 52 = .ok (.ifCond .gt 9, 3) := by decide +kernel
theorem dX10_readRoll_55 : decode cX10_readRoll 55 = .ok (.iinc 1 1, 3) := by decide +kernel
theorem dX10_readRoll_58 : decode cX10_readRoll 58 = .ok (.goto (-29), 3) := by decide +kernel
theorem dX10_readRoll_61 : decode cX10_readRoll 61 = .ok (.aload_n 0, 1) := by decide +kernel
theorem dX10_readRoll_62 : decode cX10_readRoll 62 = .ok (.getfield 34, 3) := by decide +kernel
theorem dX10_readRoll_65 : decode cX10_readRoll 65 = .ok (.iconst 1, 1) := by decide +kernel
theorem dX10_readRoll_66 : decode cX10_readRoll 66 = .ok (.aload_n 0, 1) := by decide +kernel
theorem dX10_readRoll_67 : decode cX10_readRoll 67 = .ok (.iconst 2, 1) := by decide +kernel
theorem dX10_readRoll_68 : decode cX10_readRoll 68 = .ok (.iload_n 1, 1) := by decide +kernel
theorem dX10_readRoll_69 : decode cX10_readRoll 69 = .ok (.invokevirtual 169, 3) := by decide +kernel
theorem dX10_readRoll_72 : decode cX10_readRoll 72 = .ok (.iastore, 1) := by decide +kernel
theorem dX10_readRoll_73 : decode cX10_readRoll 73 = .ok (.aload_n 0, 1) := by decide +kernel
theorem dX10_readRoll_74 : decode cX10_readRoll 74 = .ok (.invokevirtual 137, 3) := by decide +kernel
theorem dX10_readRoll_77 : decode cX10_readRoll 77 = .ok (.ifCond .eq 26, 3) := by decide +kernel
theorem dX10_readRoll_80 : decode cX10_readRoll 80 = .ok (.aload_n 0, 1) := by decide +kernel
theorem dX10_readRoll_81 : decode cX10_readRoll 81 = .ok (.getfield 34, 3) := by decide +kernel
theorem dX10_readRoll_84 : decode cX10_readRoll 84 = .ok (.iconst 2, 1) := by decide +kernel
theorem dX10_readRoll_85 : decode cX10_readRoll 85 = .ok (.aload_n 0, 1) := by decide +kernel
theorem dX10_readRoll_86 : decode cX10_readRoll 86 = .ok (.getfield 34, 3) := by decide +kernel
theorem dX10_readRoll_89 : decode cX10_readRoll 89 = .ok (.iconst 1, 1) := by decide +kernel
theorem dX10_readRoll_90 : decode cX10_readRoll 90 = .ok (.iaload, 1) := by decide +kernel
theorem dX10_readRoll_91 : decode cX10_readRoll 91 = .ok (.i2l, 1) := by decide +kernel
theorem dX10_readRoll_92 : decode cX10_readRoll 92 = .ok (.aload_n 0, 1) := by decide +kernel
theorem dX10_readRoll_93 : decode cX10_readRoll 93 = .ok (.getfield 34, 3) := by decide +kernel
theorem dX10_readRoll_96 : decode cX10_readRoll 96 = .ok (.iconst 0, 1) := by decide +kernel
theorem dX10_readRoll_97 : decode cX10_readRoll 97 = .ok (.iaload, 1) := by decide +kernel
theorem dX10_readRoll_98 : decode cX10_readRoll 98 = .ok (.invokestatic 257, 3) := by decide +kernel
theorem dX10_readRoll_101 : decode cX10_readRoll 101 = .ok (.l2i, 1) := by decide +kernel
theorem dX10_readRoll_102 : decode cX10_readRoll 102 = .ok (.iastore, 1) := by decide +kernel
theorem dX10_readRoll_103 : decode cX10_readRoll 103 = .ok (.return_, 1) := by decide +kernel
theorem hd_yX10_readRoll : yX10_readRoll.cls = RX10 ∧ yX10_readRoll.cls ≠ "java/lang/invoke/MethodHandle" ∧ yX10_readRoll.cls ≠ "java/lang/invoke/VarHandle" ∧ (parseMethodDescriptor yX10_readRoll.desc).map (fun d => d.parameters.length) = some 0 := by decide +kernel
def uX10_readRoll : List Cond := List.cons (.code yX10_readRoll cX10_readRoll 2 none) (HAppend.hAppend ([.methodLink RX10 165 yX10_needs, .instanceMethod yX10_needs, .selects RX10 yX10_needs yX10_needs, .initialized RX10, .fieldLink RX10 34 "LuckyTicketModel" "fresh" "[I", .methodLink RX10 251 yX10_told, .instanceMethod yX10_told, .selects RX10 yX10_told yX10_told, .methodLink RX10 257 yX10_powerOf, .static yX10_powerOf, .constantLong RX10 261 (20000), .methodLink RX10 169 yX10_number, .instanceMethod yX10_number, .selects RX10 yX10_number yX10_number, .methodLink RX10 137 yX10_good, .instanceMethod yX10_good, .selects RX10 yX10_good yX10_good] : List Cond) (HAppend.hAppend uX10_needs (HAppend.hAppend uX10_told (HAppend.hAppend uX10_powerOfF (HAppend.hAppend uX10_number (HAppend.hAppend uX10_good wsX100))))))
theorem iX10_readRoll_X10 : ∀ w ∈ wsX100, w ∈ uX10_readRoll := fun _ h => (List.mem_cons_of_mem _ (List.mem_append_right _ (List.mem_append_right _ (List.mem_append_right _ (List.mem_append_right _ (List.mem_append_right _ (List.mem_append_right _ h)))))))
theorem guX10_readRoll : GU uX10_readRoll := gu_cons (gu_app (by decide +kernel) (gu_ap guX10_needs (gu_ap guX10_told (gu_ap guX10_powerOfF (gu_ap guX10_number (gu_ap guX10_good gws_X10))))))
theorem gX10_readRoll__X10_needs_V165 : GoodIn uX10_readRoll (wsV RX10 165 RX10 yX10_needs uX10_needs) := gin_V (List.mem_of_getElem? (i := 1) rfl) (List.mem_of_getElem? (i := 2) rfl) (List.mem_of_getElem? (i := 3) rfl) (List.mem_of_getElem? (i := 4) rfl) (fun _ h => (List.mem_cons_of_mem _ (List.mem_append_right _ (List.mem_append_left _ h)))) guX10_needs
theorem gX10_readRoll__X10_told_V251 : GoodIn uX10_readRoll (wsV RX10 251 RX10 yX10_told uX10_told) := gin_V (List.mem_of_getElem? (i := 6) rfl) (List.mem_of_getElem? (i := 7) rfl) (List.mem_of_getElem? (i := 8) rfl) (List.mem_of_getElem? (i := 4) rfl) (fun _ h => (List.mem_cons_of_mem _ (List.mem_append_right _ (List.mem_append_right _ (List.mem_append_left _ h))))) guX10_told
theorem gX10_readRoll__X10_powerOfF_S257 : GoodIn uX10_readRoll (va_wsS RX10 257 yX10_powerOf uX10_powerOfF) := gin_S (List.mem_of_getElem? (i := 9) rfl) (List.mem_of_getElem? (i := 10) rfl) (List.mem_of_getElem? (i := 4) rfl) (fun _ h => (List.mem_cons_of_mem _ (List.mem_append_right _ (List.mem_append_right _ (List.mem_append_right _ (List.mem_append_left _ h)))))) guX10_powerOfF
theorem gX10_readRoll__X10_number_V169 : GoodIn uX10_readRoll (wsV RX10 169 RX10 yX10_number uX10_number) := gin_V (List.mem_of_getElem? (i := 12) rfl) (List.mem_of_getElem? (i := 13) rfl) (List.mem_of_getElem? (i := 14) rfl) (List.mem_of_getElem? (i := 4) rfl) (fun _ h => (List.mem_cons_of_mem _ (List.mem_append_right _ (List.mem_append_right _ (List.mem_append_right _ (List.mem_append_right _ (List.mem_append_left _ h))))))) guX10_number
theorem gX10_readRoll__X10_good_V137 : GoodIn uX10_readRoll (wsV RX10 137 RX10 yX10_good uX10_good) := gin_V (List.mem_of_getElem? (i := 15) rfl) (List.mem_of_getElem? (i := 16) rfl) (List.mem_of_getElem? (i := 17) rfl) (List.mem_of_getElem? (i := 4) rfl) (fun _ h => (List.mem_cons_of_mem _ (List.mem_append_right _ (List.mem_append_right _ (List.mem_append_right _ (List.mem_append_right _ (List.mem_append_right _ (List.mem_append_left _ h)))))))) guX10_good
set_option maxHeartbeats 4000000 in
set_option maxRecDepth 100000 in
theorem kX10_readRoll (l : Launch) (dC : Nat → ClassId) (dI : Nat → Nat → Nat) (o0 : Nat) (x_th : Int32) (mwo : Nat) (mim : Nat) (mhi : Nat) (mlu : Nat) (mtp : Nat) (x_td : Int32) (mfv : Nat) (x_sz : Int32) (x_at : Int32) (x_fr : Int32) (x_to : Int32) (x_va : Int32) (x_fk : Int32) (x_fp : Int32) (mfr : Nat) (mwt : Nat) (x_wt : Int32) (x_op : Int32) (x_jo : Int32) (mfg : Nat) (mpl : Nat) (x_dr : Int64) (mtm : Nat) (mfa : Nat) (mqu : Nat) (mmo : Nat) (mwy : Nat) (mwn : Nat) (mma : Nat) (mwi : Nat) (mnu : Nat) (mmv : Nat) (c_tp : ClassId) (c_fr : ClassId) (w_tp : Nat → Int32) (w_fr : Nat → Int32) (n0 : Nat) (sz : Nat) (b_x_sz : (0 : Int) ≤ x_sz.toInt ∧ x_sz.toInt ≤ 1200) (b_x_at : (0 : Int) ≤ x_at.toInt ∧ x_at.toInt ≤ 1200) (b_x_fr : (0 : Int) ≤ x_fr.toInt ∧ x_fr.toInt ≤ 1200) (b_x_to : (0 : Int) ≤ x_to.toInt ∧ x_to.toInt ≤ 6) (b_x_fk : (0 : Int) ≤ x_fk.toInt ∧ x_fk.toInt ≤ 3) (hpf : x_fr.toInt ≤ x_at.toInt ∧ x_at.toInt ≤ x_sz.toInt) (htk0 : x_to.toInt ≠ 0 → x_fr.toInt < x_at.toInt) : Met l yX10_readRoll uX10_readRoll ({ frames := 8, cells := 0, slots := 0, locals := 174 }) (va_Pc [.ref o0] (hx_ (dC, dI) vwCl [(o0, .inr (8, [.int x_th, .ref mwo, .ref mim, .ref mhi, .ref mlu, .ref mtp, .int x_td, .ref mfv, .int x_sz, .int x_at, .int x_fr, .int x_to, .int x_va, .int x_fk, .int x_fp, .ref mfr, .ref mwt, .int x_wt, .int x_op, .int x_jo, .ref mfg, .ref mpl, .long x_dr, .ref mtm, .ref mfa, .ref mqu, .ref mmo, .ref mwy, .ref mwn, .ref mma, .ref mwi, .ref mnu, .ref mmv])), (mtp, .inl (c_tp, 1200, .inl w_tp)), (mfr, .inl (c_fr, 1875, .inl w_fr))] [(c_tp, .byte), (c_fr, .int)] sz n0 [])) (va_Qv (fun (_ : Unit) => True) (fun (_ : Unit) t => ∃ (o0_ : Int32) (o1_ : Int32) (o2_ : Int32) (o3_ : Int32) (o4_ : Int32) (o5_ : Int32) (o6_ : Nat → Int32), ((0 : Int) ≤ o0_.toInt ∧ o0_.toInt ≤ 1200) ∧ ((0 : Int) ≤ o1_.toInt ∧ o1_.toInt ≤ 1200) ∧ ((0 : Int) ≤ o2_.toInt ∧ o2_.toInt ≤ 6) ∧ ((0 : Int) ≤ o4_.toInt ∧ o4_.toInt ≤ 3) ∧ (o1_.toInt ≤ o0_.toInt ∧ o0_.toInt ≤ x_sz.toInt) ∧ (o2_.toInt ≠ 0 → o1_.toInt < o0_.toInt) ∧ (x_fr.toInt ≤ o1_.toInt) ∧ (o4_.toInt = 0 → x_fk.toInt = 0) ∧ (o4_.toInt = 0 → HDR o6_) ∧ (∀ j : Nat, 3 ≤ j → o6_ j = w_fr j) ∧ (o4_.toInt = 0 → x_fr.toInt < o1_.toInt) ∧ va_P (dC, dI) vwCl [(o0, .inr (8, [.int x_th, .ref mwo, .ref mim, .ref mhi, .ref mlu, .ref mtp, .int x_td, .ref mfv, .int x_sz, .int o0_, .int o1_, .int o2_, .int o3_, .int o4_, .int o5_, .ref mfr, .ref mwt, .int x_wt, .int x_op, .int x_jo, .ref mfg, .ref mpl, .long x_dr, .ref mtm, .ref mfa, .ref mqu, .ref mmo, .ref mwy, .ref mwn, .ref mma, .ref mwi, .ref mnu, .ref mmv])), (mtp, .inl (c_tp, 1200, .inl w_tp)), (mfr, .inl (c_fr, 1875, .inl o6_))] t.heap ∧ va_K (dC, dI) vwCl [(c_tp, .byte), (c_fr, .int)] t ∧ va_D (va_A [(o0, .inr (8, [.int x_th, .ref mwo, .ref mim, .ref mhi, .ref mlu, .ref mtp, .int x_td, .ref mfv, .int x_sz, .int x_at, .int x_fr, .int x_to, .int x_va, .int x_fk, .int x_fp, .ref mfr, .ref mwt, .int x_wt, .int x_op, .int x_jo, .ref mfg, .ref mpl, .long x_dr, .ref mtm, .ref mfa, .ref mqu, .ref mmo, .ref mwy, .ref mwn, .ref mma, .ref mwi, .ref mnu, .ref mmv])), (mtp, .inl (c_tp, 1200, .inl w_tp)), (mfr, .inl (c_fr, 1875, .inl w_fr))] sz) [(o0, .inr (8, [.int x_th, .ref mwo, .ref mim, .ref mhi, .ref mlu, .ref mtp, .int x_td, .ref mfv, .int x_sz, .int o0_, .int o1_, .int o2_, .int o3_, .int o4_, .int o5_, .ref mfr, .ref mwt, .int x_wt, .int x_op, .int x_jo, .ref mfg, .ref mpl, .long x_dr, .ref mtm, .ref mfa, .ref mqu, .ref mmo, .ref mwy, .ref mwn, .ref mma, .ref mwi, .ref mnu, .ref mmv])), (mtp, .inl (c_tp, 1200, .inl w_tp)), (mfr, .inl (c_fr, 1875, .inl o6_))]) (va_A [(o0, .inr (8, [.int x_th, .ref mwo, .ref mim, .ref mhi, .ref mlu, .ref mtp, .int x_td, .ref mfv, .int x_sz, .int x_at, .int x_fr, .int x_to, .int x_va, .int x_fk, .int x_fp, .ref mfr, .ref mwt, .int x_wt, .int x_op, .int x_jo, .ref mfg, .ref mpl, .long x_dr, .ref mtm, .ref mfa, .ref mqu, .ref mmo, .ref mwy, .ref mwn, .ref mma, .ref mwi, .ref mnu, .ref mmv])), (mtp, .inl (c_tp, 1200, .inl w_tp)), (mfr, .inl (c_fr, 1875, .inl w_fr))] sz)) 0 0 (va_A [(o0, .inr (8, [.int x_th, .ref mwo, .ref mim, .ref mhi, .ref mlu, .ref mtp, .int x_td, .ref mfv, .int x_sz, .int x_at, .int x_fr, .int x_to, .int x_va, .int x_fk, .int x_fp, .ref mfr, .ref mwt, .int x_wt, .int x_op, .int x_jo, .ref mfg, .ref mpl, .long x_dr, .ref mtm, .ref mfa, .ref mqu, .ref mmo, .ref mwy, .ref mwn, .ref mma, .ref mwi, .ref mnu, .ref mmv])), (mtp, .inl (c_tp, 1200, .inl w_tp)), (mfr, .inl (c_fr, 1875, .inl w_fr))] sz) := by
  refine Met.ofW (cc := cX10_readRoll) (maxL := 2) (ret := none) pn_X10 rfl ?_
  intro p e s m args below meth c s₁ B hml hv
  obtain ⟨rfl, ⟨hsz, hP, hK, hD0, hN⟩, hn0, hDn, hX, hTx⟩ := hv
  have hx := B.exec
  have hb := B.bytes
  have hr := B.returns
  have hts := atoms_spec (ws := uX10_readRoll) B.pre
  have hown : s.vm.findClass RX10 = some m.cls := hown_of B.named rfl
  have hlocks := B.notSynchronized
  subst hsz
  have hD := hD0.self (sz := s.heap.size)
  have hAn : ∀ q, va_A [(o0, .inr (8, [.int x_th, .ref mwo, .ref mim, .ref mhi, .ref mlu, .ref mtp, .int x_td, .ref mfv, .int x_sz, .int x_at, .int x_fr, .int x_to, .int x_va, .int x_fk, .int x_fp, .ref mfr, .ref mwt, .int x_wt, .int x_op, .int x_jo, .ref mfg, .ref mpl, .long x_dr, .ref mtm, .ref mfa, .ref mqu, .ref mmo, .ref mwy, .ref mwn, .ref mma, .ref mwi, .ref mnu, .ref mmv])), (mtp, .inl (c_tp, 1200, .inl w_tp)), (mfr, .inl (c_fr, 1875, .inl w_fr))] s.heap.size q → n0 ≤ q := fun q h => h.elim (fun ⟨k, e, hk⟩ => hDn.2 k (q, e) hk) (fun h => Nat.le_trans hn0 h)
  generalize hAe : va_A [(o0, .inr (8, [.int x_th, .ref mwo, .ref mim, .ref mhi, .ref mlu, .ref mtp, .int x_td, .ref mfv, .int x_sz, .int x_at, .int x_fr, .int x_to, .int x_va, .int x_fk, .int x_fp, .ref mfr, .ref mwt, .int x_wt, .int x_op, .int x_jo, .ref mfg, .ref mpl, .long x_dr, .ref mtm, .ref mfa, .ref mqu, .ref mmo, .ref mwy, .ref mwn, .ref mma, .ref mwi, .ref mnu, .ref mmv])), (mtp, .inl (c_tp, 1200, .inl w_tp)), (mfr, .inl (c_fr, 1875, .inl w_fr))] s.heap.size = A at hD hAn ⊢
  have hA : ∀ q : Nat, s.heap.size ≤ q → A q := fun q h => by rw [← hAe]; exact Or.inr h
  have hS : va_S A s.heap s.heap [] := va_S.rf
  have hP : va_P (dC, dI) vwCl [(o0, .inr (8, [.int x_th, .ref mwo, .ref mim, .ref mhi, .ref mlu, .ref mtp, .int x_td, .ref mfv, .int x_sz, .int x_at, .int x_fr, .int x_to, .int x_va, .int x_fk, .int x_fp, .ref mfr, .ref mwt, .int x_wt, .int x_op, .int x_jo, .ref mfg, .ref mpl, .long x_dr, .ref mtm, .ref mfa, .ref mqu, .ref mmo, .ref mwy, .ref mwn, .ref mma, .ref mwi, .ref mnu, .ref mmv])), (mtp, .inl (c_tp, 1200, .inl w_tp)), (mfr, .inl (c_fr, 1875, .inl w_fr))] s.heap := hP
  obtain ⟨tq_248, tf_248, hR_248, ht_248⟩ := hX.2.2.1 (RX10, 248, "roll", 4) (List.mem_of_getElem? (i := 32) rfl)
  have hR_248 : vk_R RX10 248 "roll" tq_248 s := hR_248
  have ht_248 : txt n0 tq_248 4 tf_248 s := ht_248
  obtain ⟨tq_250, tf_250, hR_250, ht_250⟩ := hX.2.2.1 (RX10, 250, "length", 6) (List.mem_of_getElem? (i := 33) rfl)
  have hR_250 : vk_R RX10 250 "length" tq_250 s := hR_250
  have ht_250 : txt n0 tq_250 6 tf_250 s := ht_250
  obtain ⟨tq_255, tf_255, hR_255, ht_255⟩ := hX.2.2.1 (RX10, 255, "base", 4) (List.mem_of_getElem? (i := 34) rfl)
  have hR_255 : vk_R RX10 255 "base" tq_255 s := hR_255
  have ht_255 : txt n0 tq_255 4 tf_255 s := ht_255
  have hl := lv_entry ([.ref o0]) (n := 2) (Nat.le_of_ble_eq_true rfl)
  rw [lg_entry_eq]
  generalize (lg_sl ([.ref o0]) ++ List.replicate (2 - (lg_sl ([.ref o0])).length) Slot.unset).toArray = ls at hl ⊢
  have hl : lv_has ls 2 [(0, .ref o0)] := hl
  refine lv_aload_n hx hb dX10_readRoll_0 rfl (lv_at hl 0 rfl) ?_
  refine va_ldcS hx hb hown hR_248 dX10_readRoll_1 ?_
  have hFc := va_free (wc := [(o0, .inr (8, [.int x_th, .ref mwo, .ref mim, .ref mhi, .ref mlu, .ref mtp, .int x_td, .ref mfv, .int x_sz, .int x_at, .int x_fr, .int x_to, .int x_va, .int x_fk, .int x_fp, .ref mfr, .ref mwt, .int x_wt, .int x_op, .int x_jo, .ref mfg, .ref mpl, .long x_dr, .ref mtm, .ref mfa, .ref mqu, .ref mmo, .ref mwy, .ref mwn, .ref mma, .ref mwi, .ref mnu, .ref mmv])), (mtp, .inl (c_tp, 1200, .inl w_tp))]) hD hS hA [0, 1] rfl
  refine va_callv (va_runV (As := [.ref tq_248]) (rest := []) ⟨hx, hb, hml, hown, hts⟩ (kX10_needs l dC dI o0 x_th mwo mim mhi mlu mtp x_td mfv x_sz x_at x_fr x_to x_va x_fk x_fp mfr mwt x_wt x_op x_jo mfg mpl x_dr mtm mfa mqu mmo mwy mwn mma mwi mnu mmv c_tp w_tp tq_248 4 tf_248 n0 (s.heap.size) b_x_sz b_x_at b_x_fr b_x_to b_x_fk (by omega) (by omega) (by omega)) (cwV 1 hts gX10_readRoll__X10_needs_V165 rfl rfl rfl hd_yX10_needs ⟨lel 7 8 rfl, lel 151 174 rfl⟩) ⟨hx_fb, rcv_X10 hK hP (q0 := 0) rfl, (hx_use hP hD hK hN hX hS hAn hn0 [0, 1] rfl (by decide) rfl [0] rfl (tts_1 ht_248))⟩ rfl rfl hl.1 rfl (lv_room (Nat.le_of_ble_eq_true rfl)) dX10_readRoll_3 ⟨lel 0 0 rfl, lel 0 0 rfl⟩) hS (fun q _ h => hFc q h) hFc (fun u_175 t H1 locs ht hvm hw_r_174 hB hz1 hk1 hS => ?_)
  obtain ⟨o0_176, o1_177, o2_178, o3_179, o4_180, o5_181, b_o0_176, b_o1_177, b_o2_178, b_o4_180, hf_182, hf_183, hf_184, hf_185, hf_186, hP1, hK1, hD1⟩ := hB
  rw [ht] at hP1
  have hK1 := va_K.moved hvm.symm hK1
  obtain ⟨hP, hD⟩ := va_join (wr := [(mfr, .inl (c_fr, 1875, .inl w_fr))]) (w1 := [(o0, .inr (8, [.int x_th, .ref mwo, .ref mim, .ref mhi, .ref mlu, .ref mtp, .int x_td, .ref mfv, .int x_sz, .int o0_176, .int o1_177, .int o2_178, .int o3_179, .int o4_180, .int o5_181, .ref mfr, .ref mwt, .int x_wt, .int x_op, .int x_jo, .ref mfg, .ref mpl, .long x_dr, .ref mtm, .ref mfa, .ref mqu, .ref mmo, .ref mwy, .ref mwn, .ref mma, .ref mwi, .ref mnu, .ref mmv])), (mtp, .inl (c_tp, 1200, .inl w_tp))]) hP hD [0, 1] [2] rfl rfl (by decide) (by decide) hk1 hFc hP1 hD1
  have hK := (hK.sub (tys' := [(c_fr, .int)]) [1] rfl).app hK1
  generalize H1 = H at hP hS ⊢
  have hP := hP.sub (ws' := [(o0, .inr (8, [.int x_th, .ref mwo, .ref mim, .ref mhi, .ref mlu, .ref mtp, .int x_td, .ref mfv, .int x_sz, .int o0_176, .int o1_177, .int o2_178, .int o3_179, .int o4_180, .int o5_181, .ref mfr, .ref mwt, .int x_wt, .int x_op, .int x_jo, .ref mfg, .ref mpl, .long x_dr, .ref mtm, .ref mfa, .ref mqu, .ref mmo, .ref mwy, .ref mwn, .ref mma, .ref mwi, .ref mnu, .ref mmv])), (mtp, .inl (c_tp, 1200, .inl w_tp)), (mfr, .inl (c_fr, 1875, .inl w_fr))]) [1, 2, 0] rfl
  have hD := hD.sub (ws' := [(o0, .inr (8, [.int x_th, .ref mwo, .ref mim, .ref mhi, .ref mlu, .ref mtp, .int x_td, .ref mfv, .int x_sz, .int o0_176, .int o1_177, .int o2_178, .int o3_179, .int o4_180, .int o5_181, .ref mfr, .ref mwt, .int x_wt, .int x_op, .int x_jo, .ref mfg, .ref mpl, .long x_dr, .ref mtm, .ref mfa, .ref mqu, .ref mmo, .ref mwy, .ref mwn, .ref mma, .ref mwi, .ref mnu, .ref mmv])), (mtp, .inl (c_tp, 1200, .inl w_tp)), (mfr, .inl (c_fr, 1875, .inl w_fr))]) [1, 2, 0] (by decide) rfl
  have hK := hK.sub (tys' := [(c_tp, .byte), (c_fr, .int)]) [1, 0] rfl
  have hP : va_P (dC, dI) vwCl [(o0, .inr (8, [.int x_th, .ref mwo, .ref mim, .ref mhi, .ref mlu, .ref mtp, .int x_td, .ref mfv, .int x_sz, .int o0_176, .int o1_177, .int o2_178, .int o3_179, .int o4_180, .int o5_181, .ref mfr, .ref mwt, .int x_wt, .int x_op, .int x_jo, .ref mfg, .ref mpl, .long x_dr, .ref mtm, .ref mfa, .ref mqu, .ref mmo, .ref mwy, .ref mwn, .ref mma, .ref mwi, .ref mnu, .ref mmv])), (mtp, .inl (c_tp, 1200, .inl w_tp)), (mfr, .inl (c_fr, 1875, .inl w_fr))] H := hP
  have hD : va_D A [(o0, .inr (8, [.int x_th, .ref mwo, .ref mim, .ref mhi, .ref mlu, .ref mtp, .int x_td, .ref mfv, .int x_sz, .int o0_176, .int o1_177, .int o2_178, .int o3_179, .int o4_180, .int o5_181, .ref mfr, .ref mwt, .int x_wt, .int x_op, .int x_jo, .ref mfg, .ref mpl, .long x_dr, .ref mtm, .ref mfa, .ref mqu, .ref mmo, .ref mwy, .ref mwn, .ref mma, .ref mwi, .ref mnu, .ref mmv])), (mtp, .inl (c_tp, 1200, .inl w_tp)), (mfr, .inl (c_fr, 1875, .inl w_fr))] := hD
  have hK : va_K (dC, dI) vwCl [(c_tp, .byte), (c_fr, .int)] s := hK
  refine lv_aload_n hx hb dX10_readRoll_6 rfl (lv_at hl 0 rfl) ?_
  refine va_get (D := (dC, dI)) (ci := 8) (v := .ref mfr) (C := RX10) (T := TX10) (N := 33) hx hb hts iX10_readRoll_X10 hown hK hP 0 rfl rfl 15 (by decide) (hts (.fieldLink RX10 34 "LuckyTicketModel" "fresh" "[I") (List.mem_of_getElem? (i := 5) rfl)) (fun _ h9 => h9) rfl dX10_readRoll_7 ?_
  refine lv_iconst (v := 0) hx hb dX10_readRoll_10 (by decide) ?_
  refine lv_aload_n hx hb dX10_readRoll_11 rfl (lv_at hl 0 rfl) ?_
  refine va_ldcS hx hb hown hR_250 dX10_readRoll_12 ?_
  refine lv_iconst (v := 1) hx hb dX10_readRoll_14 (by decide) ?_
  refine lv_bipush (v := 12) hx hb dX10_readRoll_15 (by decide) ?_
  have hFc := va_free (wc := [(o0, .inr (8, [.int x_th, .ref mwo, .ref mim, .ref mhi, .ref mlu, .ref mtp, .int x_td, .ref mfv, .int x_sz, .int o0_176, .int o1_177, .int o2_178, .int o3_179, .int o4_180, .int o5_181, .ref mfr, .ref mwt, .int x_wt, .int x_op, .int x_jo, .ref mfg, .ref mpl, .long x_dr, .ref mtm, .ref mfa, .ref mqu, .ref mmo, .ref mwy, .ref mwn, .ref mma, .ref mwi, .ref mnu, .ref mmv])), (mtp, .inl (c_tp, 1200, .inl w_tp))]) hD hS hA [0, 1] rfl
  refine va_calli (va_runV (As := [.ref tq_250, .int 1, .int 12]) (rest := [.int 0, .ref mfr]) ⟨hx, hb, hml, hown, hts⟩ (kX10_told l dC dI o0 x_th mwo mim mhi mlu mtp x_td mfv x_sz o0_176 o1_177 o2_178 o3_179 o4_180 o5_181 mfr mwt x_wt x_op x_jo mfg mpl x_dr mtm mfa mqu mmo mwy mwn mma mwi mnu mmv c_tp w_tp tq_250 6 tf_250 1 12 n0 (H.size) b_x_sz b_o0_176 b_o1_177 b_o2_178 b_o4_180 (by omega) (by omega) (by omega)) (cwV 3 hts gX10_readRoll__X10_told_V251 rfl rfl rfl hd_yX10_told ⟨lel 8 8 rfl, lel 174 174 rfl⟩) ⟨hx_fb, rcv_X10 hK hP (q0 := 0) rfl, (hx_use hP hD hK hN hX hS hAn hn0 [0, 1] rfl (by decide) rfl [0] rfl (tts_1 ht_250))⟩ rfl rfl hl.1 rfl (lv_room (Nat.le_of_ble_eq_true rfl)) dX10_readRoll_17 ⟨lel 0 0 rfl, lel 0 0 rfl⟩) hS (fun q _ h => hFc q h) hFc (fun r_187 u_188 t H1 locs ht hvm hw_r_187 hB hz1 hk1 hS => ?_)
  obtain ⟨hu_r_187, hw_r_187⟩ := hw_r_187
  subst hu_r_187
  obtain ⟨o0_189, o1_190, o2_191, o3_192, o4_193, o5_194, b_o0_189, b_o1_190, b_o2_191, b_o4_193, hf_195, hf_196, hf_197, hf_198, hP1, hK1, hD1⟩ := hB
  rw [ht] at hP1
  have hK1 := va_K.moved hvm.symm hK1
  obtain ⟨hP, hD⟩ := va_join (wr := [(mfr, .inl (c_fr, 1875, .inl w_fr))]) (w1 := [(o0, .inr (8, [.int x_th, .ref mwo, .ref mim, .ref mhi, .ref mlu, .ref mtp, .int x_td, .ref mfv, .int x_sz, .int o0_189, .int o1_190, .int o2_191, .int o3_192, .int o4_193, .int o5_194, .ref mfr, .ref mwt, .int x_wt, .int x_op, .int x_jo, .ref mfg, .ref mpl, .long x_dr, .ref mtm, .ref mfa, .ref mqu, .ref mmo, .ref mwy, .ref mwn, .ref mma, .ref mwi, .ref mnu, .ref mmv])), (mtp, .inl (c_tp, 1200, .inl w_tp))]) hP hD [0, 1] [2] rfl rfl (by decide) (by decide) hk1 hFc hP1 hD1
  have hK := (hK.sub (tys' := [(c_fr, .int)]) [1] rfl).app hK1
  generalize H1 = H at hP hS ⊢
  have hP := hP.sub (ws' := [(o0, .inr (8, [.int x_th, .ref mwo, .ref mim, .ref mhi, .ref mlu, .ref mtp, .int x_td, .ref mfv, .int x_sz, .int o0_189, .int o1_190, .int o2_191, .int o3_192, .int o4_193, .int o5_194, .ref mfr, .ref mwt, .int x_wt, .int x_op, .int x_jo, .ref mfg, .ref mpl, .long x_dr, .ref mtm, .ref mfa, .ref mqu, .ref mmo, .ref mwy, .ref mwn, .ref mma, .ref mwi, .ref mnu, .ref mmv])), (mtp, .inl (c_tp, 1200, .inl w_tp)), (mfr, .inl (c_fr, 1875, .inl w_fr))]) [1, 2, 0] rfl
  have hD := hD.sub (ws' := [(o0, .inr (8, [.int x_th, .ref mwo, .ref mim, .ref mhi, .ref mlu, .ref mtp, .int x_td, .ref mfv, .int x_sz, .int o0_189, .int o1_190, .int o2_191, .int o3_192, .int o4_193, .int o5_194, .ref mfr, .ref mwt, .int x_wt, .int x_op, .int x_jo, .ref mfg, .ref mpl, .long x_dr, .ref mtm, .ref mfa, .ref mqu, .ref mmo, .ref mwy, .ref mwn, .ref mma, .ref mwi, .ref mnu, .ref mmv])), (mtp, .inl (c_tp, 1200, .inl w_tp)), (mfr, .inl (c_fr, 1875, .inl w_fr))]) [1, 2, 0] (by decide) rfl
  have hK := hK.sub (tys' := [(c_tp, .byte), (c_fr, .int)]) [1, 0] rfl
  have hP : va_P (dC, dI) vwCl [(o0, .inr (8, [.int x_th, .ref mwo, .ref mim, .ref mhi, .ref mlu, .ref mtp, .int x_td, .ref mfv, .int x_sz, .int o0_189, .int o1_190, .int o2_191, .int o3_192, .int o4_193, .int o5_194, .ref mfr, .ref mwt, .int x_wt, .int x_op, .int x_jo, .ref mfg, .ref mpl, .long x_dr, .ref mtm, .ref mfa, .ref mqu, .ref mmo, .ref mwy, .ref mwn, .ref mma, .ref mwi, .ref mnu, .ref mmv])), (mtp, .inl (c_tp, 1200, .inl w_tp)), (mfr, .inl (c_fr, 1875, .inl w_fr))] H := hP
  have hD : va_D A [(o0, .inr (8, [.int x_th, .ref mwo, .ref mim, .ref mhi, .ref mlu, .ref mtp, .int x_td, .ref mfv, .int x_sz, .int o0_189, .int o1_190, .int o2_191, .int o3_192, .int o4_193, .int o5_194, .ref mfr, .ref mwt, .int x_wt, .int x_op, .int x_jo, .ref mfg, .ref mpl, .long x_dr, .ref mtm, .ref mfa, .ref mqu, .ref mmo, .ref mwy, .ref mwn, .ref mma, .ref mwi, .ref mnu, .ref mmv])), (mtp, .inl (c_tp, 1200, .inl w_tp)), (mfr, .inl (c_fr, 1875, .inl w_fr))] := hD
  have hK : va_K (dC, dI) vwCl [(c_tp, .byte), (c_fr, .int)] s := hK
  have pr_r_187 := hw_r_187
  have b_r_187 : (0 : Int) ≤ r_187.toInt ∧ r_187.toInt ≤ 12 := by
    have q0 := (by decide : (1 : Int) ≤ (1 : Int32).toInt ∧ (1 : Int32).toInt ≤ 1)
    have q1 := (by decide : (12 : Int) ≤ (12 : Int32).toInt ∧ (12 : Int32).toInt ≤ 12)
    omega
  refine va_iast hx hb hK hP hD hS 2 1 rfl rfl (vp_in_b (by decide : (0 : Int) ≤ (0 : Int32).toInt ∧ (0 : Int32).toInt ≤ 0) (by decide) (by decide)) dX10_readRoll_20 (fun H locs hP hD hS => ?_)
  have hP : va_P (dC, dI) vwCl [(o0, .inr (8, [.int x_th, .ref mwo, .ref mim, .ref mhi, .ref mlu, .ref mtp, .int x_td, .ref mfv, .int x_sz, .int o0_189, .int o1_190, .int o2_191, .int o3_192, .int o4_193, .int o5_194, .ref mfr, .ref mwt, .int x_wt, .int x_op, .int x_jo, .ref mfg, .ref mpl, .long x_dr, .ref mtm, .ref mfa, .ref mqu, .ref mmo, .ref mwy, .ref mwn, .ref mma, .ref mwi, .ref mnu, .ref mmv])), (mtp, .inl (c_tp, 1200, .inl w_tp)), (mfr, .inl (c_fr, 1875, .inl (upd w_fr (0 : Int32).toNatClampNeg r_187)))] H := hP
  have hD : va_D A [(o0, .inr (8, [.int x_th, .ref mwo, .ref mim, .ref mhi, .ref mlu, .ref mtp, .int x_td, .ref mfv, .int x_sz, .int o0_189, .int o1_190, .int o2_191, .int o3_192, .int o4_193, .int o5_194, .ref mfr, .ref mwt, .int x_wt, .int x_op, .int x_jo, .ref mfg, .ref mpl, .long x_dr, .ref mtm, .ref mfa, .ref mqu, .ref mmo, .ref mwy, .ref mwn, .ref mma, .ref mwi, .ref mnu, .ref mmv])), (mtp, .inl (c_tp, 1200, .inl w_tp)), (mfr, .inl (c_fr, 1875, .inl (upd w_fr (0 : Int32).toNatClampNeg r_187)))] := hD
  generalize ef_f_199 : (upd w_fr (0 : Int32).toNatClampNeg r_187) = f_199 at hP hD
  have hP : va_P (dC, dI) vwCl [(o0, .inr (8, [.int x_th, .ref mwo, .ref mim, .ref mhi, .ref mlu, .ref mtp, .int x_td, .ref mfv, .int x_sz, .int o0_189, .int o1_190, .int o2_191, .int o3_192, .int o4_193, .int o5_194, .ref mfr, .ref mwt, .int x_wt, .int x_op, .int x_jo, .ref mfg, .ref mpl, .long x_dr, .ref mtm, .ref mfa, .ref mqu, .ref mmo, .ref mwy, .ref mwn, .ref mma, .ref mwi, .ref mnu, .ref mmv])), (mtp, .inl (c_tp, 1200, .inl w_tp)), (mfr, .inl (c_fr, 1875, .inl f_199))] H := hP
  have hD : va_D A [(o0, .inr (8, [.int x_th, .ref mwo, .ref mim, .ref mhi, .ref mlu, .ref mtp, .int x_td, .ref mfv, .int x_sz, .int o0_189, .int o1_190, .int o2_191, .int o3_192, .int o4_193, .int o5_194, .ref mfr, .ref mwt, .int x_wt, .int x_op, .int x_jo, .ref mfg, .ref mpl, .long x_dr, .ref mtm, .ref mfa, .ref mqu, .ref mmo, .ref mwy, .ref mwn, .ref mma, .ref mwi, .ref mnu, .ref mmv])), (mtp, .inl (c_tp, 1200, .inl w_tp)), (mfr, .inl (c_fr, 1875, .inl f_199))] := hD
  refine lv_aload_n hx hb dX10_readRoll_21 rfl (lv_at hl 0 rfl) ?_
  refine va_ldcS hx hb hown hR_255 dX10_readRoll_22 ?_
  have hFc := va_free (wc := [(o0, .inr (8, [.int x_th, .ref mwo, .ref mim, .ref mhi, .ref mlu, .ref mtp, .int x_td, .ref mfv, .int x_sz, .int o0_189, .int o1_190, .int o2_191, .int o3_192, .int o4_193, .int o5_194, .ref mfr, .ref mwt, .int x_wt, .int x_op, .int x_jo, .ref mfg, .ref mpl, .long x_dr, .ref mtm, .ref mfa, .ref mqu, .ref mmo, .ref mwy, .ref mwn, .ref mma, .ref mwi, .ref mnu, .ref mmv])), (mtp, .inl (c_tp, 1200, .inl w_tp))]) hD hS hA [0, 1] rfl
  refine va_callv (va_runV (As := [.ref tq_255]) (rest := []) ⟨hx, hb, hml, hown, hts⟩ (kX10_needs l dC dI o0 x_th mwo mim mhi mlu mtp x_td mfv x_sz o0_189 o1_190 o2_191 o3_192 o4_193 o5_194 mfr mwt x_wt x_op x_jo mfg mpl x_dr mtm mfa mqu mmo mwy mwn mma mwi mnu mmv c_tp w_tp tq_255 4 tf_255 n0 (H.size) b_x_sz b_o0_189 b_o1_190 b_o2_191 b_o4_193 (by omega) (by omega) (by omega)) (cwV 1 hts gX10_readRoll__X10_needs_V165 rfl rfl rfl hd_yX10_needs ⟨lel 7 8 rfl, lel 151 174 rfl⟩) ⟨hx_fb, rcv_X10 hK hP (q0 := 0) rfl, (hx_use hP hD hK hN hX hS hAn hn0 [0, 1] rfl (by decide) rfl [0] rfl (tts_1 ht_255))⟩ rfl rfl hl.1 rfl (lv_room (Nat.le_of_ble_eq_true rfl)) dX10_readRoll_24 ⟨lel 0 0 rfl, lel 0 0 rfl⟩) hS (fun q _ h => hFc q h) hFc (fun u_201 t H1 locs ht hvm hw_r_200 hB hz1 hk1 hS => ?_)
  obtain ⟨o0_202, o1_203, o2_204, o3_205, o4_206, o5_207, b_o0_202, b_o1_203, b_o2_204, b_o4_206, hf_208, hf_209, hf_210, hf_211, hf_212, hP1, hK1, hD1⟩ := hB
  rw [ht] at hP1
  have hK1 := va_K.moved hvm.symm hK1
  obtain ⟨hP, hD⟩ := va_join (wr := [(mfr, .inl (c_fr, 1875, .inl f_199))]) (w1 := [(o0, .inr (8, [.int x_th, .ref mwo, .ref mim, .ref mhi, .ref mlu, .ref mtp, .int x_td, .ref mfv, .int x_sz, .int o0_202, .int o1_203, .int o2_204, .int o3_205, .int o4_206, .int o5_207, .ref mfr, .ref mwt, .int x_wt, .int x_op, .int x_jo, .ref mfg, .ref mpl, .long x_dr, .ref mtm, .ref mfa, .ref mqu, .ref mmo, .ref mwy, .ref mwn, .ref mma, .ref mwi, .ref mnu, .ref mmv])), (mtp, .inl (c_tp, 1200, .inl w_tp))]) hP hD [0, 1] [2] rfl rfl (by decide) (by decide) hk1 hFc hP1 hD1
  have hK := (hK.sub (tys' := [(c_fr, .int)]) [1] rfl).app hK1
  generalize H1 = H at hP hS ⊢
  have hP := hP.sub (ws' := [(o0, .inr (8, [.int x_th, .ref mwo, .ref mim, .ref mhi, .ref mlu, .ref mtp, .int x_td, .ref mfv, .int x_sz, .int o0_202, .int o1_203, .int o2_204, .int o3_205, .int o4_206, .int o5_207, .ref mfr, .ref mwt, .int x_wt, .int x_op, .int x_jo, .ref mfg, .ref mpl, .long x_dr, .ref mtm, .ref mfa, .ref mqu, .ref mmo, .ref mwy, .ref mwn, .ref mma, .ref mwi, .ref mnu, .ref mmv])), (mtp, .inl (c_tp, 1200, .inl w_tp)), (mfr, .inl (c_fr, 1875, .inl f_199))]) [1, 2, 0] rfl
  have hD := hD.sub (ws' := [(o0, .inr (8, [.int x_th, .ref mwo, .ref mim, .ref mhi, .ref mlu, .ref mtp, .int x_td, .ref mfv, .int x_sz, .int o0_202, .int o1_203, .int o2_204, .int o3_205, .int o4_206, .int o5_207, .ref mfr, .ref mwt, .int x_wt, .int x_op, .int x_jo, .ref mfg, .ref mpl, .long x_dr, .ref mtm, .ref mfa, .ref mqu, .ref mmo, .ref mwy, .ref mwn, .ref mma, .ref mwi, .ref mnu, .ref mmv])), (mtp, .inl (c_tp, 1200, .inl w_tp)), (mfr, .inl (c_fr, 1875, .inl f_199))]) [1, 2, 0] (by decide) rfl
  have hK := hK.sub (tys' := [(c_tp, .byte), (c_fr, .int)]) [1, 0] rfl
  have hP : va_P (dC, dI) vwCl [(o0, .inr (8, [.int x_th, .ref mwo, .ref mim, .ref mhi, .ref mlu, .ref mtp, .int x_td, .ref mfv, .int x_sz, .int o0_202, .int o1_203, .int o2_204, .int o3_205, .int o4_206, .int o5_207, .ref mfr, .ref mwt, .int x_wt, .int x_op, .int x_jo, .ref mfg, .ref mpl, .long x_dr, .ref mtm, .ref mfa, .ref mqu, .ref mmo, .ref mwy, .ref mwn, .ref mma, .ref mwi, .ref mnu, .ref mmv])), (mtp, .inl (c_tp, 1200, .inl w_tp)), (mfr, .inl (c_fr, 1875, .inl f_199))] H := hP
  have hD : va_D A [(o0, .inr (8, [.int x_th, .ref mwo, .ref mim, .ref mhi, .ref mlu, .ref mtp, .int x_td, .ref mfv, .int x_sz, .int o0_202, .int o1_203, .int o2_204, .int o3_205, .int o4_206, .int o5_207, .ref mfr, .ref mwt, .int x_wt, .int x_op, .int x_jo, .ref mfg, .ref mpl, .long x_dr, .ref mtm, .ref mfa, .ref mqu, .ref mmo, .ref mwy, .ref mwn, .ref mma, .ref mwi, .ref mnu, .ref mmv])), (mtp, .inl (c_tp, 1200, .inl w_tp)), (mfr, .inl (c_fr, 1875, .inl f_199))] := hD
  have hK : va_K (dC, dI) vwCl [(c_tp, .byte), (c_fr, .int)] s := hK
  refine lv_iconst (v := 1) hx hb dX10_readRoll_27 (by decide) ?_
  refine lv_istore_n (lv' := [(1, .int 1), (0, .ref o0)]) hx hb dX10_readRoll_28 rfl hl (by decide) rfl (fun ls hl => ?_)
  refine loopW (σ := Int32) (fun v => (16 - v.toInt).toNat) (fun v H locs ls => ((1 : Int) ≤ v.toInt ∧ v.toInt ≤ 16) ∧ (v.toInt.toNat ^ r_187.toInt.toNat ≤ 20000) ∧ va_P (dC, dI) vwCl [(o0, .inr (8, [.int x_th, .ref mwo, .ref mim, .ref mhi, .ref mlu, .ref mtp, .int x_td, .ref mfv, .int x_sz, .int o0_202, .int o1_203, .int o2_204, .int o3_205, .int o4_206, .int o5_207, .ref mfr, .ref mwt, .int x_wt, .int x_op, .int x_jo, .ref mfg, .ref mpl, .long x_dr, .ref mtm, .ref mfa, .ref mqu, .ref mmo, .ref mwy, .ref mwn, .ref mma, .ref mwi, .ref mnu, .ref mmv])), (mtp, .inl (c_tp, 1200, .inl w_tp)), (mfr, .inl (c_fr, 1875, .inl f_199))] H ∧ va_D A [(o0, .inr (8, [.int x_th, .ref mwo, .ref mim, .ref mhi, .ref mlu, .ref mtp, .int x_td, .ref mfv, .int x_sz, .int o0_202, .int o1_203, .int o2_204, .int o3_205, .int o4_206, .int o5_207, .ref mfr, .ref mwt, .int x_wt, .int x_op, .int x_jo, .ref mfg, .ref mpl, .long x_dr, .ref mtm, .ref mfa, .ref mqu, .ref mmo, .ref mwy, .ref mwn, .ref mma, .ref mwi, .ref mnu, .ref mmv])), (mtp, .inl (c_tp, 1200, .inl w_tp)), (mfr, .inl (c_fr, 1875, .inl f_199))] ∧ va_S A s.heap H locs ∧ lv_has ls 2 [(1, .int v), (0, .ref o0)]) (fun v H locs ls hI ih_29_310 => ?_) (1 : Int32) ⟨(show (1 : Int) ≤ (1 : Int32).toInt ∧ (1 : Int32).toInt ≤ 16 from (rg_w (by decide : (1 : Int) ≤ (1 : Int32).toInt ∧ (1 : Int32).toInt ≤ 1) (by decide) (by decide))), (show (1 : Int32).toInt.toNat ^ r_187.toInt.toNat ≤ 20000 from (by have zl : (1 : Int32).toInt = 1 := (by decide); rw [show (1 : Int32).toInt.toNat = 1 from (by decide), Nat.one_pow]; decide)), hP, hD, hS, lv_sub hl [0, 1] rfl⟩
  obtain ⟨y_243, rfl⟩ : ∃ z, z = v := ⟨_, rfl⟩
  obtain ⟨b_y_243, hmo, hP, hD, hS, hl⟩ := hI
  have b_y_243 : (1 : Int) ≤ y_243.toInt ∧ y_243.toInt ≤ 16 := b_y_243
  have hmo : y_243.toInt.toNat ^ r_187.toInt.toNat ≤ 20000 := hmo
  have hP : va_P (dC, dI) vwCl [(o0, .inr (8, [.int x_th, .ref mwo, .ref mim, .ref mhi, .ref mlu, .ref mtp, .int x_td, .ref mfv, .int x_sz, .int o0_202, .int o1_203, .int o2_204, .int o3_205, .int o4_206, .int o5_207, .ref mfr, .ref mwt, .int x_wt, .int x_op, .int x_jo, .ref mfg, .ref mpl, .long x_dr, .ref mtm, .ref mfa, .ref mqu, .ref mmo, .ref mwy, .ref mwn, .ref mma, .ref mwi, .ref mnu, .ref mmv])), (mtp, .inl (c_tp, 1200, .inl w_tp)), (mfr, .inl (c_fr, 1875, .inl f_199))] H := hP
  have hD : va_D A [(o0, .inr (8, [.int x_th, .ref mwo, .ref mim, .ref mhi, .ref mlu, .ref mtp, .int x_td, .ref mfv, .int x_sz, .int o0_202, .int o1_203, .int o2_204, .int o3_205, .int o4_206, .int o5_207, .ref mfr, .ref mwt, .int x_wt, .int x_op, .int x_jo, .ref mfg, .ref mpl, .long x_dr, .ref mtm, .ref mfa, .ref mqu, .ref mmo, .ref mwy, .ref mwn, .ref mma, .ref mwi, .ref mnu, .ref mmv])), (mtp, .inl (c_tp, 1200, .inl w_tp)), (mfr, .inl (c_fr, 1875, .inl f_199))] := hD
  have hl : lv_has ls 2 [(1, .int y_243), (0, .ref o0)] := hl
  refine lv_iload_n hx hb dX10_readRoll_29 rfl (lv_at hl 0 rfl) ?_
  refine lv_bipush (v := 16) hx hb dX10_readRoll_30 (by decide) ?_
  refine cutW (σ := Unit) (pc2 := 61) (st2 := fun v => []) (cells2 := 0) (slots2 := 0) (fun v H locs ls => va_P (dC, dI) vwCl [(o0, .inr (8, [.int x_th, .ref mwo, .ref mim, .ref mhi, .ref mlu, .ref mtp, .int x_td, .ref mfv, .int x_sz, .int o0_202, .int o1_203, .int o2_204, .int o3_205, .int o4_206, .int o5_207, .ref mfr, .ref mwt, .int x_wt, .int x_op, .int x_jo, .ref mfg, .ref mpl, .long x_dr, .ref mtm, .ref mfa, .ref mqu, .ref mmo, .ref mwy, .ref mwn, .ref mma, .ref mwi, .ref mnu, .ref mmv])), (mtp, .inl (c_tp, 1200, .inl w_tp)), (mfr, .inl (c_fr, 1875, .inl f_199))] H ∧ va_D A [(o0, .inr (8, [.int x_th, .ref mwo, .ref mim, .ref mhi, .ref mlu, .ref mtp, .int x_td, .ref mfv, .int x_sz, .int o0_202, .int o1_203, .int o2_204, .int o3_205, .int o4_206, .int o5_207, .ref mfr, .ref mwt, .int x_wt, .int x_op, .int x_jo, .ref mfg, .ref mpl, .long x_dr, .ref mtm, .ref mfa, .ref mqu, .ref mmo, .ref mwy, .ref mwn, .ref mma, .ref mwi, .ref mnu, .ref mmv])), (mtp, .inl (c_tp, 1200, .inl w_tp)), (mfr, .inl (c_fr, 1875, .inl f_199))] ∧ va_S A s.heap H locs ∧ lv_has ls 2 [(1, .int y_243), (0, .ref o0)]) (fun v H locs ls hI => ?_) (fun hj_61_317 => ?_)
  ·
    obtain ⟨hP, hD, hS, hl⟩ := hI
    have hP : va_P (dC, dI) vwCl [(o0, .inr (8, [.int x_th, .ref mwo, .ref mim, .ref mhi, .ref mlu, .ref mtp, .int x_td, .ref mfv, .int x_sz, .int o0_202, .int o1_203, .int o2_204, .int o3_205, .int o4_206, .int o5_207, .ref mfr, .ref mwt, .int x_wt, .int x_op, .int x_jo, .ref mfg, .ref mpl, .long x_dr, .ref mtm, .ref mfa, .ref mqu, .ref mmo, .ref mwy, .ref mwn, .ref mma, .ref mwi, .ref mnu, .ref mmv])), (mtp, .inl (c_tp, 1200, .inl w_tp)), (mfr, .inl (c_fr, 1875, .inl f_199))] H := hP
    have hD : va_D A [(o0, .inr (8, [.int x_th, .ref mwo, .ref mim, .ref mhi, .ref mlu, .ref mtp, .int x_td, .ref mfv, .int x_sz, .int o0_202, .int o1_203, .int o2_204, .int o3_205, .int o4_206, .int o5_207, .ref mfr, .ref mwt, .int x_wt, .int x_op, .int x_jo, .ref mfg, .ref mpl, .long x_dr, .ref mtm, .ref mfa, .ref mqu, .ref mmo, .ref mwy, .ref mwn, .ref mma, .ref mwi, .ref mnu, .ref mmv])), (mtp, .inl (c_tp, 1200, .inl w_tp)), (mfr, .inl (c_fr, 1875, .inl f_199))] := hD
    have hl : lv_has ls 2 [(1, .int y_243), (0, .ref o0)] := hl
    refine lv_aload_n hx hb dX10_readRoll_61 rfl (lv_at hl 1 rfl) ?_
    refine va_get (D := (dC, dI)) (ci := 8) (v := .ref mfr) (C := RX10) (T := TX10) (N := 33) hx hb hts iX10_readRoll_X10 hown hK hP 0 rfl rfl 15 (by decide) (hts (.fieldLink RX10 34 "LuckyTicketModel" "fresh" "[I") (List.mem_of_getElem? (i := 5) rfl)) (fun _ h9 => h9) rfl dX10_readRoll_62 ?_
    refine lv_iconst (v := 1) hx hb dX10_readRoll_65 (by decide) ?_
    refine lv_aload_n hx hb dX10_readRoll_66 rfl (lv_at hl 1 rfl) ?_
    refine lv_iconst (v := 2) hx hb dX10_readRoll_67 (by decide) ?_
    refine lv_iload_n hx hb dX10_readRoll_68 rfl (lv_at hl 0 rfl) ?_
    have hFc := va_free (wc := [(o0, .inr (8, [.int x_th, .ref mwo, .ref mim, .ref mhi, .ref mlu, .ref mtp, .int x_td, .ref mfv, .int x_sz, .int o0_202, .int o1_203, .int o2_204, .int o3_205, .int o4_206, .int o5_207, .ref mfr, .ref mwt, .int x_wt, .int x_op, .int x_jo, .ref mfg, .ref mpl, .long x_dr, .ref mtm, .ref mfa, .ref mqu, .ref mmo, .ref mwy, .ref mwn, .ref mma, .ref mwi, .ref mnu, .ref mmv])), (mtp, .inl (c_tp, 1200, .inl w_tp))]) hD hS hA [0, 1] rfl
    refine va_calli (va_runV (As := [.int 2, .int y_243]) (rest := [.int 1, .ref mfr]) ⟨hx, hb, hml, hown, hts⟩ (kX10_number l dC dI o0 x_th mwo mim mhi mlu mtp x_td mfv x_sz o0_202 o1_203 o2_204 o3_205 o4_206 o5_207 mfr mwt x_wt x_op x_jo mfg mpl x_dr mtm mfa mqu mmo mwy mwn mma mwi mnu mmv c_tp w_tp 2 y_243 (H.size) b_x_sz b_o0_202 b_o1_203 b_o2_204 b_o4_206 (by omega) (by omega)) (cwV 2 hts gX10_readRoll__X10_number_V169 rfl rfl rfl hd_yX10_number ⟨lel 3 8 rfl, lel 69 174 rfl⟩) ⟨hw_fb, rcv_X10 hK hP (q0 := 0) rfl, (hw_use hP hD hK hN [0, 1] rfl (by decide) rfl [0] rfl)⟩ rfl rfl hl.1 rfl (lv_room (Nat.le_of_ble_eq_true rfl)) dX10_readRoll_69 ⟨lel 0 0 rfl, lel 0 0 rfl⟩) hS (fun q _ h => hFc q h) hFc (fun r_318 u_319 t H1 locs ht hvm hw_r_318 hB hz1 hk1 hS => ?_)
    obtain ⟨hu_r_318, hw_r_318⟩ := hw_r_318
    subst hu_r_318
    obtain ⟨o0_320, o1_321, o2_322, o3_323, o4_324, o5_325, b_o0_320, b_o1_321, b_o2_322, b_o4_324, hf_326, hf_327, hf_328, hf_329, hP1, hK1, hD1⟩ := hB
    rw [ht] at hP1
    have hK1 := va_K.moved hvm.symm hK1
    obtain ⟨hP, hD⟩ := va_join (wr := [(mfr, .inl (c_fr, 1875, .inl f_199))]) (w1 := [(o0, .inr (8, [.int x_th, .ref mwo, .ref mim, .ref mhi, .ref mlu, .ref mtp, .int x_td, .ref mfv, .int x_sz, .int o0_320, .int o1_321, .int o2_322, .int o3_323, .int o4_324, .int o5_325, .ref mfr, .ref mwt, .int x_wt, .int x_op, .int x_jo, .ref mfg, .ref mpl, .long x_dr, .ref mtm, .ref mfa, .ref mqu, .ref mmo, .ref mwy, .ref mwn, .ref mma, .ref mwi, .ref mnu, .ref mmv])), (mtp, .inl (c_tp, 1200, .inl w_tp))]) hP hD [0, 1] [2] rfl rfl (by decide) (by decide) hk1 hFc hP1 hD1
    have hK := (hK.sub (tys' := [(c_fr, .int)]) [1] rfl).app hK1
    generalize H1 = H at hP hS ⊢
    have hP := hP.sub (ws' := [(o0, .inr (8, [.int x_th, .ref mwo, .ref mim, .ref mhi, .ref mlu, .ref mtp, .int x_td, .ref mfv, .int x_sz, .int o0_320, .int o1_321, .int o2_322, .int o3_323, .int o4_324, .int o5_325, .ref mfr, .ref mwt, .int x_wt, .int x_op, .int x_jo, .ref mfg, .ref mpl, .long x_dr, .ref mtm, .ref mfa, .ref mqu, .ref mmo, .ref mwy, .ref mwn, .ref mma, .ref mwi, .ref mnu, .ref mmv])), (mtp, .inl (c_tp, 1200, .inl w_tp)), (mfr, .inl (c_fr, 1875, .inl f_199))]) [1, 2, 0] rfl
    have hD := hD.sub (ws' := [(o0, .inr (8, [.int x_th, .ref mwo, .ref mim, .ref mhi, .ref mlu, .ref mtp, .int x_td, .ref mfv, .int x_sz, .int o0_320, .int o1_321, .int o2_322, .int o3_323, .int o4_324, .int o5_325, .ref mfr, .ref mwt, .int x_wt, .int x_op, .int x_jo, .ref mfg, .ref mpl, .long x_dr, .ref mtm, .ref mfa, .ref mqu, .ref mmo, .ref mwy, .ref mwn, .ref mma, .ref mwi, .ref mnu, .ref mmv])), (mtp, .inl (c_tp, 1200, .inl w_tp)), (mfr, .inl (c_fr, 1875, .inl f_199))]) [1, 2, 0] (by decide) rfl
    have hK := hK.sub (tys' := [(c_tp, .byte), (c_fr, .int)]) [1, 0] rfl
    have hP : va_P (dC, dI) vwCl [(o0, .inr (8, [.int x_th, .ref mwo, .ref mim, .ref mhi, .ref mlu, .ref mtp, .int x_td, .ref mfv, .int x_sz, .int o0_320, .int o1_321, .int o2_322, .int o3_323, .int o4_324, .int o5_325, .ref mfr, .ref mwt, .int x_wt, .int x_op, .int x_jo, .ref mfg, .ref mpl, .long x_dr, .ref mtm, .ref mfa, .ref mqu, .ref mmo, .ref mwy, .ref mwn, .ref mma, .ref mwi, .ref mnu, .ref mmv])), (mtp, .inl (c_tp, 1200, .inl w_tp)), (mfr, .inl (c_fr, 1875, .inl f_199))] H := hP
    have hD : va_D A [(o0, .inr (8, [.int x_th, .ref mwo, .ref mim, .ref mhi, .ref mlu, .ref mtp, .int x_td, .ref mfv, .int x_sz, .int o0_320, .int o1_321, .int o2_322, .int o3_323, .int o4_324, .int o5_325, .ref mfr, .ref mwt, .int x_wt, .int x_op, .int x_jo, .ref mfg, .ref mpl, .long x_dr, .ref mtm, .ref mfa, .ref mqu, .ref mmo, .ref mwy, .ref mwn, .ref mma, .ref mwi, .ref mnu, .ref mmv])), (mtp, .inl (c_tp, 1200, .inl w_tp)), (mfr, .inl (c_fr, 1875, .inl f_199))] := hD
    have hK : va_K (dC, dI) vwCl [(c_tp, .byte), (c_fr, .int)] s := hK
    have pr_r_318 := hw_r_318
    have b_r_318 : (0 : Int) ≤ r_318.toInt ∧ r_318.toInt ≤ 16 := by
      have q0 := (by decide : (2 : Int) ≤ (2 : Int32).toInt ∧ (2 : Int32).toInt ≤ 2)
      have q1 := b_y_243
      omega
    refine va_iast hx hb hK hP hD hS 2 1 rfl rfl (vp_in_b (by decide : (1 : Int) ≤ (1 : Int32).toInt ∧ (1 : Int32).toInt ≤ 1) (by decide) (by decide)) dX10_readRoll_72 (fun H locs hP hD hS => ?_)
    have hP : va_P (dC, dI) vwCl [(o0, .inr (8, [.int x_th, .ref mwo, .ref mim, .ref mhi, .ref mlu, .ref mtp, .int x_td, .ref mfv, .int x_sz, .int o0_320, .int o1_321, .int o2_322, .int o3_323, .int o4_324, .int o5_325, .ref mfr, .ref mwt, .int x_wt, .int x_op, .int x_jo, .ref mfg, .ref mpl, .long x_dr, .ref mtm, .ref mfa, .ref mqu, .ref mmo, .ref mwy, .ref mwn, .ref mma, .ref mwi, .ref mnu, .ref mmv])), (mtp, .inl (c_tp, 1200, .inl w_tp)), (mfr, .inl (c_fr, 1875, .inl (upd f_199 (1 : Int32).toNatClampNeg r_318)))] H := hP
    have hD : va_D A [(o0, .inr (8, [.int x_th, .ref mwo, .ref mim, .ref mhi, .ref mlu, .ref mtp, .int x_td, .ref mfv, .int x_sz, .int o0_320, .int o1_321, .int o2_322, .int o3_323, .int o4_324, .int o5_325, .ref mfr, .ref mwt, .int x_wt, .int x_op, .int x_jo, .ref mfg, .ref mpl, .long x_dr, .ref mtm, .ref mfa, .ref mqu, .ref mmo, .ref mwy, .ref mwn, .ref mma, .ref mwi, .ref mnu, .ref mmv])), (mtp, .inl (c_tp, 1200, .inl w_tp)), (mfr, .inl (c_fr, 1875, .inl (upd f_199 (1 : Int32).toNatClampNeg r_318)))] := hD
    generalize ef_f_330 : (upd f_199 (1 : Int32).toNatClampNeg r_318) = f_330 at hP hD
    have hP : va_P (dC, dI) vwCl [(o0, .inr (8, [.int x_th, .ref mwo, .ref mim, .ref mhi, .ref mlu, .ref mtp, .int x_td, .ref mfv, .int x_sz, .int o0_320, .int o1_321, .int o2_322, .int o3_323, .int o4_324, .int o5_325, .ref mfr, .ref mwt, .int x_wt, .int x_op, .int x_jo, .ref mfg, .ref mpl, .long x_dr, .ref mtm, .ref mfa, .ref mqu, .ref mmo, .ref mwy, .ref mwn, .ref mma, .ref mwi, .ref mnu, .ref mmv])), (mtp, .inl (c_tp, 1200, .inl w_tp)), (mfr, .inl (c_fr, 1875, .inl f_330))] H := hP
    have hD : va_D A [(o0, .inr (8, [.int x_th, .ref mwo, .ref mim, .ref mhi, .ref mlu, .ref mtp, .int x_td, .ref mfv, .int x_sz, .int o0_320, .int o1_321, .int o2_322, .int o3_323, .int o4_324, .int o5_325, .ref mfr, .ref mwt, .int x_wt, .int x_op, .int x_jo, .ref mfg, .ref mpl, .long x_dr, .ref mtm, .ref mfa, .ref mqu, .ref mmo, .ref mwy, .ref mwn, .ref mma, .ref mwi, .ref mnu, .ref mmv])), (mtp, .inl (c_tp, 1200, .inl w_tp)), (mfr, .inl (c_fr, 1875, .inl f_330))] := hD
    refine lv_aload_n hx hb dX10_readRoll_73 rfl (lv_at hl 1 rfl) ?_
    refine vp_callSi (W.runV (As := []) (rest := []) ⟨hx, hb, hml, hown, hts⟩ (kX10_good l dC dI o0 x_th mwo mim mhi mlu mtp x_td mfv x_sz o0_320 o1_321 o2_322 o3_323 o4_324 o5_325 mfr mwt x_wt x_op x_jo mfg mpl x_dr mtm mfa mqu mmo mwy mwn mma mwi mnu mmv b_x_sz b_o0_320 b_o1_321 b_o2_322 b_o4_324) (cwV 0 hts gX10_readRoll__X10_good_V137 rfl rfl rfl hd_yX10_good ⟨lel 1 8 rfl, lel 20 174 rfl⟩) ⟨pw_fb, rcv_X10 hK hP (q0 := 0) rfl, (pw_use hP hK hN [0] rfl [] rfl)⟩ rfl rfl hl.1 rfl (lv_room (Nat.le_of_ble_eq_true rfl)) dX10_readRoll_74 ⟨lel 0 0 rfl, lel 0 0 rfl⟩) (fun r_331 h_r_331 => ?_)
    obtain ⟨b_r_331, nz_r_331, zz_r_331⟩ := h_r_331
    have b_r_331 : (0 : Int) ≤ r_331.toInt ∧ r_331.toInt ≤ 1 := b_r_331
    refine lv_if_eq (tgt := 103) hx hb dX10_readRoll_77 (by decide) (fun c_332 => ?_) (fun c_332 => ?_)
    ·
      have n_c_332 : (r_331.toInt : Int) = 0 := c_eq rfl (by decide) c_332
      have b_r_331 : (0 : Int) ≤ r_331.toInt ∧ r_331.toInt ≤ 0 := r_eq1 b_r_331 (by decide : (0 : Int) ≤ (0 : Int32).toInt ∧ (0 : Int32).toInt ≤ 0) n_c_332 (by decide)
      have g_333 := zz_r_331 c_332
      have hP9 := hP.sub (ws' := [(o0, .inr (8, [.int x_th, .ref mwo, .ref mim, .ref mhi, .ref mlu, .ref mtp, .int x_td, .ref mfv, .int x_sz, .int o0_320, .int o1_321, .int o2_322, .int o3_323, .int o4_324, .int o5_325, .ref mfr, .ref mwt, .int x_wt, .int x_op, .int x_jo, .ref mfg, .ref mpl, .long x_dr, .ref mtm, .ref mfa, .ref mqu, .ref mmo, .ref mwy, .ref mwn, .ref mma, .ref mwi, .ref mnu, .ref mmv])), (mtp, .inl (c_tp, 1200, .inl w_tp)), (mfr, .inl (c_fr, 1875, .inl f_330))]) [0, 1, 2] rfl
      have hD9 := hD.sub (ws' := [(o0, .inr (8, [.int x_th, .ref mwo, .ref mim, .ref mhi, .ref mlu, .ref mtp, .int x_td, .ref mfv, .int x_sz, .int o0_320, .int o1_321, .int o2_322, .int o3_323, .int o4_324, .int o5_325, .ref mfr, .ref mwt, .int x_wt, .int x_op, .int x_jo, .ref mfg, .ref mpl, .long x_dr, .ref mtm, .ref mfa, .ref mqu, .ref mmo, .ref mwy, .ref mwn, .ref mma, .ref mwi, .ref mnu, .ref mmv])), (mtp, .inl (c_tp, 1200, .inl w_tp)), (mfr, .inl (c_fr, 1875, .inl f_330))]) [0, 1, 2] (by decide) rfl
      have hK9 := hK.sub (tys' := [(c_tp, .byte), (c_fr, .int)]) [0, 1] rfl
      exact W.vret hx hb hr (fun t ht hW => ⟨⟨(), rfl, trivial, o0_320, o1_321, o2_322, o3_323, o4_324, o5_325, f_330, b_o0_320, b_o1_321, b_o2_322, b_o4_324, (by omega), (by omega), (by omega), (by omega), (fun h9 => absurd h9 (by omega)), (ke_3 (v := 0) ef_f_199 ef_f_330 (Or.inl rfl)), (by omega), by rw [ht]; exact hP9, va_K.moved hW.alike hK9, hD9⟩, hS.F ht⟩) hS.2.2 dX10_readRoll_103
    ·
      have n_c_332 : (r_331.toInt : Int) ≠ 0 := c_ne rfl (by decide) c_332
      have b_r_331 : (1 : Int) ≤ r_331.toInt ∧ r_331.toInt ≤ 1 := r_ne1 b_r_331 (by decide : (0 : Int) ≤ (0 : Int32).toInt ∧ (0 : Int32).toInt ≤ 0) n_c_332 (by decide)
      have g_334 := nz_r_331 c_332
      refine lv_aload_n hx hb dX10_readRoll_80 rfl (lv_at hl 1 rfl) ?_
      refine va_get (D := (dC, dI)) (ci := 8) (v := .ref mfr) (C := RX10) (T := TX10) (N := 33) hx hb hts iX10_readRoll_X10 hown hK hP 0 rfl rfl 15 (by decide) (hts (.fieldLink RX10 34 "LuckyTicketModel" "fresh" "[I") (List.mem_of_getElem? (i := 5) rfl)) (fun _ h9 => h9) rfl dX10_readRoll_81 ?_
      refine lv_iconst (v := 2) hx hb dX10_readRoll_84 (by decide) ?_
      refine lv_aload_n hx hb dX10_readRoll_85 rfl (lv_at hl 1 rfl) ?_
      refine va_get (D := (dC, dI)) (ci := 8) (v := .ref mfr) (C := RX10) (T := TX10) (N := 33) hx hb hts iX10_readRoll_X10 hown hK hP 0 rfl rfl 15 (by decide) (hts (.fieldLink RX10 34 "LuckyTicketModel" "fresh" "[I") (List.mem_of_getElem? (i := 5) rfl)) (fun _ h9 => h9) rfl dX10_readRoll_86 ?_
      refine lv_iconst (v := 1) hx hb dX10_readRoll_89 (by decide) ?_
      refine va_iald hx hb hK hP 2 1 rfl rfl (vp_in_b (by decide : (1 : Int) ≤ (1 : Int32).toInt ∧ (1 : Int32).toInt ≤ 1) (by decide) (by decide)) dX10_readRoll_90 ?_
      refine lv_topi (fun z_335 e_z_335 => ?_)
      obtain rfl : r_318 = z_335 := (us_1 ef_f_330 e_z_335).symm
      obtain ⟨z_336, e_z_336⟩ : ∃ y : Int64, y = r_318.toInt64 := ⟨_, rfl⟩
      refine lv_i2l (v := z_336) hx hb dX10_readRoll_91 e_z_336.symm ?_
      obtain ⟨q_z_336, b_z_336⟩ := ti_i2l e_z_336 b_r_318
      refine lv_aload_n hx hb dX10_readRoll_92 rfl (lv_at hl 1 rfl) ?_
      refine va_get (D := (dC, dI)) (ci := 8) (v := .ref mfr) (C := RX10) (T := TX10) (N := 33) hx hb hts iX10_readRoll_X10 hown hK hP 0 rfl rfl 15 (by decide) (hts (.fieldLink RX10 34 "LuckyTicketModel" "fresh" "[I") (List.mem_of_getElem? (i := 5) rfl)) (fun _ h9 => h9) rfl dX10_readRoll_93 ?_
      refine lv_iconst (v := 0) hx hb dX10_readRoll_96 (by decide) ?_
      refine va_iald hx hb hK hP 2 1 rfl rfl (vp_in_b (by decide : (0 : Int) ≤ (0 : Int32).toInt ∧ (0 : Int32).toInt ≤ 0) (by decide) (by decide)) dX10_readRoll_97 ?_
      refine lv_topi (fun z_337 e_z_337 => ?_)
      obtain rfl : r_187 = z_337 := (us_01 ef_f_199 ef_f_330 e_z_337).symm
      refine vp_callSl (W.runS (As := [.long z_336, .int r_187]) (rest := [.int 2, .ref mfr]) ⟨hx, hb, hml, hown, hts⟩ (kX10_powerOfF l dC dI z_336 r_187 (rg_w b_z_336 (by decide) (by decide)) b_r_187) (va_cwS 2 hts gX10_readRoll__X10_powerOfF_S257 rfl rfl rfl hd_yX10_powerOf.2 ⟨lel 1 8 rfl, lel 25 174 rfl⟩) ⟨pn_fb, pn_use⟩ rfl rfl hl.1 rfl (lv_room (Nat.le_of_ble_eq_true rfl)) dX10_readRoll_98 ⟨lel 0 0 rfl, lel 0 0 rfl⟩) (fun r_338 h_r_338 => ?_)
      obtain ⟨b_r_338, pr_r_338⟩ := h_r_338
      have b_r_338 : (0 : Int) ≤ r_338.toInt ∧ r_338.toInt ≤ 582622237229761 := b_r_338
      obtain ⟨z_339, e_z_339⟩ : ∃ y : Int32, y = r_338.toInt32 := ⟨_, rfl⟩
      refine lv_l2i (v := z_339) hx hb dX10_readRoll_101 e_z_339.symm ?_
      refine va_iast hx hb hK hP hD hS 2 1 rfl rfl (vp_in_b (by decide : (2 : Int) ≤ (2 : Int32).toInt ∧ (2 : Int32).toInt ≤ 2) (by decide) (by decide)) dX10_readRoll_102 (fun H locs hP hD hS => ?_)
      have hP : va_P (dC, dI) vwCl [(o0, .inr (8, [.int x_th, .ref mwo, .ref mim, .ref mhi, .ref mlu, .ref mtp, .int x_td, .ref mfv, .int x_sz, .int o0_320, .int o1_321, .int o2_322, .int o3_323, .int o4_324, .int o5_325, .ref mfr, .ref mwt, .int x_wt, .int x_op, .int x_jo, .ref mfg, .ref mpl, .long x_dr, .ref mtm, .ref mfa, .ref mqu, .ref mmo, .ref mwy, .ref mwn, .ref mma, .ref mwi, .ref mnu, .ref mmv])), (mtp, .inl (c_tp, 1200, .inl w_tp)), (mfr, .inl (c_fr, 1875, .inl (upd f_330 (2 : Int32).toNatClampNeg z_339)))] H := hP
      have hD : va_D A [(o0, .inr (8, [.int x_th, .ref mwo, .ref mim, .ref mhi, .ref mlu, .ref mtp, .int x_td, .ref mfv, .int x_sz, .int o0_320, .int o1_321, .int o2_322, .int o3_323, .int o4_324, .int o5_325, .ref mfr, .ref mwt, .int x_wt, .int x_op, .int x_jo, .ref mfg, .ref mpl, .long x_dr, .ref mtm, .ref mfa, .ref mqu, .ref mmo, .ref mwy, .ref mwn, .ref mma, .ref mwi, .ref mnu, .ref mmv])), (mtp, .inl (c_tp, 1200, .inl w_tp)), (mfr, .inl (c_fr, 1875, .inl (upd f_330 (2 : Int32).toNatClampNeg z_339)))] := hD
      generalize ef_f_340 : (upd f_330 (2 : Int32).toNatClampNeg z_339) = f_340 at hP hD
      have hP : va_P (dC, dI) vwCl [(o0, .inr (8, [.int x_th, .ref mwo, .ref mim, .ref mhi, .ref mlu, .ref mtp, .int x_td, .ref mfv, .int x_sz, .int o0_320, .int o1_321, .int o2_322, .int o3_323, .int o4_324, .int o5_325, .ref mfr, .ref mwt, .int x_wt, .int x_op, .int x_jo, .ref mfg, .ref mpl, .long x_dr, .ref mtm, .ref mfa, .ref mqu, .ref mmo, .ref mwy, .ref mwn, .ref mma, .ref mwi, .ref mnu, .ref mmv])), (mtp, .inl (c_tp, 1200, .inl w_tp)), (mfr, .inl (c_fr, 1875, .inl f_340))] H := hP
      have hD : va_D A [(o0, .inr (8, [.int x_th, .ref mwo, .ref mim, .ref mhi, .ref mlu, .ref mtp, .int x_td, .ref mfv, .int x_sz, .int o0_320, .int o1_321, .int o2_322, .int o3_323, .int o4_324, .int o5_325, .ref mfr, .ref mwt, .int x_wt, .int x_op, .int x_jo, .ref mfg, .ref mpl, .long x_dr, .ref mtm, .ref mfa, .ref mqu, .ref mmo, .ref mwy, .ref mwn, .ref mma, .ref mwi, .ref mnu, .ref mmv])), (mtp, .inl (c_tp, 1200, .inl w_tp)), (mfr, .inl (c_fr, 1875, .inl f_340))] := hD
      have hP9 := hP.sub (ws' := [(o0, .inr (8, [.int x_th, .ref mwo, .ref mim, .ref mhi, .ref mlu, .ref mtp, .int x_td, .ref mfv, .int x_sz, .int o0_320, .int o1_321, .int o2_322, .int o3_323, .int o4_324, .int o5_325, .ref mfr, .ref mwt, .int x_wt, .int x_op, .int x_jo, .ref mfg, .ref mpl, .long x_dr, .ref mtm, .ref mfa, .ref mqu, .ref mmo, .ref mwy, .ref mwn, .ref mma, .ref mwi, .ref mnu, .ref mmv])), (mtp, .inl (c_tp, 1200, .inl w_tp)), (mfr, .inl (c_fr, 1875, .inl f_340))]) [0, 1, 2] rfl
      have hD9 := hD.sub (ws' := [(o0, .inr (8, [.int x_th, .ref mwo, .ref mim, .ref mhi, .ref mlu, .ref mtp, .int x_td, .ref mfv, .int x_sz, .int o0_320, .int o1_321, .int o2_322, .int o3_323, .int o4_324, .int o5_325, .ref mfr, .ref mwt, .int x_wt, .int x_op, .int x_jo, .ref mfg, .ref mpl, .long x_dr, .ref mtm, .ref mfa, .ref mqu, .ref mmo, .ref mwy, .ref mwn, .ref mma, .ref mwi, .ref mnu, .ref mmv])), (mtp, .inl (c_tp, 1200, .inl w_tp)), (mfr, .inl (c_fr, 1875, .inl f_340))]) [0, 1, 2] (by decide) rfl
      have hK9 := hK.sub (tys' := [(c_tp, .byte), (c_fr, .int)]) [0, 1] rfl
      exact W.vret hx hb hr (fun t ht hW => ⟨⟨(), rfl, trivial, o0_320, o1_321, o2_322, o3_323, o4_324, o5_325, f_340, b_o0_320, b_o1_321, b_o2_322, b_o4_324, (by omega), (by omega), (by omega), (by omega), (by have l0 : (0 : Int32).toInt = 0 := (by decide); have l1 : (1 : Int32).toInt = 1 := (by decide); have l2 : (2 : Int32).toInt = 2 := (by decide); have l12 : (12 : Int32).toInt = 12 := (by decide); have l19 : (19 : Int32).toInt = 19 := (by decide); have l20 : (20 : Int32).toInt = 20 := (by decide); exact fun h9 => hd_of ef_f_199 ef_f_330 ef_f_340 ⟨by omega, by omega⟩ ⟨by omega, by omega⟩ (by omega) hmo (by omega) pr_r_338 e_z_339), (ke_3 ef_f_199 ef_f_330 (Or.inr ef_f_340)), (by omega), by rw [ht]; exact hP9, va_K.moved hW.alike hK9, hD9⟩, hS.F ht⟩) hS.2.2 dX10_readRoll_103
  ·
    refine lv_icmp_ge (tgt := 61) hx hb dX10_readRoll_32 (by decide) (fun c_311 => ?_) (fun c_311 => ?_)
    ·
      have n_c_311 : (16 : Int) ≤ y_243.toInt := c_ge rfl (by decide) c_311
      have b_y_243 : (16 : Int) ≤ y_243.toInt ∧ y_243.toInt ≤ 16 := r_le2 (by decide : (16 : Int) ≤ (16 : Int32).toInt ∧ (16 : Int32).toInt ≤ 16) b_y_243 n_c_311 (by decide)
      exact hj_61_317 () _ _ _ ⟨hP, hD, hS, lv_sub hl [0, 1] rfl⟩
    ·
      have n_c_311 : (y_243.toInt : Int) < 16 := c_nge rfl (by decide) c_311
      have b_y_243 : (1 : Int) ≤ y_243.toInt ∧ y_243.toInt ≤ 15 := r_lt1 b_y_243 (by decide : (16 : Int) ≤ (16 : Int32).toInt ∧ (16 : Int32).toInt ≤ 16) n_c_311 (by decide)
      refine lv_iload_n hx hb dX10_readRoll_35 rfl (lv_at hl 0 rfl) ?_
      refine lv_iconst (v := 1) hx hb dX10_readRoll_36 (by decide) ?_
      refine lv_iadd hx hb dX10_readRoll_37 ?_
      refine lv_topi (fun z_341 e_z_341 => ?_)
      obtain ⟨q_z_341, b_z_341⟩ := ti_add (lo := 2) (hi := 16) e_z_341 rfl (by decide : (1 : Int32).toInt = 1) b_y_243 (by decide : (1 : Int) ≤ (1 : Int32).toInt ∧ (1 : Int32).toInt ≤ 1) (by decide)
      obtain ⟨z_342, e_z_342⟩ : ∃ y : Int64, y = z_341.toInt64 := ⟨_, rfl⟩
      refine lv_i2l (v := z_342) hx hb dX10_readRoll_38 e_z_342.symm ?_
      obtain ⟨q_z_342, b_z_342⟩ := ti_i2l e_z_342 b_z_341
      refine lv_aload_n hx hb dX10_readRoll_39 rfl (lv_at hl 1 rfl) ?_
      refine va_get (D := (dC, dI)) (ci := 8) (v := .ref mfr) (C := RX10) (T := TX10) (N := 33) hx hb hts iX10_readRoll_X10 hown hK hP 0 rfl rfl 15 (by decide) (hts (.fieldLink RX10 34 "LuckyTicketModel" "fresh" "[I") (List.mem_of_getElem? (i := 5) rfl)) (fun _ h9 => h9) rfl dX10_readRoll_40 ?_
      refine lv_iconst (v := 0) hx hb dX10_readRoll_43 (by decide) ?_
      refine va_iald hx hb hK hP 2 1 rfl rfl (vp_in_b (by decide : (0 : Int) ≤ (0 : Int32).toInt ∧ (0 : Int32).toInt ≤ 0) (by decide) (by decide)) dX10_readRoll_44 ?_
      refine lv_topi (fun z_343 e_z_343 => ?_)
      obtain rfl : r_187 = z_343 := (us_0 ef_f_199 e_z_343).symm
      refine vp_callSl (W.runS (As := [.long z_342, .int r_187]) (rest := []) ⟨hx, hb, hml, hown, hts⟩ (kX10_powerOfF l dC dI z_342 r_187 (rg_w b_z_342 (by decide) (by decide)) b_r_187) (va_cwS 2 hts gX10_readRoll__X10_powerOfF_S257 rfl rfl rfl hd_yX10_powerOf.2 ⟨lel 1 8 rfl, lel 25 174 rfl⟩) ⟨pn_fb, pn_use⟩ rfl rfl hl.1 rfl (lv_room (Nat.le_of_ble_eq_true rfl)) dX10_readRoll_45 ⟨lel 0 0 rfl, lel 0 0 rfl⟩) (fun r_344 h_r_344 => ?_)
      obtain ⟨b_r_344, pr_r_344⟩ := h_r_344
      have b_r_344 : (0 : Int) ≤ r_344.toInt ∧ r_344.toInt ≤ 582622237229761 := b_r_344
      refine lv_ldc2 (v := 20000) hx hb hown (hts (.constantLong RX10 261 (20000)) (List.mem_of_getElem? (i := 11) rfl)) dX10_readRoll_48 ?_
      refine W.lcmp hx hb dX10_readRoll_51 ?_
      refine lv_if_gt (tgt := 61) hx hb dX10_readRoll_52 (by decide) (fun c_345 => ?_) (fun c_345 => ?_)
      ·
        have n_c_345 : (20000 : Int) < r_344.toInt := g_gt rfl (by decide) c_345
        have b_r_344 : (20001 : Int) ≤ r_344.toInt ∧ r_344.toInt ≤ 582622237229761 := r_lt2 (by decide : (20000 : Int) ≤ (20000 : Int64).toInt ∧ (20000 : Int64).toInt ≤ 20000) b_r_344 n_c_345 (by decide)
        exact hj_61_317 () _ _ _ ⟨hP, hD, hS, lv_sub hl [0, 1] rfl⟩
      ·
        have n_c_345 : (r_344.toInt : Int) ≤ 20000 := g_ngt rfl (by decide) c_345
        have b_r_344 : (0 : Int) ≤ r_344.toInt ∧ r_344.toInt ≤ 20000 := r_le1 b_r_344 (by decide : (20000 : Int) ≤ (20000 : Int64).toInt ∧ (20000 : Int64).toInt ≤ 20000) n_c_345 (by decide)
        obtain ⟨z_346, e_z_346⟩ : ∃ y : Int32, y = y_243 + 1 := ⟨_, rfl⟩
        refine lv_iinc (v := z_346) (lv' := [(1, .int z_346), (0, .ref o0)]) hx hb dX10_readRoll_55 hl (k := 0) rfl (by rw [e_z_346]; rfl) (by decide) rfl (fun ls hl => ?_)
        obtain ⟨q_z_346, b_z_346⟩ := ti_add (lo := 2) (hi := 16) e_z_346 rfl (by decide : (1 : Int32).toInt = 1) b_y_243 (by decide : (1 : Int) ≤ (1 : Int32).toInt ∧ (1 : Int32).toInt ≤ 1) (by decide)
        refine lv_goto (tgt := 29) hx hb dX10_readRoll_58 (by decide) ?_
        exact ih_29_310 z_346 _ _ _ ⟨(show (1 : Int) ≤ z_346.toInt ∧ z_346.toInt ≤ 16 from (rg_w b_z_346 (by decide) (by decide))), (show z_346.toInt.toNat ^ r_187.toInt.toNat ≤ 20000 from (mo_step (by omega) pr_r_344 (by omega))), hP, hD, hS, lv_sub hl [0, 1] rfl⟩ (show (16 - z_346.toInt).toNat < (16 - y_243.toInt).toNat by omega)
theorem dX10_readLine_0 : decode cX10_readLine 0 = .ok (.aload_n 0, 1) := by decide +kernel
theorem dX10_readLine_1 : decode cX10_readLine 1 = .ok (.getfield 34, 3) := by decide +kernel
theorem dX10_readLine_4 : decode cX10_readLine 4 = .ok (.iconst 4, 1) := by decide +kernel
theorem dX10_readLine_5 : decode cX10_readLine 5 = .ok (.iaload, 1) := by decide +kernel
theorem dX10_readLine_6 : decode cX10_readLine 6 = .ok (.ifCond .ne 10, 3) := by decide +kernel
theorem dX10_readLine_9 : decode cX10_readLine 9 = .ok (.aload_n 0, 1) := by decide +kernel
theorem dX10_readLine_10 : decode cX10_readLine 10 = .ok (.invokevirtual 263, 3) := by decide +kernel
theorem dX10_readLine_13 : decode cX10_readLine 13 = .ok (.goto 85, 3) := by decide +kernel
theorem dX10_readLine_16 : decode cX10_readLine 16 = .ok (.aload_n 0, 1) := by decide +kernel
theorem dX10_readLine_17 : decode cX10_readLine 17 = .ok (.ldc_w 266, 3) := by decide +kernel
theorem dX10_readLine_20 : decode cX10_readLine 20 = .ok (.invokevirtual 151, 3) := by decide +kernel
theorem dX10_readLine_23 : decode cX10_readLine 23 = .ok (.ifCond .eq 19, 3) := by decide +kernel
theorem dX10_readLine_26 : decode cX10_readLine 26 = .ok (.aload_n 0, 1) := by decide +kernel
theorem dX10_readLine_27 : decode cX10_readLine 27 = .ok (.getfield 34, 3) := by decide +kernel
theorem dX10_readLine_30 : decode cX10_readLine 30 = .ok (.iconst 3, 1) := by decide +kernel
theorem dX10_readLine_31 : decode cX10_readLine 31 = .ok (.iaload, 1) := by decide +kernel
theorem dX10_readLine_32 : decode cX10_readLine 32 = .ok (.bipush 9, 2) := by decide +kernel
theorem dX10_readLine_34 : decode cX10_readLine 34 = .ok (.if_icmp .ne 8, 3) := by decide +kernel
theorem dX10_readLine_37 : decode cX10_readLine 37 = .ok (.aload_n 0, 1) := by decide +kernel
theorem dX10_readLine_38 : decode cX10_readLine 38 = .ok (.iconst 3, 1) := by decide +kernel
theorem dX10_readLine_39 : decode cX10_readLine 39 = .ok (.invokevirtual 161, 3) := by decide +kernel
theorem dX10_readLine_42 : decode cX10_readLine 42 = .ok (.aload_n 0, 1) := by decide +kernel
theorem dX10_readLine_43 : decode cX10_readLine 43 = .ok (.ldc_w 266, 3) := by decide +kernel
theorem dX10_readLine_46 : decode cX10_readLine 46 = .ok (.invokevirtual 165, 3) := by decide +kernel
theorem dX10_readLine_49 : decode cX10_readLine 49 = .ok (.aload_n 0, 1) := by decide +kernel
theorem dX10_readLine_50 : decode cX10_readLine 50 = .ok (.invokevirtual 137, 3) := by decide +kernel
theorem dX10_readLine_53 : decode cX10_readLine 53 = .ok (.ifCond .eq 45, 3) := by decide +kernel
theorem dX10_readLine_56 : decode cX10_readLine 56 = .ok (.aload_n 0, 1) := by decide +kernel
theorem dX10_readLine_57 : decode cX10_readLine 57 = .ok (.getfield 34, 3) := by decide +kernel
theorem dX10_readLine_60 : decode cX10_readLine 60 = .ok (.iconst 5, 1) := by decide +kernel
theorem dX10_readLine_61 : decode cX10_readLine 61 = .ok (.aload_n 0, 1) := by decide +kernel
theorem dX10_readLine_62 : decode cX10_readLine 62 = .ok (.getfield 34, 3) := by decide +kernel
theorem dX10_readLine_65 : decode cX10_readLine 65 = .ok (.iconst 3, 1) := by decide +kernel
theorem dX10_readLine_66 : decode cX10_readLine 66 = .ok (.iaload, 1) := by decide +kernel
theorem dX10_readLine_67 : decode cX10_readLine 67 = .ok (.iadd, 1) := by decide +kernel
theorem dX10_readLine_68 : decode cX10_readLine 68 = .ok (.iconst 1, 1) := by decide +kernel
theorem dX10_readLine_69 : decode cX10_readLine 69 = .ok (.iadd, 1) := by decide +kernel
theorem dX10_readLine_70 : decode cX10_readLine 70 = .ok (.aload_n 0, 1) := by decide +kernel
theorem dX10_readLine_71 : decode cX10_readLine 71 = .ok (.getfield 34, 3) := by decide +kernel
theorem dX10_readLine_74 : decode cX10_readLine 74 = .ok (.iconst 5, 1) := by decide +kernel
theorem dX10_readLine_75 : decode cX10_readLine 75 = .ok (.aload_n 0, 1) := by decide +kernel
theorem dX10_readLine_76 : decode cX10_readLine 76 = .ok (.getfield 34, 3) := by decide +kernel
theorem dX10_readLine_79 : decode cX10_readLine 79 = .ok (.iconst 3, 1) := by decide +kernel
theorem dX10_readLine_80 : decode cX10_readLine 80 = .ok (.iaload, 1) := by decide +kernel
theorem dX10_readLine_81 : decode cX10_readLine 81 = .ok (.iadd, 1) := by decide +kernel
theorem dX10_readLine_82 : decode cX10_readLine 82 = .ok (.iaload, 1) := by decide +kernel
theorem dX10_readLine_83 : decode cX10_readLine 83 = .ok (.iastore, 1) := by decide +kernel
theorem dX10_readLine_84 : decode cX10_readLine 84 = .ok (.aload_n 0, 1) := by decide +kernel
theorem dX10_readLine_85 : decode cX10_readLine 85 = .ok (.invokevirtual 268, 3) := by decide +kernel
theorem dX10_readLine_88 : decode cX10_readLine 88 = .ok (.aload_n 0, 1) := by decide +kernel
theorem dX10_readLine_89 : decode cX10_readLine 89 = .ok (.getfield 34, 3) := by decide +kernel
theorem dX10_readLine_92 : decode cX10_readLine 92 = .ok (.iconst 3, 1) := by decide +kernel
theorem dX10_readLine_93 : decode cX10_readLine 93 = .ok (.dup2, 1) := by decide +kernel
theorem dX10_readLine_94 : decode cX10_readLine 94 = .ok (.iaload, 1) := by decide +kernel
theorem dX10_readLine_95 : decode cX10_readLine 95 = .ok (.iconst 1, 1) := by decide +kernel
theorem dX10_readLine_96 : decode cX10_readLine 96 = .ok (.iadd, 1) := by decide +kernel
theorem dX10_readLine_97 : decode cX10_readLine 97 = .ok (.iastore, 1) := by decide +kernel
theorem dX10_readLine_98 : decode cX10_readLine 98 = .ok (.aload_n 0, 1) := by decide +kernel
theorem dX10_readLine_99 : decode cX10_readLine 99 = .ok (.invokevirtual 137, 3) := by decide +kernel
theorem dX10_readLine_102 : decode cX10_readLine 102 = .ok (.ifCond .eq 16, 3) := by decide +kernel
theorem dX10_readLine_105 : decode cX10_readLine 105 = .ok (.aload_n 0, 1) := by decide +kernel
theorem dX10_readLine_106 : decode cX10_readLine 106 = .ok (.getfield 113, 3) := by decide +kernel
theorem dX10_readLine_109 : decode cX10_readLine 109 = .ok (.iconst 3, 1) := by decide +kernel
theorem dX10_readLine_110 : decode cX10_readLine 110 = .ok (.if_icmp .eq 8, 3) := by decide +kernel
theorem dX10_readLine_113 : decode cX10_readLine 113 = .ok (.aload_n 0, 1) := by decide +kernel
theorem dX10_readLine_114 : decode cX10_readLine 114 = .ok (.iconst 1, 1) := by decide +kernel
theorem dX10_readLine_115 : decode cX10_readLine 115 = .ok (.invokevirtual 161, 3) := by decide +kernel
theorem dX10_readLine_118 : decode cX10_readLine 118 = .ok (.aload_n 0, 1) := by decide +kernel
theorem dX10_readLine_119 : decode cX10_readLine 119 = .ok (.invokevirtual 137, 3) := by decide +kernel
theorem dX10_readLine_122 : decode cX10_readLine 122 = .ok (.ifCond .eq 7, 3) := by decide +kernel
theorem dX10_readLine_125 : decode cX10_readLine 125 = .ok (.aload_n 0, 1) := by decide +kernel
theorem dX10_readLine_126 : decode cX10_readLine 126 = .ok (.invokevirtual 155, 3) := by decide +kernel
theorem dX10_readLine_129 : decode cX10_readLine 129 = .ok (.aload_n 0, 1) := by decide +kernel
theorem dX10_readLine_130 : decode cX10_readLine 130 = .ok (.getfield 34, 3) := by decide +kernel
theorem dX10_readLine_133 : decode cX10_readLine 133 = .ok (.iconst 4, 1) := by decide +kernel
theorem dX10_readLine_134 : decode cX10_readLine 134 = .ok (.dup2, 1) := by decide +kernel
theorem dX10_readLine_135 : decode cX10_readLine 135 = .ok (.iaload, 1) := by decide +kernel
theorem dX10_readLine_136 : decode cX10_readLine 136 = .ok (.iconst 1, 1) := by decide +kernel
theorem dX10_readLine_137 : decode cX10_readLine 137 = .ok (.iadd, 1) := by decide +kernel
theorem dX10_readLine_138 : decode cX10_readLine 138 = .ok (.iastore, 1) := by decide +kernel
theorem dX10_readLine_139 : decode cX10_readLine 139 = .ok (.return_, 1) := by decide +kernel
theorem hd_yX10_readLine : yX10_readLine.cls = RX10 ∧ yX10_readLine.cls ≠ "java/lang/invoke/MethodHandle" ∧ yX10_readLine.cls ≠ "java/lang/invoke/VarHandle" ∧ (parseMethodDescriptor yX10_readLine.desc).map (fun d => d.parameters.length) = some 0 := by decide +kernel
def uX10_readLine : List Cond := List.cons (.code yX10_readLine cX10_readLine 1 none) (HAppend.hAppend ([.fieldLink RX10 34 "LuckyTicketModel" "fresh" "[I", .methodLink RX10 151 yX10_is, .instanceMethod yX10_is, .selects RX10 yX10_is yX10_is, .initialized RX10, .methodLink RX10 161 yX10_errs, .instanceMethod yX10_errs, .selects RX10 yX10_errs yX10_errs, .methodLink RX10 165 yX10_needs, .instanceMethod yX10_needs, .selects RX10 yX10_needs yX10_needs, .methodLink RX10 137 yX10_good, .instanceMethod yX10_good, .selects RX10 yX10_good yX10_good, .methodLink RX10 268 yX10_readLaw, .instanceMethod yX10_readLaw, .selects RX10 yX10_readLaw yX10_readLaw, .methodLink RX10 263 yX10_readRoll, .instanceMethod yX10_readRoll, .selects RX10 yX10_readRoll yX10_readRoll, .fieldLink RX10 113 "LuckyTicketModel" "token" "I", .methodLink RX10 155 yX10_advance, .instanceMethod yX10_advance, .selects RX10 yX10_advance yX10_advance] : List Cond) (HAppend.hAppend uX10_is (HAppend.hAppend uX10_errs (HAppend.hAppend uX10_needs (HAppend.hAppend uX10_good (HAppend.hAppend uX10_readLaw (HAppend.hAppend uX10_readRoll (HAppend.hAppend uX10_advance wsX100))))))))
theorem iX10_readLine_X10 : ∀ w ∈ wsX100, w ∈ uX10_readLine := fun _ h => (List.mem_cons_of_mem _ (List.mem_append_right _ (List.mem_append_right _ (List.mem_append_right _ (List.mem_append_right _ (List.mem_append_right _ (List.mem_append_right _ (List.mem_append_right _ (List.mem_append_right _ h)))))))))
theorem guX10_readLine : GU uX10_readLine := gu_cons (gu_app (by decide +kernel) (gu_ap guX10_is (gu_ap guX10_errs (gu_ap guX10_needs (gu_ap guX10_good (gu_ap guX10_readLaw (gu_ap guX10_readRoll (gu_ap guX10_advance gws_X10))))))))
theorem gX10_readLine__X10_is_V151 : GoodIn uX10_readLine (wsV RX10 151 RX10 yX10_is uX10_is) := gin_V (List.mem_of_getElem? (i := 2) rfl) (List.mem_of_getElem? (i := 3) rfl) (List.mem_of_getElem? (i := 4) rfl) (List.mem_of_getElem? (i := 5) rfl) (fun _ h => (List.mem_cons_of_mem _ (List.mem_append_right _ (List.mem_append_left _ h)))) guX10_is
theorem gX10_readLine__X10_errs_V161 : GoodIn uX10_readLine (wsV RX10 161 RX10 yX10_errs uX10_errs) := gin_V (List.mem_of_getElem? (i := 6) rfl) (List.mem_of_getElem? (i := 7) rfl) (List.mem_of_getElem? (i := 8) rfl) (List.mem_of_getElem? (i := 5) rfl) (fun _ h => (List.mem_cons_of_mem _ (List.mem_append_right _ (List.mem_append_right _ (List.mem_append_left _ h))))) guX10_errs
theorem gX10_readLine__X10_needs_V165 : GoodIn uX10_readLine (wsV RX10 165 RX10 yX10_needs uX10_needs) := gin_V (List.mem_of_getElem? (i := 9) rfl) (List.mem_of_getElem? (i := 10) rfl) (List.mem_of_getElem? (i := 11) rfl) (List.mem_of_getElem? (i := 5) rfl) (fun _ h => (List.mem_cons_of_mem _ (List.mem_append_right _ (List.mem_append_right _ (List.mem_append_right _ (List.mem_append_left _ h)))))) guX10_needs
theorem gX10_readLine__X10_good_V137 : GoodIn uX10_readLine (wsV RX10 137 RX10 yX10_good uX10_good) := gin_V (List.mem_of_getElem? (i := 12) rfl) (List.mem_of_getElem? (i := 13) rfl) (List.mem_of_getElem? (i := 14) rfl) (List.mem_of_getElem? (i := 5) rfl) (fun _ h => (List.mem_cons_of_mem _ (List.mem_append_right _ (List.mem_append_right _ (List.mem_append_right _ (List.mem_append_right _ (List.mem_append_left _ h))))))) guX10_good
theorem gX10_readLine__X10_readLaw_V268 : GoodIn uX10_readLine (wsV RX10 268 RX10 yX10_readLaw uX10_readLaw) := gin_V (List.mem_of_getElem? (i := 15) rfl) (List.mem_of_getElem? (i := 16) rfl) (List.mem_of_getElem? (i := 17) rfl) (List.mem_of_getElem? (i := 5) rfl) (fun _ h => (List.mem_cons_of_mem _ (List.mem_append_right _ (List.mem_append_right _ (List.mem_append_right _ (List.mem_append_right _ (List.mem_append_right _ (List.mem_append_left _ h)))))))) guX10_readLaw
theorem gX10_readLine__X10_readRoll_V263 : GoodIn uX10_readLine (wsV RX10 263 RX10 yX10_readRoll uX10_readRoll) := gin_V (List.mem_of_getElem? (i := 18) rfl) (List.mem_of_getElem? (i := 19) rfl) (List.mem_of_getElem? (i := 20) rfl) (List.mem_of_getElem? (i := 5) rfl) (fun _ h => (List.mem_cons_of_mem _ (List.mem_append_right _ (List.mem_append_right _ (List.mem_append_right _ (List.mem_append_right _ (List.mem_append_right _ (List.mem_append_right _ (List.mem_append_left _ h))))))))) guX10_readRoll
theorem gX10_readLine__X10_advance_V155 : GoodIn uX10_readLine (wsV RX10 155 RX10 yX10_advance uX10_advance) := gin_V (List.mem_of_getElem? (i := 22) rfl) (List.mem_of_getElem? (i := 23) rfl) (List.mem_of_getElem? (i := 24) rfl) (List.mem_of_getElem? (i := 5) rfl) (fun _ h => (List.mem_cons_of_mem _ (List.mem_append_right _ (List.mem_append_right _ (List.mem_append_right _ (List.mem_append_right _ (List.mem_append_right _ (List.mem_append_right _ (List.mem_append_right _ (List.mem_append_left _ h)))))))))) guX10_advance
set_option maxHeartbeats 4000000 in
set_option maxRecDepth 100000 in
theorem kX10_readLine (l : Launch) (dC : Nat → ClassId) (dI : Nat → Nat → Nat) (o0 : Nat) (x_th : Int32) (mwo : Nat) (mim : Nat) (mhi : Nat) (mlu : Nat) (mtp : Nat) (x_td : Int32) (mfv : Nat) (x_sz : Int32) (x_at : Int32) (x_fr : Int32) (x_to : Int32) (x_va : Int32) (x_fk : Int32) (x_fp : Int32) (mfr : Nat) (mwt : Nat) (x_wt : Int32) (x_op : Int32) (x_jo : Int32) (mfg : Nat) (mpl : Nat) (x_dr : Int64) (mtm : Nat) (mfa : Nat) (mqu : Nat) (mmo : Nat) (mwy : Nat) (mwn : Nat) (mma : Nat) (mwi : Nat) (mnu : Nat) (mmv : Nat) (c_tp : ClassId) (c_fr : ClassId) (c_wt : ClassId) (w_tp : Nat → Int32) (w_fr : Nat → Int32) (w_wt : Nat → Int32) (n0 : Nat) (sz : Nat) (b_x_sz : (0 : Int) ≤ x_sz.toInt ∧ x_sz.toInt ≤ 1200) (b_x_at : (0 : Int) ≤ x_at.toInt ∧ x_at.toInt ≤ 1200) (b_x_fr : (0 : Int) ≤ x_fr.toInt ∧ x_fr.toInt ≤ 1200) (b_x_to : (0 : Int) ≤ x_to.toInt ∧ x_to.toInt ≤ 6) (b_x_fk : (0 : Int) ≤ x_fk.toInt ∧ x_fk.toInt ≤ 3) (hpf : x_fr.toInt ≤ x_at.toInt ∧ x_at.toInt ≤ x_sz.toInt) (htk0 : x_to.toInt ≠ 0 → x_fr.toInt < x_at.toInt) (hbi : BI w_fr x_fr) (hgd : x_fk.toInt = 0) : Met l yX10_readLine uX10_readLine ({ frames := 10, cells := 0, slots := 0, locals := 216 }) (va_Pc [.ref o0] (hx_ (dC, dI) vwCl [(o0, .inr (8, [.int x_th, .ref mwo, .ref mim, .ref mhi, .ref mlu, .ref mtp, .int x_td, .ref mfv, .int x_sz, .int x_at, .int x_fr, .int x_to, .int x_va, .int x_fk, .int x_fp, .ref mfr, .ref mwt, .int x_wt, .int x_op, .int x_jo, .ref mfg, .ref mpl, .long x_dr, .ref mtm, .ref mfa, .ref mqu, .ref mmo, .ref mwy, .ref mwn, .ref mma, .ref mwi, .ref mnu, .ref mmv])), (mtp, .inl (c_tp, 1200, .inl w_tp)), (mfr, .inl (c_fr, 1875, .inl w_fr)), (mwt, .inl (c_wt, 78, .inl w_wt))] [(c_tp, .byte), (c_fr, .int), (c_wt, .int)] sz n0 [])) (va_Qv (fun (_ : Unit) => True) (fun (_ : Unit) t => ∃ (o0_ : Int32) (o1_ : Int32) (o2_ : Int32) (o3_ : Int32) (o4_ : Int32) (o5_ : Int32) (o6_ : Int32) (o7_ : Int32) (o8_ : Int32) (o9_ : Nat → Int32) (o10_ : Nat → Int32), ((0 : Int) ≤ o0_.toInt ∧ o0_.toInt ≤ 1200) ∧ ((0 : Int) ≤ o1_.toInt ∧ o1_.toInt ≤ 1200) ∧ ((0 : Int) ≤ o2_.toInt ∧ o2_.toInt ≤ 6) ∧ ((0 : Int) ≤ o4_.toInt ∧ o4_.toInt ≤ 3) ∧ (o1_.toInt ≤ o0_.toInt ∧ o0_.toInt ≤ x_sz.toInt) ∧ (o2_.toInt ≠ 0 → o1_.toInt < o0_.toInt) ∧ (x_fr.toInt ≤ o1_.toInt) ∧ (o4_.toInt = 0 → BI o9_ o1_) ∧ (o4_.toInt = 0 → x_fr.toInt < o1_.toInt) ∧ va_P (dC, dI) vwCl [(o0, .inr (8, [.int x_th, .ref mwo, .ref mim, .ref mhi, .ref mlu, .ref mtp, .int x_td, .ref mfv, .int x_sz, .int o0_, .int o1_, .int o2_, .int o3_, .int o4_, .int o5_, .ref mfr, .ref mwt, .int o6_, .int o7_, .int o8_, .ref mfg, .ref mpl, .long x_dr, .ref mtm, .ref mfa, .ref mqu, .ref mmo, .ref mwy, .ref mwn, .ref mma, .ref mwi, .ref mnu, .ref mmv])), (mtp, .inl (c_tp, 1200, .inl w_tp)), (mfr, .inl (c_fr, 1875, .inl o9_)), (mwt, .inl (c_wt, 78, .inl o10_))] t.heap ∧ va_K (dC, dI) vwCl [(c_tp, .byte), (c_fr, .int), (c_wt, .int)] t ∧ va_D (va_A [(o0, .inr (8, [.int x_th, .ref mwo, .ref mim, .ref mhi, .ref mlu, .ref mtp, .int x_td, .ref mfv, .int x_sz, .int x_at, .int x_fr, .int x_to, .int x_va, .int x_fk, .int x_fp, .ref mfr, .ref mwt, .int x_wt, .int x_op, .int x_jo, .ref mfg, .ref mpl, .long x_dr, .ref mtm, .ref mfa, .ref mqu, .ref mmo, .ref mwy, .ref mwn, .ref mma, .ref mwi, .ref mnu, .ref mmv])), (mtp, .inl (c_tp, 1200, .inl w_tp)), (mfr, .inl (c_fr, 1875, .inl w_fr)), (mwt, .inl (c_wt, 78, .inl w_wt))] sz) [(o0, .inr (8, [.int x_th, .ref mwo, .ref mim, .ref mhi, .ref mlu, .ref mtp, .int x_td, .ref mfv, .int x_sz, .int o0_, .int o1_, .int o2_, .int o3_, .int o4_, .int o5_, .ref mfr, .ref mwt, .int o6_, .int o7_, .int o8_, .ref mfg, .ref mpl, .long x_dr, .ref mtm, .ref mfa, .ref mqu, .ref mmo, .ref mwy, .ref mwn, .ref mma, .ref mwi, .ref mnu, .ref mmv])), (mtp, .inl (c_tp, 1200, .inl w_tp)), (mfr, .inl (c_fr, 1875, .inl o9_)), (mwt, .inl (c_wt, 78, .inl o10_))]) (va_A [(o0, .inr (8, [.int x_th, .ref mwo, .ref mim, .ref mhi, .ref mlu, .ref mtp, .int x_td, .ref mfv, .int x_sz, .int x_at, .int x_fr, .int x_to, .int x_va, .int x_fk, .int x_fp, .ref mfr, .ref mwt, .int x_wt, .int x_op, .int x_jo, .ref mfg, .ref mpl, .long x_dr, .ref mtm, .ref mfa, .ref mqu, .ref mmo, .ref mwy, .ref mwn, .ref mma, .ref mwi, .ref mnu, .ref mmv])), (mtp, .inl (c_tp, 1200, .inl w_tp)), (mfr, .inl (c_fr, 1875, .inl w_fr)), (mwt, .inl (c_wt, 78, .inl w_wt))] sz)) 0 0 (va_A [(o0, .inr (8, [.int x_th, .ref mwo, .ref mim, .ref mhi, .ref mlu, .ref mtp, .int x_td, .ref mfv, .int x_sz, .int x_at, .int x_fr, .int x_to, .int x_va, .int x_fk, .int x_fp, .ref mfr, .ref mwt, .int x_wt, .int x_op, .int x_jo, .ref mfg, .ref mpl, .long x_dr, .ref mtm, .ref mfa, .ref mqu, .ref mmo, .ref mwy, .ref mwn, .ref mma, .ref mwi, .ref mnu, .ref mmv])), (mtp, .inl (c_tp, 1200, .inl w_tp)), (mfr, .inl (c_fr, 1875, .inl w_fr)), (mwt, .inl (c_wt, 78, .inl w_wt))] sz) := by
  refine Met.ofW (cc := cX10_readLine) (maxL := 1) (ret := none) pn_X10 rfl ?_
  intro p e s m args below meth c s₁ B hml hv
  obtain ⟨rfl, ⟨hsz, hP, hK, hD0, hN⟩, hn0, hDn, hX, hTx⟩ := hv
  have hx := B.exec
  have hb := B.bytes
  have hr := B.returns
  have hts := atoms_spec (ws := uX10_readLine) B.pre
  have hown : s.vm.findClass RX10 = some m.cls := hown_of B.named rfl
  have hlocks := B.notSynchronized
  subst hsz
  have hD := hD0.self (sz := s.heap.size)
  have hAn : ∀ q, va_A [(o0, .inr (8, [.int x_th, .ref mwo, .ref mim, .ref mhi, .ref mlu, .ref mtp, .int x_td, .ref mfv, .int x_sz, .int x_at, .int x_fr, .int x_to, .int x_va, .int x_fk, .int x_fp, .ref mfr, .ref mwt, .int x_wt, .int x_op, .int x_jo, .ref mfg, .ref mpl, .long x_dr, .ref mtm, .ref mfa, .ref mqu, .ref mmo, .ref mwy, .ref mwn, .ref mma, .ref mwi, .ref mnu, .ref mmv])), (mtp, .inl (c_tp, 1200, .inl w_tp)), (mfr, .inl (c_fr, 1875, .inl w_fr)), (mwt, .inl (c_wt, 78, .inl w_wt))] s.heap.size q → n0 ≤ q := fun q h => h.elim (fun ⟨k, e, hk⟩ => hDn.2 k (q, e) hk) (fun h => Nat.le_trans hn0 h)
  generalize hAe : va_A [(o0, .inr (8, [.int x_th, .ref mwo, .ref mim, .ref mhi, .ref mlu, .ref mtp, .int x_td, .ref mfv, .int x_sz, .int x_at, .int x_fr, .int x_to, .int x_va, .int x_fk, .int x_fp, .ref mfr, .ref mwt, .int x_wt, .int x_op, .int x_jo, .ref mfg, .ref mpl, .long x_dr, .ref mtm, .ref mfa, .ref mqu, .ref mmo, .ref mwy, .ref mwn, .ref mma, .ref mwi, .ref mnu, .ref mmv])), (mtp, .inl (c_tp, 1200, .inl w_tp)), (mfr, .inl (c_fr, 1875, .inl w_fr)), (mwt, .inl (c_wt, 78, .inl w_wt))] s.heap.size = A at hD hAn ⊢
  have hA : ∀ q : Nat, s.heap.size ≤ q → A q := fun q h => by rw [← hAe]; exact Or.inr h
  have hS : va_S A s.heap s.heap [] := va_S.rf
  have hP : va_P (dC, dI) vwCl [(o0, .inr (8, [.int x_th, .ref mwo, .ref mim, .ref mhi, .ref mlu, .ref mtp, .int x_td, .ref mfv, .int x_sz, .int x_at, .int x_fr, .int x_to, .int x_va, .int x_fk, .int x_fp, .ref mfr, .ref mwt, .int x_wt, .int x_op, .int x_jo, .ref mfg, .ref mpl, .long x_dr, .ref mtm, .ref mfa, .ref mqu, .ref mmo, .ref mwy, .ref mwn, .ref mma, .ref mwi, .ref mnu, .ref mmv])), (mtp, .inl (c_tp, 1200, .inl w_tp)), (mfr, .inl (c_fr, 1875, .inl w_fr)), (mwt, .inl (c_wt, 78, .inl w_wt))] s.heap := hP
  obtain ⟨tq_266, tf_266, hR_266, ht_266⟩ := hX.2.2.1 (RX10, 266, "law", 3) (List.mem_of_getElem? (i := 35) rfl)
  have hR_266 : vk_R RX10 266 "law" tq_266 s := hR_266
  have ht_266 : txt n0 tq_266 3 tf_266 s := ht_266
  have hl := lv_entry ([.ref o0]) (n := 1) (Nat.le_of_ble_eq_true rfl)
  rw [lg_entry_eq]
  generalize (lg_sl ([.ref o0]) ++ List.replicate (1 - (lg_sl ([.ref o0])).length) Slot.unset).toArray = ls at hl ⊢
  have hl : lv_has ls 1 [(0, .ref o0)] := hl
  refine lv_aload_n hx hb dX10_readLine_0 rfl (lv_at hl 0 rfl) ?_
  refine va_get (D := (dC, dI)) (ci := 8) (v := .ref mfr) (C := RX10) (T := TX10) (N := 33) hx hb hts iX10_readLine_X10 hown hK hP 0 rfl rfl 15 (by decide) (hts (.fieldLink RX10 34 "LuckyTicketModel" "fresh" "[I") (List.mem_of_getElem? (i := 1) rfl)) (fun _ h9 => h9) rfl dX10_readLine_1 ?_
  refine lv_iconst (v := 4) hx hb dX10_readLine_4 (by decide) ?_
  refine va_iald hx hb hK hP 2 1 rfl rfl (vp_in_b (by decide : (4 : Int) ≤ (4 : Int32).toInt ∧ (4 : Int32).toInt ≤ 4) (by decide) (by decide)) dX10_readLine_5 ?_
  refine lv_topi (fun z_231 e_z_231 => ?_)
  have e4_ : z_231 = w_fr 4 := e_z_231
  refine cutW (σ := Int32 × Int32 × Int32 × Int32 × Int32 × Int32 × Int32 × Int32 × Int32 × (Nat → Int32) × (Nat → Int32)) (pc2 := 98) (st2 := fun v => []) (cells2 := 0) (slots2 := 0) (fun v H locs ls => ((0 : Int) ≤ v.1.toInt ∧ v.1.toInt ≤ 1200) ∧ ((0 : Int) ≤ v.2.1.toInt ∧ v.2.1.toInt ≤ 1200) ∧ ((0 : Int) ≤ v.2.2.1.toInt ∧ v.2.2.1.toInt ≤ 6) ∧ ((0 : Int) ≤ v.2.2.2.2.1.toInt ∧ v.2.2.2.2.1.toInt ≤ 3) ∧ (v.2.2.2.2.1.toInt = 0 → BI v.2.2.2.2.2.2.2.2.2.1 v.2.1 ∧ HDR v.2.2.2.2.2.2.2.2.2.1) ∧ (v.2.2.2.2.1.toInt = 0 → x_fr.toInt < v.2.1.toInt) ∧ (v.2.1.toInt ≤ v.1.toInt ∧ v.1.toInt ≤ x_sz.toInt) ∧ (v.2.2.1.toInt ≠ 0 → v.2.1.toInt < v.1.toInt) ∧ (x_fr.toInt ≤ v.2.1.toInt) ∧ va_P (dC, dI) vwCl [(o0, .inr (8, [.int x_th, .ref mwo, .ref mim, .ref mhi, .ref mlu, .ref mtp, .int x_td, .ref mfv, .int x_sz, .int v.1, .int v.2.1, .int v.2.2.1, .int v.2.2.2.1, .int v.2.2.2.2.1, .int v.2.2.2.2.2.1, .ref mfr, .ref mwt, .int v.2.2.2.2.2.2.1, .int v.2.2.2.2.2.2.2.1, .int v.2.2.2.2.2.2.2.2.1, .ref mfg, .ref mpl, .long x_dr, .ref mtm, .ref mfa, .ref mqu, .ref mmo, .ref mwy, .ref mwn, .ref mma, .ref mwi, .ref mnu, .ref mmv])), (mtp, .inl (c_tp, 1200, .inl w_tp)), (mfr, .inl (c_fr, 1875, .inl v.2.2.2.2.2.2.2.2.2.1)), (mwt, .inl (c_wt, 78, .inl v.2.2.2.2.2.2.2.2.2.2))] H ∧ va_D A [(o0, .inr (8, [.int x_th, .ref mwo, .ref mim, .ref mhi, .ref mlu, .ref mtp, .int x_td, .ref mfv, .int x_sz, .int v.1, .int v.2.1, .int v.2.2.1, .int v.2.2.2.1, .int v.2.2.2.2.1, .int v.2.2.2.2.2.1, .ref mfr, .ref mwt, .int v.2.2.2.2.2.2.1, .int v.2.2.2.2.2.2.2.1, .int v.2.2.2.2.2.2.2.2.1, .ref mfg, .ref mpl, .long x_dr, .ref mtm, .ref mfa, .ref mqu, .ref mmo, .ref mwy, .ref mwn, .ref mma, .ref mwi, .ref mnu, .ref mmv])), (mtp, .inl (c_tp, 1200, .inl w_tp)), (mfr, .inl (c_fr, 1875, .inl v.2.2.2.2.2.2.2.2.2.1)), (mwt, .inl (c_wt, 78, .inl v.2.2.2.2.2.2.2.2.2.2))] ∧ va_S A s.heap H locs ∧ lv_has ls 1 [(0, .ref o0)]) (fun v H locs ls hI => ?_) (fun hj_98_326 => ?_)
  ·
    obtain ⟨y_316, y_317, y_318, y_319, y_320, y_321, y_322, y_323, y_324, f_325, f_326⟩ := v
    obtain ⟨b_y_316, b_y_317, b_y_318, b_y_320, hb98, hp98, hpf, htk0, hfr, hP, hD, hS, hl⟩ := hI
    have b_y_316 : (0 : Int) ≤ y_316.toInt ∧ y_316.toInt ≤ 1200 := b_y_316
    have b_y_317 : (0 : Int) ≤ y_317.toInt ∧ y_317.toInt ≤ 1200 := b_y_317
    have b_y_318 : (0 : Int) ≤ y_318.toInt ∧ y_318.toInt ≤ 6 := b_y_318
    have b_y_320 : (0 : Int) ≤ y_320.toInt ∧ y_320.toInt ≤ 3 := b_y_320
    have hb98 : y_320.toInt = 0 → BI f_325 y_317 ∧ HDR f_325 := hb98
    have hp98 : y_320.toInt = 0 → x_fr.toInt < y_317.toInt := hp98
    have hpf : y_317.toInt ≤ y_316.toInt ∧ y_316.toInt ≤ x_sz.toInt := hpf
    have htk0 : y_318.toInt ≠ 0 → y_317.toInt < y_316.toInt := htk0
    have hfr : x_fr.toInt ≤ y_317.toInt := hfr
    have hP : va_P (dC, dI) vwCl [(o0, .inr (8, [.int x_th, .ref mwo, .ref mim, .ref mhi, .ref mlu, .ref mtp, .int x_td, .ref mfv, .int x_sz, .int y_316, .int y_317, .int y_318, .int y_319, .int y_320, .int y_321, .ref mfr, .ref mwt, .int y_322, .int y_323, .int y_324, .ref mfg, .ref mpl, .long x_dr, .ref mtm, .ref mfa, .ref mqu, .ref mmo, .ref mwy, .ref mwn, .ref mma, .ref mwi, .ref mnu, .ref mmv])), (mtp, .inl (c_tp, 1200, .inl w_tp)), (mfr, .inl (c_fr, 1875, .inl f_325)), (mwt, .inl (c_wt, 78, .inl f_326))] H := hP
    have hD : va_D A [(o0, .inr (8, [.int x_th, .ref mwo, .ref mim, .ref mhi, .ref mlu, .ref mtp, .int x_td, .ref mfv, .int x_sz, .int y_316, .int y_317, .int y_318, .int y_319, .int y_320, .int y_321, .ref mfr, .ref mwt, .int y_322, .int y_323, .int y_324, .ref mfg, .ref mpl, .long x_dr, .ref mtm, .ref mfa, .ref mqu, .ref mmo, .ref mwy, .ref mwn, .ref mma, .ref mwi, .ref mnu, .ref mmv])), (mtp, .inl (c_tp, 1200, .inl w_tp)), (mfr, .inl (c_fr, 1875, .inl f_325)), (mwt, .inl (c_wt, 78, .inl f_326))] := hD
    have hl : lv_has ls 1 [(0, .ref o0)] := hl
    refine lv_aload_n hx hb dX10_readLine_98 rfl (lv_at hl 0 rfl) ?_
    refine vp_callSi (W.runV (As := []) (rest := []) ⟨hx, hb, hml, hown, hts⟩ (kX10_good l dC dI o0 x_th mwo mim mhi mlu mtp x_td mfv x_sz y_316 y_317 y_318 y_319 y_320 y_321 mfr mwt y_322 y_323 y_324 mfg mpl x_dr mtm mfa mqu mmo mwy mwn mma mwi mnu mmv b_x_sz b_y_316 b_y_317 b_y_318 b_y_320) (cwV 0 hts gX10_readLine__X10_good_V137 rfl rfl rfl hd_yX10_good ⟨lel 1 10 rfl, lel 20 216 rfl⟩) ⟨pw_fb, rcv_X10 hK hP (q0 := 0) rfl, (pw_use hP hK hN [0] rfl [] rfl)⟩ rfl rfl hl.1 rfl (lv_room (Nat.le_of_ble_eq_true rfl)) dX10_readLine_99 ⟨lel 0 0 rfl, lel 0 0 rfl⟩) (fun r_327 h_r_327 => ?_)
    obtain ⟨b_r_327, nz_r_327, zz_r_327⟩ := h_r_327
    have b_r_327 : (0 : Int) ≤ r_327.toInt ∧ r_327.toInt ≤ 1 := b_r_327
    refine cutW (σ := Int32 × Int32) (pc2 := 118) (st2 := fun v => []) (cells2 := 0) (slots2 := 0) (fun v H locs ls => ((0 : Int) ≤ v.1.toInt ∧ v.1.toInt ≤ 3) ∧ (v.1.toInt = 0 → BI f_325 y_317 ∧ HDR f_325) ∧ (v.1.toInt = 0 → x_fr.toInt < y_317.toInt) ∧ va_P (dC, dI) vwCl [(o0, .inr (8, [.int x_th, .ref mwo, .ref mim, .ref mhi, .ref mlu, .ref mtp, .int x_td, .ref mfv, .int x_sz, .int y_316, .int y_317, .int y_318, .int y_319, .int v.1, .int v.2, .ref mfr, .ref mwt, .int y_322, .int y_323, .int y_324, .ref mfg, .ref mpl, .long x_dr, .ref mtm, .ref mfa, .ref mqu, .ref mmo, .ref mwy, .ref mwn, .ref mma, .ref mwi, .ref mnu, .ref mmv])), (mtp, .inl (c_tp, 1200, .inl w_tp)), (mfr, .inl (c_fr, 1875, .inl f_325)), (mwt, .inl (c_wt, 78, .inl f_326))] H ∧ va_D A [(o0, .inr (8, [.int x_th, .ref mwo, .ref mim, .ref mhi, .ref mlu, .ref mtp, .int x_td, .ref mfv, .int x_sz, .int y_316, .int y_317, .int y_318, .int y_319, .int v.1, .int v.2, .ref mfr, .ref mwt, .int y_322, .int y_323, .int y_324, .ref mfg, .ref mpl, .long x_dr, .ref mtm, .ref mfa, .ref mqu, .ref mmo, .ref mwy, .ref mwn, .ref mma, .ref mwi, .ref mnu, .ref mmv])), (mtp, .inl (c_tp, 1200, .inl w_tp)), (mfr, .inl (c_fr, 1875, .inl f_325)), (mwt, .inl (c_wt, 78, .inl f_326))] ∧ va_S A s.heap H locs ∧ lv_has ls 1 [(0, .ref o0)]) (fun v H locs ls hI => ?_) (fun hj_118_338 => ?_)
    ·
      obtain ⟨y_337, y_338⟩ := v
      obtain ⟨b_y_337, hb98, hp98, hP, hD, hS, hl⟩ := hI
      have b_y_337 : (0 : Int) ≤ y_337.toInt ∧ y_337.toInt ≤ 3 := b_y_337
      have hb98 : y_337.toInt = 0 → BI f_325 y_317 ∧ HDR f_325 := hb98
      have hp98 : y_337.toInt = 0 → x_fr.toInt < y_317.toInt := hp98
      have hP : va_P (dC, dI) vwCl [(o0, .inr (8, [.int x_th, .ref mwo, .ref mim, .ref mhi, .ref mlu, .ref mtp, .int x_td, .ref mfv, .int x_sz, .int y_316, .int y_317, .int y_318, .int y_319, .int y_337, .int y_338, .ref mfr, .ref mwt, .int y_322, .int y_323, .int y_324, .ref mfg, .ref mpl, .long x_dr, .ref mtm, .ref mfa, .ref mqu, .ref mmo, .ref mwy, .ref mwn, .ref mma, .ref mwi, .ref mnu, .ref mmv])), (mtp, .inl (c_tp, 1200, .inl w_tp)), (mfr, .inl (c_fr, 1875, .inl f_325)), (mwt, .inl (c_wt, 78, .inl f_326))] H := hP
      have hD : va_D A [(o0, .inr (8, [.int x_th, .ref mwo, .ref mim, .ref mhi, .ref mlu, .ref mtp, .int x_td, .ref mfv, .int x_sz, .int y_316, .int y_317, .int y_318, .int y_319, .int y_337, .int y_338, .ref mfr, .ref mwt, .int y_322, .int y_323, .int y_324, .ref mfg, .ref mpl, .long x_dr, .ref mtm, .ref mfa, .ref mqu, .ref mmo, .ref mwy, .ref mwn, .ref mma, .ref mwi, .ref mnu, .ref mmv])), (mtp, .inl (c_tp, 1200, .inl w_tp)), (mfr, .inl (c_fr, 1875, .inl f_325)), (mwt, .inl (c_wt, 78, .inl f_326))] := hD
      have hl : lv_has ls 1 [(0, .ref o0)] := hl
      refine lv_aload_n hx hb dX10_readLine_118 rfl (lv_at hl 0 rfl) ?_
      refine vp_callSi (W.runV (As := []) (rest := []) ⟨hx, hb, hml, hown, hts⟩ (kX10_good l dC dI o0 x_th mwo mim mhi mlu mtp x_td mfv x_sz y_316 y_317 y_318 y_319 y_337 y_338 mfr mwt y_322 y_323 y_324 mfg mpl x_dr mtm mfa mqu mmo mwy mwn mma mwi mnu mmv b_x_sz b_y_316 b_y_317 b_y_318 b_y_337) (cwV 0 hts gX10_readLine__X10_good_V137 rfl rfl rfl hd_yX10_good ⟨lel 1 10 rfl, lel 20 216 rfl⟩) ⟨pw_fb, rcv_X10 hK hP (q0 := 0) rfl, (pw_use hP hK hN [0] rfl [] rfl)⟩ rfl rfl hl.1 rfl (lv_room (Nat.le_of_ble_eq_true rfl)) dX10_readLine_119 ⟨lel 0 0 rfl, lel 0 0 rfl⟩) (fun r_339 h_r_339 => ?_)
      obtain ⟨b_r_339, nz_r_339, zz_r_339⟩ := h_r_339
      have b_r_339 : (0 : Int) ≤ r_339.toInt ∧ r_339.toInt ≤ 1 := b_r_339
      refine cutW (σ := Int32 × Int32 × Int32 × Int32) (pc2 := 129) (st2 := fun v => []) (cells2 := 0) (slots2 := 0) (fun v H locs ls => ((0 : Int) ≤ v.1.toInt ∧ v.1.toInt ≤ 1200) ∧ ((0 : Int) ≤ v.2.1.toInt ∧ v.2.1.toInt ≤ 1200) ∧ ((0 : Int) ≤ v.2.2.1.toInt ∧ v.2.2.1.toInt ≤ 6) ∧ (y_337.toInt = 0 → BI f_325 v.2.1 ∧ HDR f_325) ∧ (y_337.toInt = 0 → x_fr.toInt < v.2.1.toInt) ∧ (v.2.1.toInt ≤ v.1.toInt ∧ v.1.toInt ≤ x_sz.toInt) ∧ (v.2.2.1.toInt ≠ 0 → v.2.1.toInt < v.1.toInt) ∧ (x_fr.toInt ≤ v.2.1.toInt) ∧ va_P (dC, dI) vwCl [(o0, .inr (8, [.int x_th, .ref mwo, .ref mim, .ref mhi, .ref mlu, .ref mtp, .int x_td, .ref mfv, .int x_sz, .int v.1, .int v.2.1, .int v.2.2.1, .int v.2.2.2, .int y_337, .int y_338, .ref mfr, .ref mwt, .int y_322, .int y_323, .int y_324, .ref mfg, .ref mpl, .long x_dr, .ref mtm, .ref mfa, .ref mqu, .ref mmo, .ref mwy, .ref mwn, .ref mma, .ref mwi, .ref mnu, .ref mmv])), (mtp, .inl (c_tp, 1200, .inl w_tp)), (mfr, .inl (c_fr, 1875, .inl f_325)), (mwt, .inl (c_wt, 78, .inl f_326))] H ∧ va_D A [(o0, .inr (8, [.int x_th, .ref mwo, .ref mim, .ref mhi, .ref mlu, .ref mtp, .int x_td, .ref mfv, .int x_sz, .int v.1, .int v.2.1, .int v.2.2.1, .int v.2.2.2, .int y_337, .int y_338, .ref mfr, .ref mwt, .int y_322, .int y_323, .int y_324, .ref mfg, .ref mpl, .long x_dr, .ref mtm, .ref mfa, .ref mqu, .ref mmo, .ref mwy, .ref mwn, .ref mma, .ref mwi, .ref mnu, .ref mmv])), (mtp, .inl (c_tp, 1200, .inl w_tp)), (mfr, .inl (c_fr, 1875, .inl f_325)), (mwt, .inl (c_wt, 78, .inl f_326))] ∧ va_S A s.heap H locs ∧ lv_has ls 1 [(0, .ref o0)]) (fun v H locs ls hI => ?_) (fun hj_129_355 => ?_)
      ·
        obtain ⟨y_352, y_353, y_354, y_355⟩ := v
        obtain ⟨b_y_352, b_y_353, b_y_354, hb98, hp98, hpf, htk0, hfr, hP, hD, hS, hl⟩ := hI
        have b_y_352 : (0 : Int) ≤ y_352.toInt ∧ y_352.toInt ≤ 1200 := b_y_352
        have b_y_353 : (0 : Int) ≤ y_353.toInt ∧ y_353.toInt ≤ 1200 := b_y_353
        have b_y_354 : (0 : Int) ≤ y_354.toInt ∧ y_354.toInt ≤ 6 := b_y_354
        have hb98 : y_337.toInt = 0 → BI f_325 y_353 ∧ HDR f_325 := hb98
        have hp98 : y_337.toInt = 0 → x_fr.toInt < y_353.toInt := hp98
        have hpf : y_353.toInt ≤ y_352.toInt ∧ y_352.toInt ≤ x_sz.toInt := hpf
        have htk0 : y_354.toInt ≠ 0 → y_353.toInt < y_352.toInt := htk0
        have hfr : x_fr.toInt ≤ y_353.toInt := hfr
        have hP : va_P (dC, dI) vwCl [(o0, .inr (8, [.int x_th, .ref mwo, .ref mim, .ref mhi, .ref mlu, .ref mtp, .int x_td, .ref mfv, .int x_sz, .int y_352, .int y_353, .int y_354, .int y_355, .int y_337, .int y_338, .ref mfr, .ref mwt, .int y_322, .int y_323, .int y_324, .ref mfg, .ref mpl, .long x_dr, .ref mtm, .ref mfa, .ref mqu, .ref mmo, .ref mwy, .ref mwn, .ref mma, .ref mwi, .ref mnu, .ref mmv])), (mtp, .inl (c_tp, 1200, .inl w_tp)), (mfr, .inl (c_fr, 1875, .inl f_325)), (mwt, .inl (c_wt, 78, .inl f_326))] H := hP
        have hD : va_D A [(o0, .inr (8, [.int x_th, .ref mwo, .ref mim, .ref mhi, .ref mlu, .ref mtp, .int x_td, .ref mfv, .int x_sz, .int y_352, .int y_353, .int y_354, .int y_355, .int y_337, .int y_338, .ref mfr, .ref mwt, .int y_322, .int y_323, .int y_324, .ref mfg, .ref mpl, .long x_dr, .ref mtm, .ref mfa, .ref mqu, .ref mmo, .ref mwy, .ref mwn, .ref mma, .ref mwi, .ref mnu, .ref mmv])), (mtp, .inl (c_tp, 1200, .inl w_tp)), (mfr, .inl (c_fr, 1875, .inl f_325)), (mwt, .inl (c_wt, 78, .inl f_326))] := hD
        have hl : lv_has ls 1 [(0, .ref o0)] := hl
        refine lv_aload_n hx hb dX10_readLine_129 rfl (lv_at hl 0 rfl) ?_
        refine va_get (D := (dC, dI)) (ci := 8) (v := .ref mfr) (C := RX10) (T := TX10) (N := 33) hx hb hts iX10_readLine_X10 hown hK hP 0 rfl rfl 15 (by decide) (hts (.fieldLink RX10 34 "LuckyTicketModel" "fresh" "[I") (List.mem_of_getElem? (i := 1) rfl)) (fun _ h9 => h9) rfl dX10_readLine_130 ?_
        refine lv_iconst (v := 4) hx hb dX10_readLine_133 (by decide) ?_
        refine lv_dup2_11 hx hb dX10_readLine_134 rfl rfl ?_
        refine va_iald hx hb hK hP 2 1 rfl rfl (vp_in_b (by decide : (4 : Int) ≤ (4 : Int32).toInt ∧ (4 : Int32).toInt ≤ 4) (by decide) (by decide)) dX10_readLine_135 ?_
        refine lv_topi (fun z_356 e_z_356 => ?_)
        refine lv_iconst (v := 1) hx hb dX10_readLine_136 (by decide) ?_
        refine lv_iadd hx hb dX10_readLine_137 ?_
        refine lv_topi (fun z_357 e_z_357 => ?_)
        refine va_iast hx hb hK hP hD hS 2 1 rfl rfl (vp_in_b (by decide : (4 : Int) ≤ (4 : Int32).toInt ∧ (4 : Int32).toInt ≤ 4) (by decide) (by decide)) dX10_readLine_138 (fun H locs hP hD hS => ?_)
        have hP : va_P (dC, dI) vwCl [(o0, .inr (8, [.int x_th, .ref mwo, .ref mim, .ref mhi, .ref mlu, .ref mtp, .int x_td, .ref mfv, .int x_sz, .int y_352, .int y_353, .int y_354, .int y_355, .int y_337, .int y_338, .ref mfr, .ref mwt, .int y_322, .int y_323, .int y_324, .ref mfg, .ref mpl, .long x_dr, .ref mtm, .ref mfa, .ref mqu, .ref mmo, .ref mwy, .ref mwn, .ref mma, .ref mwi, .ref mnu, .ref mmv])), (mtp, .inl (c_tp, 1200, .inl w_tp)), (mfr, .inl (c_fr, 1875, .inl (upd f_325 (4 : Int32).toNatClampNeg z_357))), (mwt, .inl (c_wt, 78, .inl f_326))] H := hP
        have hD : va_D A [(o0, .inr (8, [.int x_th, .ref mwo, .ref mim, .ref mhi, .ref mlu, .ref mtp, .int x_td, .ref mfv, .int x_sz, .int y_352, .int y_353, .int y_354, .int y_355, .int y_337, .int y_338, .ref mfr, .ref mwt, .int y_322, .int y_323, .int y_324, .ref mfg, .ref mpl, .long x_dr, .ref mtm, .ref mfa, .ref mqu, .ref mmo, .ref mwy, .ref mwn, .ref mma, .ref mwi, .ref mnu, .ref mmv])), (mtp, .inl (c_tp, 1200, .inl w_tp)), (mfr, .inl (c_fr, 1875, .inl (upd f_325 (4 : Int32).toNatClampNeg z_357))), (mwt, .inl (c_wt, 78, .inl f_326))] := hD
        generalize ef_f_358 : (upd f_325 (4 : Int32).toNatClampNeg z_357) = f_358 at hP hD
        have hP : va_P (dC, dI) vwCl [(o0, .inr (8, [.int x_th, .ref mwo, .ref mim, .ref mhi, .ref mlu, .ref mtp, .int x_td, .ref mfv, .int x_sz, .int y_352, .int y_353, .int y_354, .int y_355, .int y_337, .int y_338, .ref mfr, .ref mwt, .int y_322, .int y_323, .int y_324, .ref mfg, .ref mpl, .long x_dr, .ref mtm, .ref mfa, .ref mqu, .ref mmo, .ref mwy, .ref mwn, .ref mma, .ref mwi, .ref mnu, .ref mmv])), (mtp, .inl (c_tp, 1200, .inl w_tp)), (mfr, .inl (c_fr, 1875, .inl f_358)), (mwt, .inl (c_wt, 78, .inl f_326))] H := hP
        have hD : va_D A [(o0, .inr (8, [.int x_th, .ref mwo, .ref mim, .ref mhi, .ref mlu, .ref mtp, .int x_td, .ref mfv, .int x_sz, .int y_352, .int y_353, .int y_354, .int y_355, .int y_337, .int y_338, .ref mfr, .ref mwt, .int y_322, .int y_323, .int y_324, .ref mfg, .ref mpl, .long x_dr, .ref mtm, .ref mfa, .ref mqu, .ref mmo, .ref mwy, .ref mwn, .ref mma, .ref mwi, .ref mnu, .ref mmv])), (mtp, .inl (c_tp, 1200, .inl w_tp)), (mfr, .inl (c_fr, 1875, .inl f_358)), (mwt, .inl (c_wt, 78, .inl f_326))] := hD
        have hP9 := hP.sub (ws' := [(o0, .inr (8, [.int x_th, .ref mwo, .ref mim, .ref mhi, .ref mlu, .ref mtp, .int x_td, .ref mfv, .int x_sz, .int y_352, .int y_353, .int y_354, .int y_355, .int y_337, .int y_338, .ref mfr, .ref mwt, .int y_322, .int y_323, .int y_324, .ref mfg, .ref mpl, .long x_dr, .ref mtm, .ref mfa, .ref mqu, .ref mmo, .ref mwy, .ref mwn, .ref mma, .ref mwi, .ref mnu, .ref mmv])), (mtp, .inl (c_tp, 1200, .inl w_tp)), (mfr, .inl (c_fr, 1875, .inl f_358)), (mwt, .inl (c_wt, 78, .inl f_326))]) [0, 1, 2, 3] rfl
        have hD9 := hD.sub (ws' := [(o0, .inr (8, [.int x_th, .ref mwo, .ref mim, .ref mhi, .ref mlu, .ref mtp, .int x_td, .ref mfv, .int x_sz, .int y_352, .int y_353, .int y_354, .int y_355, .int y_337, .int y_338, .ref mfr, .ref mwt, .int y_322, .int y_323, .int y_324, .ref mfg, .ref mpl, .long x_dr, .ref mtm, .ref mfa, .ref mqu, .ref mmo, .ref mwy, .ref mwn, .ref mma, .ref mwi, .ref mnu, .ref mmv])), (mtp, .inl (c_tp, 1200, .inl w_tp)), (mfr, .inl (c_fr, 1875, .inl f_358)), (mwt, .inl (c_wt, 78, .inl f_326))]) [0, 1, 2, 3] (by decide) rfl
        have hK9 := hK.sub (tys' := [(c_tp, .byte), (c_fr, .int), (c_wt, .int)]) [0, 1, 2] rfl
        exact W.vret hx hb hr (fun t ht hW => ⟨⟨(), rfl, trivial, y_352, y_353, y_354, y_355, y_337, y_338, y_322, y_323, y_324, f_358, f_326, b_y_352, b_y_353, b_y_354, b_y_337, (by omega), (by omega), (by omega), (fun h9 => ((hb98 (by omega)).1.pos (by omega)).four (hb98 (by omega)).2 ef_f_358), (by omega), by rw [ht]; exact hP9, va_K.moved hW.alike hK9, hD9⟩, hS.F ht⟩) hS.2.2 dX10_readLine_139
      ·
        refine lv_if_eq (tgt := 129) hx hb dX10_readLine_122 (by decide) (fun c_340 => ?_) (fun c_340 => ?_)
        ·
          have n_c_340 : (r_339.toInt : Int) = 0 := c_eq rfl (by decide) c_340
          have b_r_339 : (0 : Int) ≤ r_339.toInt ∧ r_339.toInt ≤ 0 := r_eq1 b_r_339 (by decide : (0 : Int) ≤ (0 : Int32).toInt ∧ (0 : Int32).toInt ≤ 0) n_c_340 (by decide)
          have g_359 := zz_r_339 c_340
          exact hj_129_355 (y_316, y_317, y_318, y_319) _ _ _ ⟨(show (0 : Int) ≤ y_316.toInt ∧ y_316.toInt ≤ 1200 from b_y_316), (show (0 : Int) ≤ y_317.toInt ∧ y_317.toInt ≤ 1200 from b_y_317), (show (0 : Int) ≤ y_318.toInt ∧ y_318.toInt ≤ 6 from b_y_318), (show y_337.toInt = 0 → BI f_325 y_317 ∧ HDR f_325 from (fun h9 => ⟨(hb98 (by omega)).1.pos (by omega), (hb98 (by omega)).2⟩)), (show y_337.toInt = 0 → x_fr.toInt < y_317.toInt from (by omega)), (show y_317.toInt ≤ y_316.toInt ∧ y_316.toInt ≤ x_sz.toInt from (by omega)), (show y_318.toInt ≠ 0 → y_317.toInt < y_316.toInt from (by omega)), (show x_fr.toInt ≤ y_317.toInt from (by omega)), hP, hD, hS, lv_sub hl [0] rfl⟩
        ·
          have n_c_340 : (r_339.toInt : Int) ≠ 0 := c_ne rfl (by decide) c_340
          have b_r_339 : (1 : Int) ≤ r_339.toInt ∧ r_339.toInt ≤ 1 := r_ne1 b_r_339 (by decide : (0 : Int) ≤ (0 : Int32).toInt ∧ (0 : Int32).toInt ≤ 0) n_c_340 (by decide)
          have g_360 := nz_r_339 c_340
          refine lv_aload_n hx hb dX10_readLine_125 rfl (lv_at hl 0 rfl) ?_
          have hFc := va_free (wc := [(o0, .inr (8, [.int x_th, .ref mwo, .ref mim, .ref mhi, .ref mlu, .ref mtp, .int x_td, .ref mfv, .int x_sz, .int y_316, .int y_317, .int y_318, .int y_319, .int y_337, .int y_338, .ref mfr, .ref mwt, .int y_322, .int y_323, .int y_324, .ref mfg, .ref mpl, .long x_dr, .ref mtm, .ref mfa, .ref mqu, .ref mmo, .ref mwy, .ref mwn, .ref mma, .ref mwi, .ref mnu, .ref mmv])), (mtp, .inl (c_tp, 1200, .inl w_tp))]) hD hS hA [0, 1] rfl
          refine va_callv (va_runV (As := []) (rest := []) ⟨hx, hb, hml, hown, hts⟩ (kX10_advance l dC dI o0 x_th mwo mim mhi mlu mtp x_td mfv x_sz y_316 y_317 y_318 y_319 y_337 y_338 mfr mwt y_322 y_323 y_324 mfg mpl x_dr mtm mfa mqu mmo mwy mwn mma mwi mnu mmv c_tp w_tp (H.size) b_x_sz b_y_316 b_y_317 b_y_318 b_y_337 (by omega)) (cwV 0 hts gX10_readLine__X10_advance_V155 rfl rfl rfl hd_yX10_advance ⟨lel 2 10 rfl, lel 46 216 rfl⟩) ⟨hw_fb, rcv_X10 hK hP (q0 := 0) rfl, (hw_use hP hD hK hN [0, 1] rfl (by decide) rfl [0] rfl)⟩ rfl rfl hl.1 rfl (lv_room (Nat.le_of_ble_eq_true rfl)) dX10_readLine_126 ⟨lel 0 0 rfl, lel 0 0 rfl⟩) hS (fun q _ h => hFc q h) hFc (fun u_362 t H1 locs ht hvm hw_r_361 hB hz1 hk1 hS => ?_)
          obtain ⟨o0_363, o1_364, o2_365, o3_366, b_o0_363, b_o1_364, b_o2_365, hf_367, hf_368, hf_369, hP1, hK1, hD1⟩ := hB
          rw [ht] at hP1
          have hK1 := va_K.moved hvm.symm hK1
          obtain ⟨hP, hD⟩ := va_join (wr := [(mfr, .inl (c_fr, 1875, .inl f_325)), (mwt, .inl (c_wt, 78, .inl f_326))]) (w1 := [(o0, .inr (8, [.int x_th, .ref mwo, .ref mim, .ref mhi, .ref mlu, .ref mtp, .int x_td, .ref mfv, .int x_sz, .int o0_363, .int o1_364, .int o2_365, .int o3_366, .int y_337, .int y_338, .ref mfr, .ref mwt, .int y_322, .int y_323, .int y_324, .ref mfg, .ref mpl, .long x_dr, .ref mtm, .ref mfa, .ref mqu, .ref mmo, .ref mwy, .ref mwn, .ref mma, .ref mwi, .ref mnu, .ref mmv])), (mtp, .inl (c_tp, 1200, .inl w_tp))]) hP hD [0, 1] [2, 3] rfl rfl (by decide) (by decide) hk1 hFc hP1 hD1
          have hK := (hK.sub (tys' := [(c_fr, .int), (c_wt, .int)]) [1, 2] rfl).app hK1
          generalize H1 = H at hP hS ⊢
          have hP := hP.sub (ws' := [(o0, .inr (8, [.int x_th, .ref mwo, .ref mim, .ref mhi, .ref mlu, .ref mtp, .int x_td, .ref mfv, .int x_sz, .int o0_363, .int o1_364, .int o2_365, .int o3_366, .int y_337, .int y_338, .ref mfr, .ref mwt, .int y_322, .int y_323, .int y_324, .ref mfg, .ref mpl, .long x_dr, .ref mtm, .ref mfa, .ref mqu, .ref mmo, .ref mwy, .ref mwn, .ref mma, .ref mwi, .ref mnu, .ref mmv])), (mtp, .inl (c_tp, 1200, .inl w_tp)), (mfr, .inl (c_fr, 1875, .inl f_325)), (mwt, .inl (c_wt, 78, .inl f_326))]) [2, 3, 0, 1] rfl
          have hD := hD.sub (ws' := [(o0, .inr (8, [.int x_th, .ref mwo, .ref mim, .ref mhi, .ref mlu, .ref mtp, .int x_td, .ref mfv, .int x_sz, .int o0_363, .int o1_364, .int o2_365, .int o3_366, .int y_337, .int y_338, .ref mfr, .ref mwt, .int y_322, .int y_323, .int y_324, .ref mfg, .ref mpl, .long x_dr, .ref mtm, .ref mfa, .ref mqu, .ref mmo, .ref mwy, .ref mwn, .ref mma, .ref mwi, .ref mnu, .ref mmv])), (mtp, .inl (c_tp, 1200, .inl w_tp)), (mfr, .inl (c_fr, 1875, .inl f_325)), (mwt, .inl (c_wt, 78, .inl f_326))]) [2, 3, 0, 1] (by decide) rfl
          have hK := hK.sub (tys' := [(c_tp, .byte), (c_fr, .int), (c_wt, .int)]) [2, 0, 1] rfl
          have hP : va_P (dC, dI) vwCl [(o0, .inr (8, [.int x_th, .ref mwo, .ref mim, .ref mhi, .ref mlu, .ref mtp, .int x_td, .ref mfv, .int x_sz, .int o0_363, .int o1_364, .int o2_365, .int o3_366, .int y_337, .int y_338, .ref mfr, .ref mwt, .int y_322, .int y_323, .int y_324, .ref mfg, .ref mpl, .long x_dr, .ref mtm, .ref mfa, .ref mqu, .ref mmo, .ref mwy, .ref mwn, .ref mma, .ref mwi, .ref mnu, .ref mmv])), (mtp, .inl (c_tp, 1200, .inl w_tp)), (mfr, .inl (c_fr, 1875, .inl f_325)), (mwt, .inl (c_wt, 78, .inl f_326))] H := hP
          have hD : va_D A [(o0, .inr (8, [.int x_th, .ref mwo, .ref mim, .ref mhi, .ref mlu, .ref mtp, .int x_td, .ref mfv, .int x_sz, .int o0_363, .int o1_364, .int o2_365, .int o3_366, .int y_337, .int y_338, .ref mfr, .ref mwt, .int y_322, .int y_323, .int y_324, .ref mfg, .ref mpl, .long x_dr, .ref mtm, .ref mfa, .ref mqu, .ref mmo, .ref mwy, .ref mwn, .ref mma, .ref mwi, .ref mnu, .ref mmv])), (mtp, .inl (c_tp, 1200, .inl w_tp)), (mfr, .inl (c_fr, 1875, .inl f_325)), (mwt, .inl (c_wt, 78, .inl f_326))] := hD
          have hK : va_K (dC, dI) vwCl [(c_tp, .byte), (c_fr, .int), (c_wt, .int)] s := hK
          exact hj_129_355 (o0_363, o1_364, o2_365, o3_366) _ _ _ ⟨(show (0 : Int) ≤ o0_363.toInt ∧ o0_363.toInt ≤ 1200 from b_o0_363), (show (0 : Int) ≤ o1_364.toInt ∧ o1_364.toInt ≤ 1200 from b_o1_364), (show (0 : Int) ≤ o2_365.toInt ∧ o2_365.toInt ≤ 6 from b_o2_365), (show y_337.toInt = 0 → BI f_325 o1_364 ∧ HDR f_325 from (fun h9 => ⟨(hb98 (by omega)).1.pos (by omega), (hb98 (by omega)).2⟩)), (show y_337.toInt = 0 → x_fr.toInt < o1_364.toInt from (by omega)), (show o1_364.toInt ≤ o0_363.toInt ∧ o0_363.toInt ≤ x_sz.toInt from (by omega)), (show o2_365.toInt ≠ 0 → o1_364.toInt < o0_363.toInt from (by omega)), (show x_fr.toInt ≤ o1_364.toInt from (by omega)), hP, hD, hS, lv_sub hl [0] rfl⟩
    ·
      refine lv_if_eq (tgt := 118) hx hb dX10_readLine_102 (by decide) (fun c_328 => ?_) (fun c_328 => ?_)
      ·
        have n_c_328 : (r_327.toInt : Int) = 0 := c_eq rfl (by decide) c_328
        have b_r_327 : (0 : Int) ≤ r_327.toInt ∧ r_327.toInt ≤ 0 := r_eq1 b_r_327 (by decide : (0 : Int) ≤ (0 : Int32).toInt ∧ (0 : Int32).toInt ≤ 0) n_c_328 (by decide)
        have g_370 := zz_r_327 c_328
        exact hj_118_338 (y_320, y_321) _ _ _ ⟨(show (0 : Int) ≤ y_320.toInt ∧ y_320.toInt ≤ 3 from b_y_320), (show y_320.toInt = 0 → BI f_325 y_317 ∧ HDR f_325 from (fun h9 => by first | exact hb98 h9 | exact absurd h9 (by omega))), (show y_320.toInt = 0 → x_fr.toInt < y_317.toInt from (by omega)), hP, hD, hS, lv_sub hl [0] rfl⟩
      ·
        have n_c_328 : (r_327.toInt : Int) ≠ 0 := c_ne rfl (by decide) c_328
        have b_r_327 : (1 : Int) ≤ r_327.toInt ∧ r_327.toInt ≤ 1 := r_ne1 b_r_327 (by decide : (0 : Int) ≤ (0 : Int32).toInt ∧ (0 : Int32).toInt ≤ 0) n_c_328 (by decide)
        have g_371 := nz_r_327 c_328
        refine lv_aload_n hx hb dX10_readLine_105 rfl (lv_at hl 0 rfl) ?_
        refine va_get (D := (dC, dI)) (ci := 8) (v := .int y_318) (C := RX10) (T := TX10) (N := 33) hx hb hts iX10_readLine_X10 hown hK hP 0 rfl rfl 11 (by decide) (hts (.fieldLink RX10 113 "LuckyTicketModel" "token" "I") (List.mem_of_getElem? (i := 21) rfl)) (fun _ h9 => h9) rfl dX10_readLine_106 ?_
        refine lv_iconst (v := 3) hx hb dX10_readLine_109 (by decide) ?_
        refine lv_icmp_eq (tgt := 118) hx hb dX10_readLine_110 (by decide) (fun c_372 => ?_) (fun c_372 => ?_)
        ·
          have n_c_372 : (y_318.toInt : Int) = 3 := c_eq rfl (by decide) c_372
          have b_y_318 : (3 : Int) ≤ y_318.toInt ∧ y_318.toInt ≤ 3 := r_eq1 b_y_318 (by decide : (3 : Int) ≤ (3 : Int32).toInt ∧ (3 : Int32).toInt ≤ 3) n_c_372 (by decide)
          exact hj_118_338 (y_320, y_321) _ _ _ ⟨(show (0 : Int) ≤ y_320.toInt ∧ y_320.toInt ≤ 3 from b_y_320), (show y_320.toInt = 0 → BI f_325 y_317 ∧ HDR f_325 from (fun h9 => by first | exact hb98 h9 | exact absurd h9 (by omega))), (show y_320.toInt = 0 → x_fr.toInt < y_317.toInt from (by omega)), hP, hD, hS, lv_sub hl [0] rfl⟩
        ·
          have n_c_372 : (y_318.toInt : Int) ≠ 3 := c_ne rfl (by decide) c_372
          refine lv_aload_n hx hb dX10_readLine_113 rfl (lv_at hl 0 rfl) ?_
          refine lv_iconst (v := 1) hx hb dX10_readLine_114 (by decide) ?_
          have hFc := va_free (wc := [(o0, .inr (8, [.int x_th, .ref mwo, .ref mim, .ref mhi, .ref mlu, .ref mtp, .int x_td, .ref mfv, .int x_sz, .int y_316, .int y_317, .int y_318, .int y_319, .int y_320, .int y_321, .ref mfr, .ref mwt, .int y_322, .int y_323, .int y_324, .ref mfg, .ref mpl, .long x_dr, .ref mtm, .ref mfa, .ref mqu, .ref mmo, .ref mwy, .ref mwn, .ref mma, .ref mwi, .ref mnu, .ref mmv]))]) hD hS hA [0] rfl
          refine va_callv (va_runV (As := [.int 1]) (rest := []) ⟨hx, hb, hml, hown, hts⟩ (kX10_errs l dC dI o0 x_th mwo mim mhi mlu mtp x_td mfv x_sz y_316 y_317 y_318 y_319 y_320 y_321 mfr mwt y_322 y_323 y_324 mfg mpl x_dr mtm mfa mqu mmo mwy mwn mma mwi mnu mmv 1 (H.size) b_x_sz b_y_316 b_y_317 b_y_318 b_y_320 (rg_w (by decide : (1 : Int) ≤ (1 : Int32).toInt ∧ (1 : Int32).toInt ≤ 1) (by decide) (by decide))) (cwV 1 hts gX10_readLine__X10_errs_V161 rfl rfl rfl hd_yX10_errs ⟨lel 2 10 rfl, lel 41 216 rfl⟩) ⟨hw_fb, rcv_X10 hK hP (q0 := 0) rfl, (hw_use hP hD hK hN [0] rfl (by decide) rfl [] rfl)⟩ rfl rfl hl.1 rfl (lv_room (Nat.le_of_ble_eq_true rfl)) dX10_readLine_115 ⟨lel 0 0 rfl, lel 0 0 rfl⟩) hS (fun q _ h => hFc q h) hFc (fun u_374 t H1 locs ht hvm hw_r_373 hB hz1 hk1 hS => ?_)
          obtain ⟨o0_375, o1_376, b_o0_375, hf_377, hP1, hK1, hD1⟩ := hB
          rw [ht] at hP1
          have hK1 := va_K.moved hvm.symm hK1
          obtain ⟨hP, hD⟩ := va_join (wr := [(mtp, .inl (c_tp, 1200, .inl w_tp)), (mfr, .inl (c_fr, 1875, .inl f_325)), (mwt, .inl (c_wt, 78, .inl f_326))]) (w1 := [(o0, .inr (8, [.int x_th, .ref mwo, .ref mim, .ref mhi, .ref mlu, .ref mtp, .int x_td, .ref mfv, .int x_sz, .int y_316, .int y_317, .int y_318, .int y_319, .int o0_375, .int o1_376, .ref mfr, .ref mwt, .int y_322, .int y_323, .int y_324, .ref mfg, .ref mpl, .long x_dr, .ref mtm, .ref mfa, .ref mqu, .ref mmo, .ref mwy, .ref mwn, .ref mma, .ref mwi, .ref mnu, .ref mmv]))]) hP hD [0] [1, 2, 3] rfl rfl (by decide) (by decide) hk1 hFc hP1 hD1
          have hK := (hK.sub (tys' := [(c_tp, .byte), (c_fr, .int), (c_wt, .int)]) [0, 1, 2] rfl).app hK1
          generalize H1 = H at hP hS ⊢
          have hP := hP.sub (ws' := [(o0, .inr (8, [.int x_th, .ref mwo, .ref mim, .ref mhi, .ref mlu, .ref mtp, .int x_td, .ref mfv, .int x_sz, .int y_316, .int y_317, .int y_318, .int y_319, .int o0_375, .int o1_376, .ref mfr, .ref mwt, .int y_322, .int y_323, .int y_324, .ref mfg, .ref mpl, .long x_dr, .ref mtm, .ref mfa, .ref mqu, .ref mmo, .ref mwy, .ref mwn, .ref mma, .ref mwi, .ref mnu, .ref mmv])), (mtp, .inl (c_tp, 1200, .inl w_tp)), (mfr, .inl (c_fr, 1875, .inl f_325)), (mwt, .inl (c_wt, 78, .inl f_326))]) [3, 0, 1, 2] rfl
          have hD := hD.sub (ws' := [(o0, .inr (8, [.int x_th, .ref mwo, .ref mim, .ref mhi, .ref mlu, .ref mtp, .int x_td, .ref mfv, .int x_sz, .int y_316, .int y_317, .int y_318, .int y_319, .int o0_375, .int o1_376, .ref mfr, .ref mwt, .int y_322, .int y_323, .int y_324, .ref mfg, .ref mpl, .long x_dr, .ref mtm, .ref mfa, .ref mqu, .ref mmo, .ref mwy, .ref mwn, .ref mma, .ref mwi, .ref mnu, .ref mmv])), (mtp, .inl (c_tp, 1200, .inl w_tp)), (mfr, .inl (c_fr, 1875, .inl f_325)), (mwt, .inl (c_wt, 78, .inl f_326))]) [3, 0, 1, 2] (by decide) rfl
          have hP : va_P (dC, dI) vwCl [(o0, .inr (8, [.int x_th, .ref mwo, .ref mim, .ref mhi, .ref mlu, .ref mtp, .int x_td, .ref mfv, .int x_sz, .int y_316, .int y_317, .int y_318, .int y_319, .int o0_375, .int o1_376, .ref mfr, .ref mwt, .int y_322, .int y_323, .int y_324, .ref mfg, .ref mpl, .long x_dr, .ref mtm, .ref mfa, .ref mqu, .ref mmo, .ref mwy, .ref mwn, .ref mma, .ref mwi, .ref mnu, .ref mmv])), (mtp, .inl (c_tp, 1200, .inl w_tp)), (mfr, .inl (c_fr, 1875, .inl f_325)), (mwt, .inl (c_wt, 78, .inl f_326))] H := hP
          have hD : va_D A [(o0, .inr (8, [.int x_th, .ref mwo, .ref mim, .ref mhi, .ref mlu, .ref mtp, .int x_td, .ref mfv, .int x_sz, .int y_316, .int y_317, .int y_318, .int y_319, .int o0_375, .int o1_376, .ref mfr, .ref mwt, .int y_322, .int y_323, .int y_324, .ref mfg, .ref mpl, .long x_dr, .ref mtm, .ref mfa, .ref mqu, .ref mmo, .ref mwy, .ref mwn, .ref mma, .ref mwi, .ref mnu, .ref mmv])), (mtp, .inl (c_tp, 1200, .inl w_tp)), (mfr, .inl (c_fr, 1875, .inl f_325)), (mwt, .inl (c_wt, 78, .inl f_326))] := hD
          have hK : va_K (dC, dI) vwCl [(c_tp, .byte), (c_fr, .int), (c_wt, .int)] s := hK
          exact hj_118_338 (o0_375, o1_376) _ _ _ ⟨(show (0 : Int) ≤ o0_375.toInt ∧ o0_375.toInt ≤ 3 from b_o0_375), (show o0_375.toInt = 0 → BI f_325 y_317 ∧ HDR f_325 from (fun h9 => by first | exact hb98 h9 | exact absurd h9 (by omega))), (show o0_375.toInt = 0 → x_fr.toInt < y_317.toInt from (by omega)), hP, hD, hS, lv_sub hl [0] rfl⟩
  ·
    refine lv_if_ne (tgt := 16) hx hb dX10_readLine_6 (by decide) (fun c_232 => ?_) (fun c_232 => ?_)
    ·
      have n_c_232 : (z_231.toInt : Int) ≠ 0 := c_ne rfl (by decide) c_232
      have h4n : (w_fr 4).toInt ≠ 0 := by rw [← e4_]; omega
      refine lv_aload_n hx hb dX10_readLine_16 rfl (lv_at hl 0 rfl) ?_
      refine va_ldcwS hx hb hown hR_266 dX10_readLine_17 ?_
      refine vp_callSi (W.runV (As := [.ref tq_266]) (rest := []) ⟨hx, hb, hml, hown, hts⟩ (kX10_is l dC dI o0 x_th mwo mim mhi mlu mtp x_td mfv x_sz x_at x_fr x_to x_va x_fk x_fp mfr mwt x_wt x_op x_jo mfg mpl x_dr mtm mfa mqu mmo mwy mwn mma mwi mnu mmv c_tp w_tp tq_266 3 tf_266 n0 b_x_sz b_x_at b_x_fr b_x_to b_x_fk (by omega) (by omega) (by omega)) (cwV 1 hts gX10_readLine__X10_is_V151 rfl rfl rfl hd_yX10_is ⟨lel 5 10 rfl, lel 108 216 rfl⟩) ⟨px_fb, rcv_X10 hK hP (q0 := 0) rfl, (px_use hP hK hN hX (vs_up hS hAn) [0, 1] rfl [0] rfl (tts_1 ht_266) tbs_0)⟩ rfl rfl hl.1 rfl (lv_room (Nat.le_of_ble_eq_true rfl)) dX10_readLine_20 ⟨lel 0 0 rfl, lel 0 0 rfl⟩) (fun r_378 h_r_378 => ?_)
      obtain ⟨b_r_378, nz_r_378, zz_r_378⟩ := h_r_378
      have b_r_378 : (0 : Int) ≤ r_378.toInt ∧ r_378.toInt ≤ 1 := b_r_378
      refine cutW (σ := Int32 × Int32) (pc2 := 42) (st2 := fun v => []) (cells2 := 0) (slots2 := 0) (fun v H locs ls => ((0 : Int) ≤ v.1.toInt ∧ v.1.toInt ≤ 3) ∧ (v.1.toInt = 0 → WD w_tp x_to x_fr x_at 3 tf_266 → (w_fr 3).toInt ≠ 9) ∧ va_P (dC, dI) vwCl [(o0, .inr (8, [.int x_th, .ref mwo, .ref mim, .ref mhi, .ref mlu, .ref mtp, .int x_td, .ref mfv, .int x_sz, .int x_at, .int x_fr, .int x_to, .int x_va, .int v.1, .int v.2, .ref mfr, .ref mwt, .int x_wt, .int x_op, .int x_jo, .ref mfg, .ref mpl, .long x_dr, .ref mtm, .ref mfa, .ref mqu, .ref mmo, .ref mwy, .ref mwn, .ref mma, .ref mwi, .ref mnu, .ref mmv])), (mtp, .inl (c_tp, 1200, .inl w_tp)), (mfr, .inl (c_fr, 1875, .inl w_fr)), (mwt, .inl (c_wt, 78, .inl w_wt))] H ∧ va_D A [(o0, .inr (8, [.int x_th, .ref mwo, .ref mim, .ref mhi, .ref mlu, .ref mtp, .int x_td, .ref mfv, .int x_sz, .int x_at, .int x_fr, .int x_to, .int x_va, .int v.1, .int v.2, .ref mfr, .ref mwt, .int x_wt, .int x_op, .int x_jo, .ref mfg, .ref mpl, .long x_dr, .ref mtm, .ref mfa, .ref mqu, .ref mmo, .ref mwy, .ref mwn, .ref mma, .ref mwi, .ref mnu, .ref mmv])), (mtp, .inl (c_tp, 1200, .inl w_tp)), (mfr, .inl (c_fr, 1875, .inl w_fr)), (mwt, .inl (c_wt, 78, .inl w_wt))] ∧ va_S A s.heap H locs ∧ lv_has ls 1 [(0, .ref o0)]) (fun v H locs ls hI => ?_) (fun hj_42_390 => ?_)
      ·
        obtain ⟨y_389, y_390⟩ := v
        obtain ⟨b_y_389, hj42, hP, hD, hS, hl⟩ := hI
        have b_y_389 : (0 : Int) ≤ y_389.toInt ∧ y_389.toInt ≤ 3 := b_y_389
        have hj42 : y_389.toInt = 0 → WD w_tp x_to x_fr x_at 3 tf_266 → (w_fr 3).toInt ≠ 9 := hj42
        have hP : va_P (dC, dI) vwCl [(o0, .inr (8, [.int x_th, .ref mwo, .ref mim, .ref mhi, .ref mlu, .ref mtp, .int x_td, .ref mfv, .int x_sz, .int x_at, .int x_fr, .int x_to, .int x_va, .int y_389, .int y_390, .ref mfr, .ref mwt, .int x_wt, .int x_op, .int x_jo, .ref mfg, .ref mpl, .long x_dr, .ref mtm, .ref mfa, .ref mqu, .ref mmo, .ref mwy, .ref mwn, .ref mma, .ref mwi, .ref mnu, .ref mmv])), (mtp, .inl (c_tp, 1200, .inl w_tp)), (mfr, .inl (c_fr, 1875, .inl w_fr)), (mwt, .inl (c_wt, 78, .inl w_wt))] H := hP
        have hD : va_D A [(o0, .inr (8, [.int x_th, .ref mwo, .ref mim, .ref mhi, .ref mlu, .ref mtp, .int x_td, .ref mfv, .int x_sz, .int x_at, .int x_fr, .int x_to, .int x_va, .int y_389, .int y_390, .ref mfr, .ref mwt, .int x_wt, .int x_op, .int x_jo, .ref mfg, .ref mpl, .long x_dr, .ref mtm, .ref mfa, .ref mqu, .ref mmo, .ref mwy, .ref mwn, .ref mma, .ref mwi, .ref mnu, .ref mmv])), (mtp, .inl (c_tp, 1200, .inl w_tp)), (mfr, .inl (c_fr, 1875, .inl w_fr)), (mwt, .inl (c_wt, 78, .inl w_wt))] := hD
        have hl : lv_has ls 1 [(0, .ref o0)] := hl
        refine lv_aload_n hx hb dX10_readLine_42 rfl (lv_at hl 0 rfl) ?_
        refine va_ldcwS hx hb hown hR_266 dX10_readLine_43 ?_
        have hFc := va_free (wc := [(o0, .inr (8, [.int x_th, .ref mwo, .ref mim, .ref mhi, .ref mlu, .ref mtp, .int x_td, .ref mfv, .int x_sz, .int x_at, .int x_fr, .int x_to, .int x_va, .int y_389, .int y_390, .ref mfr, .ref mwt, .int x_wt, .int x_op, .int x_jo, .ref mfg, .ref mpl, .long x_dr, .ref mtm, .ref mfa, .ref mqu, .ref mmo, .ref mwy, .ref mwn, .ref mma, .ref mwi, .ref mnu, .ref mmv])), (mtp, .inl (c_tp, 1200, .inl w_tp))]) hD hS hA [0, 1] rfl
        refine va_callv (va_runV (As := [.ref tq_266]) (rest := []) ⟨hx, hb, hml, hown, hts⟩ (kX10_needs l dC dI o0 x_th mwo mim mhi mlu mtp x_td mfv x_sz x_at x_fr x_to x_va y_389 y_390 mfr mwt x_wt x_op x_jo mfg mpl x_dr mtm mfa mqu mmo mwy mwn mma mwi mnu mmv c_tp w_tp tq_266 3 tf_266 n0 (H.size) b_x_sz b_x_at b_x_fr b_x_to b_y_389 (by omega) (by omega) (by omega)) (cwV 1 hts gX10_readLine__X10_needs_V165 rfl rfl rfl hd_yX10_needs ⟨lel 7 10 rfl, lel 151 216 rfl⟩) ⟨hx_fb, rcv_X10 hK hP (q0 := 0) rfl, (hx_use hP hD hK hN hX hS hAn hn0 [0, 1] rfl (by decide) rfl [0] rfl (tts_1 ht_266))⟩ rfl rfl hl.1 rfl (lv_room (Nat.le_of_ble_eq_true rfl)) dX10_readLine_46 ⟨lel 0 0 rfl, lel 0 0 rfl⟩) hS (fun q _ h => hFc q h) hFc (fun u_392 t H1 locs ht hvm hw_r_391 hB hz1 hk1 hS => ?_)
        obtain ⟨o0_393, o1_394, o2_395, o3_396, o4_397, o5_398, b_o0_393, b_o1_394, b_o2_395, b_o4_397, hf_399, hf_400, hf_401, hf_402, hf_403, hP1, hK1, hD1⟩ := hB
        rw [ht] at hP1
        have hK1 := va_K.moved hvm.symm hK1
        obtain ⟨hP, hD⟩ := va_join (wr := [(mfr, .inl (c_fr, 1875, .inl w_fr)), (mwt, .inl (c_wt, 78, .inl w_wt))]) (w1 := [(o0, .inr (8, [.int x_th, .ref mwo, .ref mim, .ref mhi, .ref mlu, .ref mtp, .int x_td, .ref mfv, .int x_sz, .int o0_393, .int o1_394, .int o2_395, .int o3_396, .int o4_397, .int o5_398, .ref mfr, .ref mwt, .int x_wt, .int x_op, .int x_jo, .ref mfg, .ref mpl, .long x_dr, .ref mtm, .ref mfa, .ref mqu, .ref mmo, .ref mwy, .ref mwn, .ref mma, .ref mwi, .ref mnu, .ref mmv])), (mtp, .inl (c_tp, 1200, .inl w_tp))]) hP hD [0, 1] [2, 3] rfl rfl (by decide) (by decide) hk1 hFc hP1 hD1
        have hK := (hK.sub (tys' := [(c_fr, .int), (c_wt, .int)]) [1, 2] rfl).app hK1
        generalize H1 = H at hP hS ⊢
        have hP := hP.sub (ws' := [(o0, .inr (8, [.int x_th, .ref mwo, .ref mim, .ref mhi, .ref mlu, .ref mtp, .int x_td, .ref mfv, .int x_sz, .int o0_393, .int o1_394, .int o2_395, .int o3_396, .int o4_397, .int o5_398, .ref mfr, .ref mwt, .int x_wt, .int x_op, .int x_jo, .ref mfg, .ref mpl, .long x_dr, .ref mtm, .ref mfa, .ref mqu, .ref mmo, .ref mwy, .ref mwn, .ref mma, .ref mwi, .ref mnu, .ref mmv])), (mtp, .inl (c_tp, 1200, .inl w_tp)), (mfr, .inl (c_fr, 1875, .inl w_fr)), (mwt, .inl (c_wt, 78, .inl w_wt))]) [2, 3, 0, 1] rfl
        have hD := hD.sub (ws' := [(o0, .inr (8, [.int x_th, .ref mwo, .ref mim, .ref mhi, .ref mlu, .ref mtp, .int x_td, .ref mfv, .int x_sz, .int o0_393, .int o1_394, .int o2_395, .int o3_396, .int o4_397, .int o5_398, .ref mfr, .ref mwt, .int x_wt, .int x_op, .int x_jo, .ref mfg, .ref mpl, .long x_dr, .ref mtm, .ref mfa, .ref mqu, .ref mmo, .ref mwy, .ref mwn, .ref mma, .ref mwi, .ref mnu, .ref mmv])), (mtp, .inl (c_tp, 1200, .inl w_tp)), (mfr, .inl (c_fr, 1875, .inl w_fr)), (mwt, .inl (c_wt, 78, .inl w_wt))]) [2, 3, 0, 1] (by decide) rfl
        have hK := hK.sub (tys' := [(c_tp, .byte), (c_fr, .int), (c_wt, .int)]) [2, 0, 1] rfl
        have hP : va_P (dC, dI) vwCl [(o0, .inr (8, [.int x_th, .ref mwo, .ref mim, .ref mhi, .ref mlu, .ref mtp, .int x_td, .ref mfv, .int x_sz, .int o0_393, .int o1_394, .int o2_395, .int o3_396, .int o4_397, .int o5_398, .ref mfr, .ref mwt, .int x_wt, .int x_op, .int x_jo, .ref mfg, .ref mpl, .long x_dr, .ref mtm, .ref mfa, .ref mqu, .ref mmo, .ref mwy, .ref mwn, .ref mma, .ref mwi, .ref mnu, .ref mmv])), (mtp, .inl (c_tp, 1200, .inl w_tp)), (mfr, .inl (c_fr, 1875, .inl w_fr)), (mwt, .inl (c_wt, 78, .inl w_wt))] H := hP
        have hD : va_D A [(o0, .inr (8, [.int x_th, .ref mwo, .ref mim, .ref mhi, .ref mlu, .ref mtp, .int x_td, .ref mfv, .int x_sz, .int o0_393, .int o1_394, .int o2_395, .int o3_396, .int o4_397, .int o5_398, .ref mfr, .ref mwt, .int x_wt, .int x_op, .int x_jo, .ref mfg, .ref mpl, .long x_dr, .ref mtm, .ref mfa, .ref mqu, .ref mmo, .ref mwy, .ref mwn, .ref mma, .ref mwi, .ref mnu, .ref mmv])), (mtp, .inl (c_tp, 1200, .inl w_tp)), (mfr, .inl (c_fr, 1875, .inl w_fr)), (mwt, .inl (c_wt, 78, .inl w_wt))] := hD
        have hK : va_K (dC, dI) vwCl [(c_tp, .byte), (c_fr, .int), (c_wt, .int)] s := hK
        refine lv_aload_n hx hb dX10_readLine_49 rfl (lv_at hl 0 rfl) ?_
        refine vp_callSi (W.runV (As := []) (rest := []) ⟨hx, hb, hml, hown, hts⟩ (kX10_good l dC dI o0 x_th mwo mim mhi mlu mtp x_td mfv x_sz o0_393 o1_394 o2_395 o3_396 o4_397 o5_398 mfr mwt x_wt x_op x_jo mfg mpl x_dr mtm mfa mqu mmo mwy mwn mma mwi mnu mmv b_x_sz b_o0_393 b_o1_394 b_o2_395 b_o4_397) (cwV 0 hts gX10_readLine__X10_good_V137 rfl rfl rfl hd_yX10_good ⟨lel 1 10 rfl, lel 20 216 rfl⟩) ⟨pw_fb, rcv_X10 hK hP (q0 := 0) rfl, (pw_use hP hK hN [0] rfl [] rfl)⟩ rfl rfl hl.1 rfl (lv_room (Nat.le_of_ble_eq_true rfl)) dX10_readLine_50 ⟨lel 0 0 rfl, lel 0 0 rfl⟩) (fun r_404 h_r_404 => ?_)
        obtain ⟨b_r_404, nz_r_404, zz_r_404⟩ := h_r_404
        have b_r_404 : (0 : Int) ≤ r_404.toInt ∧ r_404.toInt ≤ 1 := b_r_404
        refine lv_if_eq (tgt := 98) hx hb dX10_readLine_53 (by decide) (fun c_405 => ?_) (fun c_405 => ?_)
        ·
          have n_c_405 : (r_404.toInt : Int) = 0 := c_eq rfl (by decide) c_405
          have b_r_404 : (0 : Int) ≤ r_404.toInt ∧ r_404.toInt ≤ 0 := r_eq1 b_r_404 (by decide : (0 : Int) ≤ (0 : Int32).toInt ∧ (0 : Int32).toInt ≤ 0) n_c_405 (by decide)
          have g_406 := zz_r_404 c_405
          exact hj_98_326 (o0_393, o1_394, o2_395, o3_396, o4_397, o5_398, x_wt, x_op, x_jo, w_fr, w_wt) _ _ _ ⟨(show (0 : Int) ≤ o0_393.toInt ∧ o0_393.toInt ≤ 1200 from b_o0_393), (show (0 : Int) ≤ o1_394.toInt ∧ o1_394.toInt ≤ 1200 from b_o1_394), (show (0 : Int) ≤ o2_395.toInt ∧ o2_395.toInt ≤ 6 from b_o2_395), (show (0 : Int) ≤ o4_397.toInt ∧ o4_397.toInt ≤ 3 from b_o4_397), (show o4_397.toInt = 0 → BI w_fr o1_394 ∧ HDR w_fr from (fun h9 => absurd h9 (by omega))), (show o4_397.toInt = 0 → x_fr.toInt < o1_394.toInt from (fun h9 => by first | omega | exact absurd h9 (by omega))), (show o1_394.toInt ≤ o0_393.toInt ∧ o0_393.toInt ≤ x_sz.toInt from (by omega)), (show o2_395.toInt ≠ 0 → o1_394.toInt < o0_393.toInt from (by omega)), (show x_fr.toInt ≤ o1_394.toInt from (by omega)), hP, hD, hS, lv_sub hl [0] rfl⟩
        ·
          have n_c_405 : (r_404.toInt : Int) ≠ 0 := c_ne rfl (by decide) c_405
          have b_r_404 : (1 : Int) ≤ r_404.toInt ∧ r_404.toInt ≤ 1 := r_ne1 b_r_404 (by decide : (0 : Int) ≤ (0 : Int32).toInt ∧ (0 : Int32).toInt ≤ 0) n_c_405 (by decide)
          have g_407 := nz_r_404 c_405
          have hl8 : (w_fr 3).toInt ≠ 9 := hj42 (by have q9 := (hf_403 (by omega)).1.1; omega) (hf_403 (by omega)).1.2
          refine lv_aload_n hx hb dX10_readLine_56 rfl (lv_at hl 0 rfl) ?_
          refine va_get (D := (dC, dI)) (ci := 8) (v := .ref mfr) (C := RX10) (T := TX10) (N := 33) hx hb hts iX10_readLine_X10 hown hK hP 0 rfl rfl 15 (by decide) (hts (.fieldLink RX10 34 "LuckyTicketModel" "fresh" "[I") (List.mem_of_getElem? (i := 1) rfl)) (fun _ h9 => h9) rfl dX10_readLine_57 ?_
          refine lv_iconst (v := 5) hx hb dX10_readLine_60 (by decide) ?_
          refine lv_aload_n hx hb dX10_readLine_61 rfl (lv_at hl 0 rfl) ?_
          refine va_get (D := (dC, dI)) (ci := 8) (v := .ref mfr) (C := RX10) (T := TX10) (N := 33) hx hb hts iX10_readLine_X10 hown hK hP 0 rfl rfl 15 (by decide) (hts (.fieldLink RX10 34 "LuckyTicketModel" "fresh" "[I") (List.mem_of_getElem? (i := 1) rfl)) (fun _ h9 => h9) rfl dX10_readLine_62 ?_
          refine lv_iconst (v := 3) hx hb dX10_readLine_65 (by decide) ?_
          refine va_iald hx hb hK hP 2 1 rfl rfl (vp_in_b (by decide : (3 : Int) ≤ (3 : Int32).toInt ∧ (3 : Int32).toInt ≤ 3) (by decide) (by decide)) dX10_readLine_66 ?_
          refine lv_topi (fun z_408 e_z_408 => ?_)
          have en_z_408 : z_408 = w_fr 3 := e_z_408
          have b_z_408 : (0 : Int) ≤ z_408.toInt ∧ z_408.toInt ≤ 8 := by rw [en_z_408]; have q9 := hbi.1; omega
          refine lv_iadd hx hb dX10_readLine_67 ?_
          refine lv_topi (fun z_409 e_z_409 => ?_)
          obtain ⟨q_z_409, b_z_409⟩ := ti_add (lo := 5) (hi := 13) e_z_409 (by decide : (5 : Int32).toInt = 5) rfl (by decide : (5 : Int) ≤ (5 : Int32).toInt ∧ (5 : Int32).toInt ≤ 5) b_z_408 (by decide)
          refine lv_iconst (v := 1) hx hb dX10_readLine_68 (by decide) ?_
          refine lv_iadd hx hb dX10_readLine_69 ?_
          refine lv_topi (fun z_410 e_z_410 => ?_)
          obtain ⟨q_z_410, b_z_410⟩ := ti_add (lo := 6) (hi := 14) e_z_410 rfl (by decide : (1 : Int32).toInt = 1) b_z_409 (by decide : (1 : Int) ≤ (1 : Int32).toInt ∧ (1 : Int32).toInt ≤ 1) (by decide)
          refine lv_aload_n hx hb dX10_readLine_70 rfl (lv_at hl 0 rfl) ?_
          refine va_get (D := (dC, dI)) (ci := 8) (v := .ref mfr) (C := RX10) (T := TX10) (N := 33) hx hb hts iX10_readLine_X10 hown hK hP 0 rfl rfl 15 (by decide) (hts (.fieldLink RX10 34 "LuckyTicketModel" "fresh" "[I") (List.mem_of_getElem? (i := 1) rfl)) (fun _ h9 => h9) rfl dX10_readLine_71 ?_
          refine lv_iconst (v := 5) hx hb dX10_readLine_74 (by decide) ?_
          refine lv_aload_n hx hb dX10_readLine_75 rfl (lv_at hl 0 rfl) ?_
          refine va_get (D := (dC, dI)) (ci := 8) (v := .ref mfr) (C := RX10) (T := TX10) (N := 33) hx hb hts iX10_readLine_X10 hown hK hP 0 rfl rfl 15 (by decide) (hts (.fieldLink RX10 34 "LuckyTicketModel" "fresh" "[I") (List.mem_of_getElem? (i := 1) rfl)) (fun _ h9 => h9) rfl dX10_readLine_76 ?_
          refine lv_iconst (v := 3) hx hb dX10_readLine_79 (by decide) ?_
          refine va_iald hx hb hK hP 2 1 rfl rfl (vp_in_b (by decide : (3 : Int) ≤ (3 : Int32).toInt ∧ (3 : Int32).toInt ≤ 3) (by decide) (by decide)) dX10_readLine_80 ?_
          refine lv_topi (fun z_411 e_z_411 => ?_)
          have en_z_411 : z_411 = w_fr 3 := e_z_411
          have b_z_411 : (0 : Int) ≤ z_411.toInt ∧ z_411.toInt ≤ 8 := by rw [en_z_411]; have q9 := hbi.1; omega
          have enn : z_411.toInt = z_408.toInt := by rw [en_z_411, en_z_408]
          refine lv_iadd hx hb dX10_readLine_81 ?_
          refine lv_topi (fun z_412 e_z_412 => ?_)
          obtain ⟨q_z_412, b_z_412⟩ := ti_add (lo := 5) (hi := 13) e_z_412 (by decide : (5 : Int32).toInt = 5) rfl (by decide : (5 : Int) ≤ (5 : Int32).toInt ∧ (5 : Int32).toInt ≤ 5) b_z_411 (by decide)
          refine va_iald hx hb hK hP 2 1 rfl rfl (vp_in_b b_z_412 (by decide) (by decide)) dX10_readLine_82 ?_
          refine lv_topi (fun z_413 e_z_413 => ?_)
          refine va_iast hx hb hK hP hD hS 2 1 rfl rfl (vp_in_b b_z_410 (by decide) (by decide)) dX10_readLine_83 (fun H locs hP hD hS => ?_)
          have hP : va_P (dC, dI) vwCl [(o0, .inr (8, [.int x_th, .ref mwo, .ref mim, .ref mhi, .ref mlu, .ref mtp, .int x_td, .ref mfv, .int x_sz, .int o0_393, .int o1_394, .int o2_395, .int o3_396, .int o4_397, .int o5_398, .ref mfr, .ref mwt, .int x_wt, .int x_op, .int x_jo, .ref mfg, .ref mpl, .long x_dr, .ref mtm, .ref mfa, .ref mqu, .ref mmo, .ref mwy, .ref mwn, .ref mma, .ref mwi, .ref mnu, .ref mmv])), (mtp, .inl (c_tp, 1200, .inl w_tp)), (mfr, .inl (c_fr, 1875, .inl (upd w_fr (z_410 : Int32).toNatClampNeg z_413))), (mwt, .inl (c_wt, 78, .inl w_wt))] H := hP
          have hD : va_D A [(o0, .inr (8, [.int x_th, .ref mwo, .ref mim, .ref mhi, .ref mlu, .ref mtp, .int x_td, .ref mfv, .int x_sz, .int o0_393, .int o1_394, .int o2_395, .int o3_396, .int o4_397, .int o5_398, .ref mfr, .ref mwt, .int x_wt, .int x_op, .int x_jo, .ref mfg, .ref mpl, .long x_dr, .ref mtm, .ref mfa, .ref mqu, .ref mmo, .ref mwy, .ref mwn, .ref mma, .ref mwi, .ref mnu, .ref mmv])), (mtp, .inl (c_tp, 1200, .inl w_tp)), (mfr, .inl (c_fr, 1875, .inl (upd w_fr (z_410 : Int32).toNatClampNeg z_413))), (mwt, .inl (c_wt, 78, .inl w_wt))] := hD
          generalize ef_f_414 : (upd w_fr (z_410 : Int32).toNatClampNeg z_413) = f_414 at hP hD
          have hP : va_P (dC, dI) vwCl [(o0, .inr (8, [.int x_th, .ref mwo, .ref mim, .ref mhi, .ref mlu, .ref mtp, .int x_td, .ref mfv, .int x_sz, .int o0_393, .int o1_394, .int o2_395, .int o3_396, .int o4_397, .int o5_398, .ref mfr, .ref mwt, .int x_wt, .int x_op, .int x_jo, .ref mfg, .ref mpl, .long x_dr, .ref mtm, .ref mfa, .ref mqu, .ref mmo, .ref mwy, .ref mwn, .ref mma, .ref mwi, .ref mnu, .ref mmv])), (mtp, .inl (c_tp, 1200, .inl w_tp)), (mfr, .inl (c_fr, 1875, .inl f_414)), (mwt, .inl (c_wt, 78, .inl w_wt))] H := hP
          have hD : va_D A [(o0, .inr (8, [.int x_th, .ref mwo, .ref mim, .ref mhi, .ref mlu, .ref mtp, .int x_td, .ref mfv, .int x_sz, .int o0_393, .int o1_394, .int o2_395, .int o3_396, .int o4_397, .int o5_398, .ref mfr, .ref mwt, .int x_wt, .int x_op, .int x_jo, .ref mfg, .ref mpl, .long x_dr, .ref mtm, .ref mfa, .ref mqu, .ref mmo, .ref mwy, .ref mwn, .ref mma, .ref mwi, .ref mnu, .ref mmv])), (mtp, .inl (c_tp, 1200, .inl w_tp)), (mfr, .inl (c_fr, 1875, .inl f_414)), (mwt, .inl (c_wt, 78, .inl w_wt))] := hD
          refine lv_aload_n hx hb dX10_readLine_84 rfl (lv_at hl 0 rfl) ?_
          have hFc := va_free (wc := [(o0, .inr (8, [.int x_th, .ref mwo, .ref mim, .ref mhi, .ref mlu, .ref mtp, .int x_td, .ref mfv, .int x_sz, .int o0_393, .int o1_394, .int o2_395, .int o3_396, .int o4_397, .int o5_398, .ref mfr, .ref mwt, .int x_wt, .int x_op, .int x_jo, .ref mfg, .ref mpl, .long x_dr, .ref mtm, .ref mfa, .ref mqu, .ref mmo, .ref mwy, .ref mwn, .ref mma, .ref mwi, .ref mnu, .ref mmv])), (mtp, .inl (c_tp, 1200, .inl w_tp)), (mfr, .inl (c_fr, 1875, .inl f_414)), (mwt, .inl (c_wt, 78, .inl w_wt))]) hD hS hA [0, 1, 2, 3] rfl
          refine va_callv (va_runV (As := []) (rest := []) ⟨hx, hb, hml, hown, hts⟩ (kX10_readLaw l dC dI o0 x_th mwo mim mhi mlu mtp x_td mfv x_sz o0_393 o1_394 o2_395 o3_396 o4_397 o5_398 mfr mwt x_wt x_op x_jo mfg mpl x_dr mtm mfa mqu mmo mwy mwn mma mwi mnu mmv c_tp c_fr c_wt w_tp f_414 w_wt n0 (H.size) b_x_sz b_o0_393 b_o1_394 b_o2_395 b_o4_397 (by omega) (by omega) (BI.law hbi (by omega) (hbi.hdr h4n) (by have q9 := hbi.1; omega) en_z_411 (by omega) (by omega) e_z_413 ef_f_414)) (cwV 0 hts gX10_readLine__X10_readLaw_V268 rfl rfl rfl hd_yX10_readLaw ⟨lel 10 10 rfl, lel 216 216 rfl⟩) ⟨hx_fb, rcv_X10 hK hP (q0 := 0) rfl, (hx_use hP hD hK hN hX hS hAn hn0 [0, 1, 2, 3] rfl (by decide) rfl [0, 1, 2] rfl tts_0)⟩ rfl rfl hl.1 rfl (lv_room (Nat.le_of_ble_eq_true rfl)) dX10_readLine_85 ⟨lel 0 0 rfl, lel 0 0 rfl⟩) hS (fun q _ h => hFc q h) hFc (fun u_416 t H1 locs ht hvm hw_r_415 hB hz1 hk1 hS => ?_)
          obtain ⟨o0_417, o1_418, o2_419, o3_420, o4_421, o5_422, o6_423, o7_424, o8_425, o9_426, o10_427, b_o0_417, b_o1_418, b_o2_419, b_o4_421, b_o6_423, b_o7_424, b_o8_425, hf_428, hf_429, hf_430, hf_431, hf_432, hP1, hK1, hD1⟩ := hB
          rw [ht] at hP1
          have hK1 := va_K.moved hvm.symm hK1
          obtain ⟨hP, hD⟩ := va_join (wr := []) (w1 := [(o0, .inr (8, [.int x_th, .ref mwo, .ref mim, .ref mhi, .ref mlu, .ref mtp, .int x_td, .ref mfv, .int x_sz, .int o0_417, .int o1_418, .int o2_419, .int o3_420, .int o4_421, .int o5_422, .ref mfr, .ref mwt, .int o6_423, .int o7_424, .int o8_425, .ref mfg, .ref mpl, .long x_dr, .ref mtm, .ref mfa, .ref mqu, .ref mmo, .ref mwy, .ref mwn, .ref mma, .ref mwi, .ref mnu, .ref mmv])), (mtp, .inl (c_tp, 1200, .inl w_tp)), (mfr, .inl (c_fr, 1875, .inl o9_426)), (mwt, .inl (c_wt, 78, .inl o10_427))]) hP hD [0, 1, 2, 3] [] rfl rfl (by decide) (by decide) hk1 hFc hP1 hD1
          have hK := (hK.sub (tys' := []) [] rfl).app hK1
          generalize H1 = H at hP hS ⊢
          have hP : va_P (dC, dI) vwCl [(o0, .inr (8, [.int x_th, .ref mwo, .ref mim, .ref mhi, .ref mlu, .ref mtp, .int x_td, .ref mfv, .int x_sz, .int o0_417, .int o1_418, .int o2_419, .int o3_420, .int o4_421, .int o5_422, .ref mfr, .ref mwt, .int o6_423, .int o7_424, .int o8_425, .ref mfg, .ref mpl, .long x_dr, .ref mtm, .ref mfa, .ref mqu, .ref mmo, .ref mwy, .ref mwn, .ref mma, .ref mwi, .ref mnu, .ref mmv])), (mtp, .inl (c_tp, 1200, .inl w_tp)), (mfr, .inl (c_fr, 1875, .inl o9_426)), (mwt, .inl (c_wt, 78, .inl o10_427))] H := hP
          have hD : va_D A [(o0, .inr (8, [.int x_th, .ref mwo, .ref mim, .ref mhi, .ref mlu, .ref mtp, .int x_td, .ref mfv, .int x_sz, .int o0_417, .int o1_418, .int o2_419, .int o3_420, .int o4_421, .int o5_422, .ref mfr, .ref mwt, .int o6_423, .int o7_424, .int o8_425, .ref mfg, .ref mpl, .long x_dr, .ref mtm, .ref mfa, .ref mqu, .ref mmo, .ref mwy, .ref mwn, .ref mma, .ref mwi, .ref mnu, .ref mmv])), (mtp, .inl (c_tp, 1200, .inl w_tp)), (mfr, .inl (c_fr, 1875, .inl o9_426)), (mwt, .inl (c_wt, 78, .inl o10_427))] := hD
          have hK : va_K (dC, dI) vwCl [(c_tp, .byte), (c_fr, .int), (c_wt, .int)] s := hK
          refine lv_aload_n hx hb dX10_readLine_88 rfl (lv_at hl 0 rfl) ?_
          refine va_get (D := (dC, dI)) (ci := 8) (v := .ref mfr) (C := RX10) (T := TX10) (N := 33) hx hb hts iX10_readLine_X10 hown hK hP 0 rfl rfl 15 (by decide) (hts (.fieldLink RX10 34 "LuckyTicketModel" "fresh" "[I") (List.mem_of_getElem? (i := 1) rfl)) (fun _ h9 => h9) rfl dX10_readLine_89 ?_
          refine lv_iconst (v := 3) hx hb dX10_readLine_92 (by decide) ?_
          refine lv_dup2_11 hx hb dX10_readLine_93 rfl rfl ?_
          refine va_iald hx hb hK hP 2 1 rfl rfl (vp_in_b (by decide : (3 : Int) ≤ (3 : Int32).toInt ∧ (3 : Int32).toInt ≤ 3) (by decide) (by decide)) dX10_readLine_94 ?_
          refine lv_topi (fun z_433 e_z_433 => ?_)
          refine lv_iconst (v := 1) hx hb dX10_readLine_95 (by decide) ?_
          refine lv_iadd hx hb dX10_readLine_96 ?_
          refine lv_topi (fun z_434 e_z_434 => ?_)
          refine va_iast hx hb hK hP hD hS 2 1 rfl rfl (vp_in_b (by decide : (3 : Int) ≤ (3 : Int32).toInt ∧ (3 : Int32).toInt ≤ 3) (by decide) (by decide)) dX10_readLine_97 (fun H locs hP hD hS => ?_)
          have hP : va_P (dC, dI) vwCl [(o0, .inr (8, [.int x_th, .ref mwo, .ref mim, .ref mhi, .ref mlu, .ref mtp, .int x_td, .ref mfv, .int x_sz, .int o0_417, .int o1_418, .int o2_419, .int o3_420, .int o4_421, .int o5_422, .ref mfr, .ref mwt, .int o6_423, .int o7_424, .int o8_425, .ref mfg, .ref mpl, .long x_dr, .ref mtm, .ref mfa, .ref mqu, .ref mmo, .ref mwy, .ref mwn, .ref mma, .ref mwi, .ref mnu, .ref mmv])), (mtp, .inl (c_tp, 1200, .inl w_tp)), (mfr, .inl (c_fr, 1875, .inl (upd o9_426 (3 : Int32).toNatClampNeg z_434))), (mwt, .inl (c_wt, 78, .inl o10_427))] H := hP
          have hD : va_D A [(o0, .inr (8, [.int x_th, .ref mwo, .ref mim, .ref mhi, .ref mlu, .ref mtp, .int x_td, .ref mfv, .int x_sz, .int o0_417, .int o1_418, .int o2_419, .int o3_420, .int o4_421, .int o5_422, .ref mfr, .ref mwt, .int o6_423, .int o7_424, .int o8_425, .ref mfg, .ref mpl, .long x_dr, .ref mtm, .ref mfa, .ref mqu, .ref mmo, .ref mwy, .ref mwn, .ref mma, .ref mwi, .ref mnu, .ref mmv])), (mtp, .inl (c_tp, 1200, .inl w_tp)), (mfr, .inl (c_fr, 1875, .inl (upd o9_426 (3 : Int32).toNatClampNeg z_434))), (mwt, .inl (c_wt, 78, .inl o10_427))] := hD
          generalize ef_f_435 : (upd o9_426 (3 : Int32).toNatClampNeg z_434) = f_435 at hP hD
          have hP : va_P (dC, dI) vwCl [(o0, .inr (8, [.int x_th, .ref mwo, .ref mim, .ref mhi, .ref mlu, .ref mtp, .int x_td, .ref mfv, .int x_sz, .int o0_417, .int o1_418, .int o2_419, .int o3_420, .int o4_421, .int o5_422, .ref mfr, .ref mwt, .int o6_423, .int o7_424, .int o8_425, .ref mfg, .ref mpl, .long x_dr, .ref mtm, .ref mfa, .ref mqu, .ref mmo, .ref mwy, .ref mwn, .ref mma, .ref mwi, .ref mnu, .ref mmv])), (mtp, .inl (c_tp, 1200, .inl w_tp)), (mfr, .inl (c_fr, 1875, .inl f_435)), (mwt, .inl (c_wt, 78, .inl o10_427))] H := hP
          have hD : va_D A [(o0, .inr (8, [.int x_th, .ref mwo, .ref mim, .ref mhi, .ref mlu, .ref mtp, .int x_td, .ref mfv, .int x_sz, .int o0_417, .int o1_418, .int o2_419, .int o3_420, .int o4_421, .int o5_422, .ref mfr, .ref mwt, .int o6_423, .int o7_424, .int o8_425, .ref mfg, .ref mpl, .long x_dr, .ref mtm, .ref mfa, .ref mqu, .ref mmo, .ref mwy, .ref mwn, .ref mma, .ref mwi, .ref mnu, .ref mmv])), (mtp, .inl (c_tp, 1200, .inl w_tp)), (mfr, .inl (c_fr, 1875, .inl f_435)), (mwt, .inl (c_wt, 78, .inl o10_427))] := hD
          exact hj_98_326 (o0_417, o1_418, o2_419, o3_420, o4_421, o5_422, o6_423, o7_424, o8_425, f_435, o10_427) _ _ _ ⟨(show (0 : Int) ≤ o0_417.toInt ∧ o0_417.toInt ≤ 1200 from b_o0_417), (show (0 : Int) ≤ o1_418.toInt ∧ o1_418.toInt ≤ 1200 from b_o1_418), (show (0 : Int) ≤ o2_419.toInt ∧ o2_419.toInt ≤ 6 from b_o2_419), (show (0 : Int) ≤ o4_421.toInt ∧ o4_421.toInt ≤ 3 from b_o4_421), (show o4_421.toInt = 0 → BI f_435 o1_418 ∧ HDR f_435 from (fun h9 => bi_fin (hf_431 h9) (by omega) e_z_433 (adv3 (hf_431 h9) e_z_433 e_z_434) ef_f_435)), (show o4_421.toInt = 0 → x_fr.toInt < o1_418.toInt from (fun h9 => by first | omega | exact absurd h9 (by omega))), (show o1_418.toInt ≤ o0_417.toInt ∧ o0_417.toInt ≤ x_sz.toInt from (by omega)), (show o2_419.toInt ≠ 0 → o1_418.toInt < o0_417.toInt from (by omega)), (show x_fr.toInt ≤ o1_418.toInt from (by omega)), hP, hD, hS, lv_sub hl [0] rfl⟩
      ·
        refine lv_if_eq (tgt := 42) hx hb dX10_readLine_23 (by decide) (fun c_379 => ?_) (fun c_379 => ?_)
        ·
          have n_c_379 : (r_378.toInt : Int) = 0 := c_eq rfl (by decide) c_379
          have b_r_378 : (0 : Int) ≤ r_378.toInt ∧ r_378.toInt ≤ 0 := r_eq1 b_r_378 (by decide : (0 : Int) ≤ (0 : Int32).toInt ∧ (0 : Int32).toInt ≤ 0) n_c_379 (by decide)
          have g_436 := zz_r_378 c_379
          exact hj_42_390 (x_fk, x_fp) _ _ _ ⟨(show (0 : Int) ≤ x_fk.toInt ∧ x_fk.toInt ≤ 3 from b_x_fk), (show x_fk.toInt = 0 → WD w_tp x_to x_fr x_at 3 tf_266 → (w_fr 3).toInt ≠ 9 from (fun _ hq => absurd ⟨hgd, hq⟩ g_436)), hP, hD, hS, lv_sub hl [0] rfl⟩
        ·
          have n_c_379 : (r_378.toInt : Int) ≠ 0 := c_ne rfl (by decide) c_379
          have b_r_378 : (1 : Int) ≤ r_378.toInt ∧ r_378.toInt ≤ 1 := r_ne1 b_r_378 (by decide : (0 : Int) ≤ (0 : Int32).toInt ∧ (0 : Int32).toInt ≤ 0) n_c_379 (by decide)
          have g_437 := nz_r_378 c_379
          refine lv_aload_n hx hb dX10_readLine_26 rfl (lv_at hl 0 rfl) ?_
          refine va_get (D := (dC, dI)) (ci := 8) (v := .ref mfr) (C := RX10) (T := TX10) (N := 33) hx hb hts iX10_readLine_X10 hown hK hP 0 rfl rfl 15 (by decide) (hts (.fieldLink RX10 34 "LuckyTicketModel" "fresh" "[I") (List.mem_of_getElem? (i := 1) rfl)) (fun _ h9 => h9) rfl dX10_readLine_27 ?_
          refine lv_iconst (v := 3) hx hb dX10_readLine_30 (by decide) ?_
          refine va_iald hx hb hK hP 2 1 rfl rfl (vp_in_b (by decide : (3 : Int) ≤ (3 : Int32).toInt ∧ (3 : Int32).toInt ≤ 3) (by decide) (by decide)) dX10_readLine_31 ?_
          refine lv_topi (fun z_438 e_z_438 => ?_)
          have e31_ : z_438 = w_fr 3 := e_z_438
          have e31i : (w_fr 3).toInt = z_438.toInt := by rw [e31_]
          refine lv_bipush (v := 9) hx hb dX10_readLine_32 (by decide) ?_
          refine lv_icmp_ne (tgt := 42) hx hb dX10_readLine_34 (by decide) (fun c_439 => ?_) (fun c_439 => ?_)
          ·
            have n_c_439 : (z_438.toInt : Int) ≠ 9 := c_ne rfl (by decide) c_439
            exact hj_42_390 (x_fk, x_fp) _ _ _ ⟨(show (0 : Int) ≤ x_fk.toInt ∧ x_fk.toInt ≤ 3 from b_x_fk), (show x_fk.toInt = 0 → WD w_tp x_to x_fr x_at 3 tf_266 → (w_fr 3).toInt ≠ 9 from (fun _ _ => by omega)), hP, hD, hS, lv_sub hl [0] rfl⟩
          ·
            have n_c_439 : (z_438.toInt : Int) = 9 := c_eq rfl (by decide) c_439
            have b_z_438 : (9 : Int) ≤ z_438.toInt ∧ z_438.toInt ≤ 9 := r_eq1 (ti_rng z_438) (by decide : (9 : Int) ≤ (9 : Int32).toInt ∧ (9 : Int32).toInt ≤ 9) n_c_439 (by decide)
            refine lv_aload_n hx hb dX10_readLine_37 rfl (lv_at hl 0 rfl) ?_
            refine lv_iconst (v := 3) hx hb dX10_readLine_38 (by decide) ?_
            have hFc := va_free (wc := [(o0, .inr (8, [.int x_th, .ref mwo, .ref mim, .ref mhi, .ref mlu, .ref mtp, .int x_td, .ref mfv, .int x_sz, .int x_at, .int x_fr, .int x_to, .int x_va, .int x_fk, .int x_fp, .ref mfr, .ref mwt, .int x_wt, .int x_op, .int x_jo, .ref mfg, .ref mpl, .long x_dr, .ref mtm, .ref mfa, .ref mqu, .ref mmo, .ref mwy, .ref mwn, .ref mma, .ref mwi, .ref mnu, .ref mmv]))]) hD hS hA [0] rfl
            refine va_callv (va_runV (As := [.int 3]) (rest := []) ⟨hx, hb, hml, hown, hts⟩ (kX10_errs l dC dI o0 x_th mwo mim mhi mlu mtp x_td mfv x_sz x_at x_fr x_to x_va x_fk x_fp mfr mwt x_wt x_op x_jo mfg mpl x_dr mtm mfa mqu mmo mwy mwn mma mwi mnu mmv 3 (s.heap.size) b_x_sz b_x_at b_x_fr b_x_to b_x_fk (rg_w (by decide : (3 : Int) ≤ (3 : Int32).toInt ∧ (3 : Int32).toInt ≤ 3) (by decide) (by decide))) (cwV 1 hts gX10_readLine__X10_errs_V161 rfl rfl rfl hd_yX10_errs ⟨lel 2 10 rfl, lel 41 216 rfl⟩) ⟨hw_fb, rcv_X10 hK hP (q0 := 0) rfl, (hw_use hP hD hK hN [0] rfl (by decide) rfl [] rfl)⟩ rfl rfl hl.1 rfl (lv_room (Nat.le_of_ble_eq_true rfl)) dX10_readLine_39 ⟨lel 0 0 rfl, lel 0 0 rfl⟩) hS (fun q _ h => hFc q h) hFc (fun u_441 t H1 locs ht hvm hw_r_440 hB hz1 hk1 hS => ?_)
            obtain ⟨o0_442, o1_443, b_o0_442, hf_444, hP1, hK1, hD1⟩ := hB
            rw [ht] at hP1
            have hK1 := va_K.moved hvm.symm hK1
            obtain ⟨hP, hD⟩ := va_join (wr := [(mtp, .inl (c_tp, 1200, .inl w_tp)), (mfr, .inl (c_fr, 1875, .inl w_fr)), (mwt, .inl (c_wt, 78, .inl w_wt))]) (w1 := [(o0, .inr (8, [.int x_th, .ref mwo, .ref mim, .ref mhi, .ref mlu, .ref mtp, .int x_td, .ref mfv, .int x_sz, .int x_at, .int x_fr, .int x_to, .int x_va, .int o0_442, .int o1_443, .ref mfr, .ref mwt, .int x_wt, .int x_op, .int x_jo, .ref mfg, .ref mpl, .long x_dr, .ref mtm, .ref mfa, .ref mqu, .ref mmo, .ref mwy, .ref mwn, .ref mma, .ref mwi, .ref mnu, .ref mmv]))]) hP hD [0] [1, 2, 3] rfl rfl (by decide) (by decide) hk1 hFc hP1 hD1
            have hK := (hK.sub (tys' := [(c_tp, .byte), (c_fr, .int), (c_wt, .int)]) [0, 1, 2] rfl).app hK1
            generalize H1 = H at hP hS ⊢
            have hP := hP.sub (ws' := [(o0, .inr (8, [.int x_th, .ref mwo, .ref mim, .ref mhi, .ref mlu, .ref mtp, .int x_td, .ref mfv, .int x_sz, .int x_at, .int x_fr, .int x_to, .int x_va, .int o0_442, .int o1_443, .ref mfr, .ref mwt, .int x_wt, .int x_op, .int x_jo, .ref mfg, .ref mpl, .long x_dr, .ref mtm, .ref mfa, .ref mqu, .ref mmo, .ref mwy, .ref mwn, .ref mma, .ref mwi, .ref mnu, .ref mmv])), (mtp, .inl (c_tp, 1200, .inl w_tp)), (mfr, .inl (c_fr, 1875, .inl w_fr)), (mwt, .inl (c_wt, 78, .inl w_wt))]) [3, 0, 1, 2] rfl
            have hD := hD.sub (ws' := [(o0, .inr (8, [.int x_th, .ref mwo, .ref mim, .ref mhi, .ref mlu, .ref mtp, .int x_td, .ref mfv, .int x_sz, .int x_at, .int x_fr, .int x_to, .int x_va, .int o0_442, .int o1_443, .ref mfr, .ref mwt, .int x_wt, .int x_op, .int x_jo, .ref mfg, .ref mpl, .long x_dr, .ref mtm, .ref mfa, .ref mqu, .ref mmo, .ref mwy, .ref mwn, .ref mma, .ref mwi, .ref mnu, .ref mmv])), (mtp, .inl (c_tp, 1200, .inl w_tp)), (mfr, .inl (c_fr, 1875, .inl w_fr)), (mwt, .inl (c_wt, 78, .inl w_wt))]) [3, 0, 1, 2] (by decide) rfl
            have hP : va_P (dC, dI) vwCl [(o0, .inr (8, [.int x_th, .ref mwo, .ref mim, .ref mhi, .ref mlu, .ref mtp, .int x_td, .ref mfv, .int x_sz, .int x_at, .int x_fr, .int x_to, .int x_va, .int o0_442, .int o1_443, .ref mfr, .ref mwt, .int x_wt, .int x_op, .int x_jo, .ref mfg, .ref mpl, .long x_dr, .ref mtm, .ref mfa, .ref mqu, .ref mmo, .ref mwy, .ref mwn, .ref mma, .ref mwi, .ref mnu, .ref mmv])), (mtp, .inl (c_tp, 1200, .inl w_tp)), (mfr, .inl (c_fr, 1875, .inl w_fr)), (mwt, .inl (c_wt, 78, .inl w_wt))] H := hP
            have hD : va_D A [(o0, .inr (8, [.int x_th, .ref mwo, .ref mim, .ref mhi, .ref mlu, .ref mtp, .int x_td, .ref mfv, .int x_sz, .int x_at, .int x_fr, .int x_to, .int x_va, .int o0_442, .int o1_443, .ref mfr, .ref mwt, .int x_wt, .int x_op, .int x_jo, .ref mfg, .ref mpl, .long x_dr, .ref mtm, .ref mfa, .ref mqu, .ref mmo, .ref mwy, .ref mwn, .ref mma, .ref mwi, .ref mnu, .ref mmv])), (mtp, .inl (c_tp, 1200, .inl w_tp)), (mfr, .inl (c_fr, 1875, .inl w_fr)), (mwt, .inl (c_wt, 78, .inl w_wt))] := hD
            have hK : va_K (dC, dI) vwCl [(c_tp, .byte), (c_fr, .int), (c_wt, .int)] s := hK
            exact hj_42_390 (o0_442, o1_443) _ _ _ ⟨(show (0 : Int) ≤ o0_442.toInt ∧ o0_442.toInt ≤ 3 from b_o0_442), (show o0_442.toInt = 0 → WD w_tp x_to x_fr x_at 3 tf_266 → (w_fr 3).toInt ≠ 9 from (fun h9 => absurd h9 (by omega))), hP, hD, hS, lv_sub hl [0] rfl⟩
    ·
      have n_c_232 : (z_231.toInt : Int) = 0 := c_eq rfl (by decide) c_232
      have b_z_231 : (0 : Int) ≤ z_231.toInt ∧ z_231.toInt ≤ 0 := r_eq1 (ti_rng z_231) (by decide : (0 : Int) ≤ (0 : Int32).toInt ∧ (0 : Int32).toInt ≤ 0) n_c_232 (by decide)
      refine lv_aload_n hx hb dX10_readLine_9 rfl (lv_at hl 0 rfl) ?_
      have hFc := va_free (wc := [(o0, .inr (8, [.int x_th, .ref mwo, .ref mim, .ref mhi, .ref mlu, .ref mtp, .int x_td, .ref mfv, .int x_sz, .int x_at, .int x_fr, .int x_to, .int x_va, .int x_fk, .int x_fp, .ref mfr, .ref mwt, .int x_wt, .int x_op, .int x_jo, .ref mfg, .ref mpl, .long x_dr, .ref mtm, .ref mfa, .ref mqu, .ref mmo, .ref mwy, .ref mwn, .ref mma, .ref mwi, .ref mnu, .ref mmv])), (mtp, .inl (c_tp, 1200, .inl w_tp)), (mfr, .inl (c_fr, 1875, .inl w_fr))]) hD hS hA [0, 1, 2] rfl
      refine va_callv (va_runV (As := []) (rest := []) ⟨hx, hb, hml, hown, hts⟩ (kX10_readRoll l dC dI o0 x_th mwo mim mhi mlu mtp x_td mfv x_sz x_at x_fr x_to x_va x_fk x_fp mfr mwt x_wt x_op x_jo mfg mpl x_dr mtm mfa mqu mmo mwy mwn mma mwi mnu mmv c_tp c_fr w_tp w_fr n0 (s.heap.size) b_x_sz b_x_at b_x_fr b_x_to b_x_fk (by omega) (by omega)) (cwV 0 hts gX10_readLine__X10_readRoll_V263 rfl rfl rfl hd_yX10_readRoll ⟨lel 9 10 rfl, lel 195 216 rfl⟩) ⟨hx_fb, rcv_X10 hK hP (q0 := 0) rfl, (hx_use hP hD hK hN hX hS hAn hn0 [0, 1, 2] rfl (by decide) rfl [0, 1] rfl tts_0)⟩ rfl rfl hl.1 rfl (lv_room (Nat.le_of_ble_eq_true rfl)) dX10_readLine_10 ⟨lel 0 0 rfl, lel 0 0 rfl⟩) hS (fun q _ h => hFc q h) hFc (fun u_446 t H1 locs ht hvm hw_r_445 hB hz1 hk1 hS => ?_)
      obtain ⟨o0_447, o1_448, o2_449, o3_450, o4_451, o5_452, o6_453, b_o0_447, b_o1_448, b_o2_449, b_o4_451, hf_454, hf_455, hf_456, hf_457, hf_458, hf_459, hf_460, hP1, hK1, hD1⟩ := hB
      rw [ht] at hP1
      have hK1 := va_K.moved hvm.symm hK1
      obtain ⟨hP, hD⟩ := va_join (wr := [(mwt, .inl (c_wt, 78, .inl w_wt))]) (w1 := [(o0, .inr (8, [.int x_th, .ref mwo, .ref mim, .ref mhi, .ref mlu, .ref mtp, .int x_td, .ref mfv, .int x_sz, .int o0_447, .int o1_448, .int o2_449, .int o3_450, .int o4_451, .int o5_452, .ref mfr, .ref mwt, .int x_wt, .int x_op, .int x_jo, .ref mfg, .ref mpl, .long x_dr, .ref mtm, .ref mfa, .ref mqu, .ref mmo, .ref mwy, .ref mwn, .ref mma, .ref mwi, .ref mnu, .ref mmv])), (mtp, .inl (c_tp, 1200, .inl w_tp)), (mfr, .inl (c_fr, 1875, .inl o6_453))]) hP hD [0, 1, 2] [3] rfl rfl (by decide) (by decide) hk1 hFc hP1 hD1
      have hK := (hK.sub (tys' := [(c_wt, .int)]) [2] rfl).app hK1
      generalize H1 = H at hP hS ⊢
      have hP := hP.sub (ws' := [(o0, .inr (8, [.int x_th, .ref mwo, .ref mim, .ref mhi, .ref mlu, .ref mtp, .int x_td, .ref mfv, .int x_sz, .int o0_447, .int o1_448, .int o2_449, .int o3_450, .int o4_451, .int o5_452, .ref mfr, .ref mwt, .int x_wt, .int x_op, .int x_jo, .ref mfg, .ref mpl, .long x_dr, .ref mtm, .ref mfa, .ref mqu, .ref mmo, .ref mwy, .ref mwn, .ref mma, .ref mwi, .ref mnu, .ref mmv])), (mtp, .inl (c_tp, 1200, .inl w_tp)), (mfr, .inl (c_fr, 1875, .inl o6_453)), (mwt, .inl (c_wt, 78, .inl w_wt))]) [1, 2, 3, 0] rfl
      have hD := hD.sub (ws' := [(o0, .inr (8, [.int x_th, .ref mwo, .ref mim, .ref mhi, .ref mlu, .ref mtp, .int x_td, .ref mfv, .int x_sz, .int o0_447, .int o1_448, .int o2_449, .int o3_450, .int o4_451, .int o5_452, .ref mfr, .ref mwt, .int x_wt, .int x_op, .int x_jo, .ref mfg, .ref mpl, .long x_dr, .ref mtm, .ref mfa, .ref mqu, .ref mmo, .ref mwy, .ref mwn, .ref mma, .ref mwi, .ref mnu, .ref mmv])), (mtp, .inl (c_tp, 1200, .inl w_tp)), (mfr, .inl (c_fr, 1875, .inl o6_453)), (mwt, .inl (c_wt, 78, .inl w_wt))]) [1, 2, 3, 0] (by decide) rfl
      have hK := hK.sub (tys' := [(c_tp, .byte), (c_fr, .int), (c_wt, .int)]) [1, 2, 0] rfl
      have hP : va_P (dC, dI) vwCl [(o0, .inr (8, [.int x_th, .ref mwo, .ref mim, .ref mhi, .ref mlu, .ref mtp, .int x_td, .ref mfv, .int x_sz, .int o0_447, .int o1_448, .int o2_449, .int o3_450, .int o4_451, .int o5_452, .ref mfr, .ref mwt, .int x_wt, .int x_op, .int x_jo, .ref mfg, .ref mpl, .long x_dr, .ref mtm, .ref mfa, .ref mqu, .ref mmo, .ref mwy, .ref mwn, .ref mma, .ref mwi, .ref mnu, .ref mmv])), (mtp, .inl (c_tp, 1200, .inl w_tp)), (mfr, .inl (c_fr, 1875, .inl o6_453)), (mwt, .inl (c_wt, 78, .inl w_wt))] H := hP
      have hD : va_D A [(o0, .inr (8, [.int x_th, .ref mwo, .ref mim, .ref mhi, .ref mlu, .ref mtp, .int x_td, .ref mfv, .int x_sz, .int o0_447, .int o1_448, .int o2_449, .int o3_450, .int o4_451, .int o5_452, .ref mfr, .ref mwt, .int x_wt, .int x_op, .int x_jo, .ref mfg, .ref mpl, .long x_dr, .ref mtm, .ref mfa, .ref mqu, .ref mmo, .ref mwy, .ref mwn, .ref mma, .ref mwi, .ref mnu, .ref mmv])), (mtp, .inl (c_tp, 1200, .inl w_tp)), (mfr, .inl (c_fr, 1875, .inl o6_453)), (mwt, .inl (c_wt, 78, .inl w_wt))] := hD
      have hK : va_K (dC, dI) vwCl [(c_tp, .byte), (c_fr, .int), (c_wt, .int)] s := hK
      refine lv_goto (tgt := 98) hx hb dX10_readLine_13 (by decide) ?_
      exact hj_98_326 (o0_447, o1_448, o2_449, o3_450, o4_451, o5_452, x_wt, x_op, x_jo, o6_453, w_wt) _ _ _ ⟨(show (0 : Int) ≤ o0_447.toInt ∧ o0_447.toInt ≤ 1200 from b_o0_447), (show (0 : Int) ≤ o1_448.toInt ∧ o1_448.toInt ≤ 1200 from b_o1_448), (show (0 : Int) ≤ o2_449.toInt ∧ o2_449.toInt ≤ 6 from b_o2_449), (show (0 : Int) ≤ o4_451.toInt ∧ o4_451.toInt ≤ 3 from b_o4_451), (show o4_451.toInt = 0 → BI o6_453 o1_448 ∧ HDR o6_453 from (fun h9 => ⟨BI.roll hbi (by omega) (hf_458 h9) hf_459, hf_458 h9⟩)), (show o4_451.toInt = 0 → x_fr.toInt < o1_448.toInt from (fun h9 => by first | omega | exact absurd h9 (by omega))), (show o1_448.toInt ≤ o0_447.toInt ∧ o0_447.toInt ≤ x_sz.toInt from (by omega)), (show o2_449.toInt ≠ 0 → o1_448.toInt < o0_447.toInt from (by omega)), (show x_fr.toInt ≤ o1_448.toInt from (by omega)), hP, hD, hS, lv_sub hl [0] rfl⟩
