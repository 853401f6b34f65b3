theorem dJ6_bitCount_0f7a4_0 : decode cJ6_bitCount_0f7a4 0 = .ok (.iload_n 0, 1) := by decide +kernel
theorem dJ6_bitCount_0f7a4_1 : decode cJ6_bitCount_0f7a4 1 = .ok (.iload_n 0, 1) := by decide +kernel
theorem dJ6_bitCount_0f7a4_2 : decode cJ6_bitCount_0f7a4 2 = .ok (.iconst 1, 1) := by decide +kernel
theorem dJ6_bitCount_0f7a4_3 : decode cJ6_bitCount_0f7a4 3 = .ok (.iushr, 1) := by decide +kernel
theorem dJ6_bitCount_0f7a4_4 : decode cJ6_bitCount_0f7a4 4 = .ok (.ldc_w 265, 3) := by decide +kernel
theorem dJ6_bitCount_0f7a4_7 : decode cJ6_bitCount_0f7a4 7 = .ok (.iand, 1) := by decide +kernel
theorem dJ6_bitCount_0f7a4_8 : decode cJ6_bitCount_0f7a4 8 = .ok (.isub, 1) := by decide +kernel
theorem dJ6_bitCount_0f7a4_9 : decode cJ6_bitCount_0f7a4 9 = .ok (.istore_n 0, 1) := by decide +kernel
theorem dJ6_bitCount_0f7a4_10 : decode cJ6_bitCount_0f7a4 10 = .ok (.iload_n 0, 1) := by decide +kernel
theorem dJ6_bitCount_0f7a4_11 : decode cJ6_bitCount_0f7a4 11 = .ok (.ldc_w 266, 3) := by decide +kernel
theorem dJ6_bitCount_0f7a4_14 : decode cJ6_bitCount_0f7a4 14 = .ok (.iand, 1) := by decide +kernel
theorem dJ6_bitCount_0f7a4_15 : decode cJ6_bitCount_0f7a4 15 = .ok (.iload_n 0, 1) := by decide +kernel
theorem dJ6_bitCount_0f7a4_16 : decode cJ6_bitCount_0f7a4 16 = .ok (.iconst 2, 1) := by decide +kernel
theorem dJ6_bitCount_0f7a4_17 : decode cJ6_bitCount_0f7a4 17 = .ok (.iushr, 1) := by decide +kernel
theorem dJ6_bitCount_0f7a4_18 : decode cJ6_bitCount_0f7a4 18 = .ok (.ldc_w 266, 3) := by decide +kernel
theorem dJ6_bitCount_0f7a4_21 : decode cJ6_bitCount_0f7a4 21 = .ok (.iand, 1) := by decide +kernel
theorem dJ6_bitCount_0f7a4_22 : decode cJ6_bitCount_0f7a4 22 = .ok (.iadd, 1) := by decide +kernel
theorem dJ6_bitCount_0f7a4_23 : decode cJ6_bitCount_0f7a4 23 = .ok (.istore_n 0, 1) := by decide +kernel
theorem dJ6_bitCount_0f7a4_24 : decode cJ6_bitCount_0f7a4 24 = .ok (.iload_n 0, 1) := by decide +kernel
theorem dJ6_bitCount_0f7a4_25 : decode cJ6_bitCount_0f7a4 25 = .ok (.iload_n 0, 1) := by decide +kernel
theorem dJ6_bitCount_0f7a4_26 : decode cJ6_bitCount_0f7a4 26 = .ok (.iconst 4, 1) := by decide +kernel
theorem dJ6_bitCount_0f7a4_27 : decode cJ6_bitCount_0f7a4 27 = .ok (.iushr, 1) := by decide +kernel
theorem dJ6_bitCount_0f7a4_28 : decode cJ6_bitCount_0f7a4 28 = .ok (.iadd, 1) := by decide +kernel
theorem dJ6_bitCount_0f7a4_29 : decode cJ6_bitCount_0f7a4 29 = .ok (.ldc_w 267, 3) := by decide +kernel
theorem dJ6_bitCount_0f7a4_32 : decode cJ6_bitCount_0f7a4 32 = .ok (.iand, 1) := by decide +kernel
theorem dJ6_bitCount_0f7a4_33 : decode cJ6_bitCount_0f7a4 33 = .ok (.istore_n 0, 1) := by decide +kernel
theorem dJ6_bitCount_0f7a4_34 : decode cJ6_bitCount_0f7a4 34 = .ok (.iload_n 0, 1) := by decide +kernel
theorem dJ6_bitCount_0f7a4_35 : decode cJ6_bitCount_0f7a4 35 = .ok (.iload_n 0, 1) := by decide +kernel
theorem dJ6_bitCount_0f7a4_36 : decode cJ6_bitCount_0f7a4 36 = .ok (.bipush 8, 2) := by decide +kernel
theorem dJ6_bitCount_0f7a4_38 : decode cJ6_bitCount_0f7a4 38 = .ok (.iushr, 1) := by decide +kernel
theorem dJ6_bitCount_0f7a4_39 : decode cJ6_bitCount_0f7a4 39 = .ok (.iadd, 1) := by decide +kernel
theorem dJ6_bitCount_0f7a4_40 : decode cJ6_bitCount_0f7a4 40 = .ok (.istore_n 0, 1) := by decide +kernel
theorem dJ6_bitCount_0f7a4_41 : decode cJ6_bitCount_0f7a4 41 = .ok (.iload_n 0, 1) := by decide +kernel
theorem dJ6_bitCount_0f7a4_42 : decode cJ6_bitCount_0f7a4 42 = .ok (.iload_n 0, 1) := by decide +kernel
theorem dJ6_bitCount_0f7a4_43 : decode cJ6_bitCount_0f7a4 43 = .ok (.bipush 16, 2) := by decide +kernel
theorem dJ6_bitCount_0f7a4_45 : decode cJ6_bitCount_0f7a4 45 = .ok (.iushr, 1) := by decide +kernel
theorem dJ6_bitCount_0f7a4_46 : decode cJ6_bitCount_0f7a4 46 = .ok (.iadd, 1) := by decide +kernel
theorem dJ6_bitCount_0f7a4_47 : decode cJ6_bitCount_0f7a4 47 = .ok (.istore_n 0, 1) := by decide +kernel
theorem dJ6_bitCount_0f7a4_48 : decode cJ6_bitCount_0f7a4 48 = .ok (.iload_n 0, 1) := by decide +kernel
theorem dJ6_bitCount_0f7a4_49 : decode cJ6_bitCount_0f7a4 49 = .ok (.bipush 63, 2) := by decide +kernel
theorem dJ6_bitCount_0f7a4_51 : decode cJ6_bitCount_0f7a4 51 = .ok (.iand, 1) := by decide +kernel
theorem dJ6_bitCount_0f7a4_52 : decode cJ6_bitCount_0f7a4 52 = .ok (.ireturn, 1) := by decide +kernel
theorem hd_yJ6_bitCount_0f7a4 : yJ6_bitCount_0f7a4.cls = RJ6 ∧ yJ6_bitCount_0f7a4.cls ≠ "java/lang/invoke/MethodHandle" ∧ yJ6_bitCount_0f7a4.cls ≠ "java/lang/invoke/VarHandle" ∧ (parseMethodDescriptor yJ6_bitCount_0f7a4.desc).map (fun d => d.parameters.length) = some 1 := by decide +kernel
def uJ6_bitCount_0f7a4 : List Cond := List.cons (.code yJ6_bitCount_0f7a4 cJ6_bitCount_0f7a4 1 (some .int)) ([.constant RJ6 265 (1431655765), .constant RJ6 266 (858993459), .constant RJ6 267 (252645135)] : List Cond)
theorem guJ6_bitCount_0f7a4 : GU uJ6_bitCount_0f7a4 := gu_cons (gu_all (by decide +kernel))
set_option maxHeartbeats 4000000 in
set_option maxRecDepth 100000 in
theorem kJ6_bitCount_0f7a4 (l : Launch) (dC : Nat → ClassId) (dI : Nat → Nat → Nat) (a1 : Int32) : Met l yJ6_bitCount_0f7a4 uJ6_bitCount_0f7a4 ({ frames := 0, cells := 0, slots := 0, locals := 0 }) (va_Pc [.int a1] (fun _ => True)) (vp_Si (fun r => ((0 : Int) ≤ r.toInt ∧ r.toInt ≤ 63))) 0 0 (fun _ => False) := by
  refine Met.ofW (cc := cJ6_bitCount_0f7a4) (maxL := 1) (ret := (some .int)) pn_J6 rfl ?_
  intro p e s m args below meth c s₁ B hml hv
  obtain ⟨rfl, _⟩ := hv
  have hx := B.exec
  have hb := B.bytes
  have hr := B.returns
  have hts := atoms_spec (ws := uJ6_bitCount_0f7a4) B.pre
  have hown : s.vm.findClass RJ6 = some m.cls := hown_of B.named rfl
  have hlocks := B.notSynchronized
  have hl := lv_entry ([.int a1]) (n := 1) (Nat.le_of_ble_eq_true rfl)
  rw [lg_entry_eq]
  generalize (lg_sl ([.int a1]) ++ List.replicate (1 - (lg_sl ([.int a1])).length) Slot.unset).toArray = ls at hl ⊢
  have hl : lv_has ls 1 [(0, .int a1)] := hl
  refine lv_iload_n hx hb dJ6_bitCount_0f7a4_0 rfl (lv_at hl 0 rfl) ?_
  refine lv_iload_n hx hb dJ6_bitCount_0f7a4_1 rfl (lv_at hl 0 rfl) ?_
  refine lv_iconst (v := 1) hx hb dJ6_bitCount_0f7a4_2 (by decide) ?_
  obtain ⟨z_16, e_z_16⟩ : ∃ y : Int32, y = ((a1 : Int32).toUInt32 >>> ((1 : Int32).toUInt32 &&& Int32.toUInt32 31)).toInt32 := ⟨_, rfl⟩
  refine lv_iushr (v := z_16) hx hb dJ6_bitCount_0f7a4_3 e_z_16.symm ?_
  refine lv_ldcw (v := 1431655765) hx hb hown (hts (.constant RJ6 265 (1431655765)) (List.mem_of_getElem? (i := 1) rfl)) dJ6_bitCount_0f7a4_4 ?_
  refine lv_iand hx hb dJ6_bitCount_0f7a4_7 ?_
  refine lv_topi (fun z_17 e_z_17 => ?_)
  refine lv_isub hx hb dJ6_bitCount_0f7a4_8 ?_
  refine lv_topi (fun z_18 e_z_18 => ?_)
  refine lv_istore_n (lv' := [(0, .int z_18)]) hx hb dJ6_bitCount_0f7a4_9 rfl hl (by decide) rfl (fun ls hl => ?_)
  refine lv_iload_n hx hb dJ6_bitCount_0f7a4_10 rfl (lv_at hl 0 rfl) ?_
  refine lv_ldcw (v := 858993459) hx hb hown (hts (.constant RJ6 266 (858993459)) (List.mem_of_getElem? (i := 2) rfl)) dJ6_bitCount_0f7a4_11 ?_
  refine lv_iand hx hb dJ6_bitCount_0f7a4_14 ?_
  refine lv_topi (fun z_19 e_z_19 => ?_)
  refine lv_iload_n hx hb dJ6_bitCount_0f7a4_15 rfl (lv_at hl 0 rfl) ?_
  refine lv_iconst (v := 2) hx hb dJ6_bitCount_0f7a4_16 (by decide) ?_
  obtain ⟨z_20, e_z_20⟩ : ∃ y : Int32, y = ((z_18 : Int32).toUInt32 >>> ((2 : Int32).toUInt32 &&& Int32.toUInt32 31)).toInt32 := ⟨_, rfl⟩
  refine lv_iushr (v := z_20) hx hb dJ6_bitCount_0f7a4_17 e_z_20.symm ?_
  refine lv_ldcw (v := 858993459) hx hb hown (hts (.constant RJ6 266 (858993459)) (List.mem_of_getElem? (i := 2) rfl)) dJ6_bitCount_0f7a4_18 ?_
  refine lv_iand hx hb dJ6_bitCount_0f7a4_21 ?_
  refine lv_topi (fun z_21 e_z_21 => ?_)
  refine lv_iadd hx hb dJ6_bitCount_0f7a4_22 ?_
  refine lv_topi (fun z_22 e_z_22 => ?_)
  refine lv_istore_n (lv' := [(0, .int z_22)]) hx hb dJ6_bitCount_0f7a4_23 rfl hl (by decide) rfl (fun ls hl => ?_)
  refine lv_iload_n hx hb dJ6_bitCount_0f7a4_24 rfl (lv_at hl 0 rfl) ?_
  refine lv_iload_n hx hb dJ6_bitCount_0f7a4_25 rfl (lv_at hl 0 rfl) ?_
  refine lv_iconst (v := 4) hx hb dJ6_bitCount_0f7a4_26 (by decide) ?_
  obtain ⟨z_23, e_z_23⟩ : ∃ y : Int32, y = ((z_22 : Int32).toUInt32 >>> ((4 : Int32).toUInt32 &&& Int32.toUInt32 31)).toInt32 := ⟨_, rfl⟩
  refine lv_iushr (v := z_23) hx hb dJ6_bitCount_0f7a4_27 e_z_23.symm ?_
  refine lv_iadd hx hb dJ6_bitCount_0f7a4_28 ?_
  refine lv_topi (fun z_24 e_z_24 => ?_)
  refine lv_ldcw (v := 252645135) hx hb hown (hts (.constant RJ6 267 (252645135)) (List.mem_of_getElem? (i := 3) rfl)) dJ6_bitCount_0f7a4_29 ?_
  refine lv_iand hx hb dJ6_bitCount_0f7a4_32 ?_
  refine lv_topi (fun z_25 e_z_25 => ?_)
  refine lv_istore_n (lv' := [(0, .int z_25)]) hx hb dJ6_bitCount_0f7a4_33 rfl hl (by decide) rfl (fun ls hl => ?_)
  refine lv_iload_n hx hb dJ6_bitCount_0f7a4_34 rfl (lv_at hl 0 rfl) ?_
  refine lv_iload_n hx hb dJ6_bitCount_0f7a4_35 rfl (lv_at hl 0 rfl) ?_
  refine lv_bipush (v := 8) hx hb dJ6_bitCount_0f7a4_36 (by decide) ?_
  obtain ⟨z_26, e_z_26⟩ : ∃ y : Int32, y = ((z_25 : Int32).toUInt32 >>> ((8 : Int32).toUInt32 &&& Int32.toUInt32 31)).toInt32 := ⟨_, rfl⟩
  refine lv_iushr (v := z_26) hx hb dJ6_bitCount_0f7a4_38 e_z_26.symm ?_
  refine lv_iadd hx hb dJ6_bitCount_0f7a4_39 ?_
  refine lv_topi (fun z_27 e_z_27 => ?_)
  refine lv_istore_n (lv' := [(0, .int z_27)]) hx hb dJ6_bitCount_0f7a4_40 rfl hl (by decide) rfl (fun ls hl => ?_)
  refine lv_iload_n hx hb dJ6_bitCount_0f7a4_41 rfl (lv_at hl 0 rfl) ?_
  refine lv_iload_n hx hb dJ6_bitCount_0f7a4_42 rfl (lv_at hl 0 rfl) ?_
  refine lv_bipush (v := 16) hx hb dJ6_bitCount_0f7a4_43 (by decide) ?_
  obtain ⟨z_28, e_z_28⟩ : ∃ y : Int32, y = ((z_27 : Int32).toUInt32 >>> ((16 : Int32).toUInt32 &&& Int32.toUInt32 31)).toInt32 := ⟨_, rfl⟩
  refine lv_iushr (v := z_28) hx hb dJ6_bitCount_0f7a4_45 e_z_28.symm ?_
  refine lv_iadd hx hb dJ6_bitCount_0f7a4_46 ?_
  refine lv_topi (fun z_29 e_z_29 => ?_)
  refine lv_istore_n (lv' := [(0, .int z_29)]) hx hb dJ6_bitCount_0f7a4_47 rfl hl (by decide) rfl (fun ls hl => ?_)
  refine lv_iload_n hx hb dJ6_bitCount_0f7a4_48 rfl (lv_at hl 0 rfl) ?_
  refine lv_bipush (v := 63) hx hb dJ6_bitCount_0f7a4_49 (by decide) ?_
  refine lv_iand hx hb dJ6_bitCount_0f7a4_51 ?_
  refine lv_topi (fun z_30 e_z_30 => ?_)
  have b_z_30 : (0 : Int) ≤ z_30.toInt ∧ z_30.toInt ≤ 63 := ti_and (k := 6) e_z_30 (by decide) (by decide) (by decide)
  exact W.iret (v := z_30) hx hb hr (fun t ht hW => ⟨z_30, rfl, b_z_30, ht⟩) t_nil dJ6_bitCount_0f7a4_52
theorem dJ13_bitCount_95d88_0 : decode cJ13_bitCount_95d88 0 = .ok (.lload_n 0, 1) := by decide +kernel
theorem dJ13_bitCount_95d88_1 : decode cJ13_bitCount_95d88 1 = .ok (.lload_n 0, 1) := by decide +kernel
theorem dJ13_bitCount_95d88_2 : decode cJ13_bitCount_95d88 2 = .ok (.iconst 1, 1) := by decide +kernel
theorem dJ13_bitCount_95d88_3 : decode cJ13_bitCount_95d88 3 = .ok (.lushr, 1) := by decide +kernel
theorem dJ13_bitCount_95d88_4 : decode cJ13_bitCount_95d88 4 = .ok (.ldc2_w 314, 3) := by decide +kernel
theorem dJ13_bitCount_95d88_7 : decode cJ13_bitCount_95d88 7 = .ok (.land, 1) := by decide +kernel
theorem dJ13_bitCount_95d88_8 : decode cJ13_bitCount_95d88 8 = .ok (.lsub, 1) := by decide +kernel
theorem dJ13_bitCount_95d88_9 : decode cJ13_bitCount_95d88 9 = .ok (.lstore_n 0, 1) := by decide +kernel
theorem dJ13_bitCount_95d88_10 : decode cJ13_bitCount_95d88 10 = .ok (.lload_n 0, 1) := by decide +kernel
theorem dJ13_bitCount_95d88_11 : decode cJ13_bitCount_95d88 11 = .ok (.ldc2_w 316, 3) := by decide +kernel
theorem dJ13_bitCount_95d88_14 : decode cJ13_bitCount_95d88 14 = .ok (.land, 1) := by decide +kernel
theorem dJ13_bitCount_95d88_15 : decode cJ13_bitCount_95d88 15 = .ok (.lload_n 0, 1) := by decide +kernel
theorem dJ13_bitCount_95d88_16 : decode cJ13_bitCount_95d88 16 = .ok (.iconst 2, 1) := by decide +kernel
theorem dJ13_bitCount_95d88_17 : decode cJ13_bitCount_95d88 17 = .ok (.lushr, 1) := by decide +kernel
theorem dJ13_bitCount_95d88_18 : decode cJ13_bitCount_95d88 18 = .ok (.ldc2_w 316, 3) := by decide +kernel
theorem dJ13_bitCount_95d88_21 : decode cJ13_bitCount_95d88 21 = .ok (.land, 1) := by decide +kernel
theorem dJ13_bitCount_95d88_22 : decode cJ13_bitCount_95d88 22 = .ok (.ladd, 1) := by decide +kernel
theorem dJ13_bitCount_95d88_23 : decode cJ13_bitCount_95d88 23 = .ok (.lstore_n 0, 1) := by decide +kernel
theorem dJ13_bitCount_95d88_24 : decode cJ13_bitCount_95d88 24 = .ok (.lload_n 0, 1) := by decide +kernel
theorem dJ13_bitCount_95d88_25 : decode cJ13_bitCount_95d88 25 = .ok (.lload_n 0, 1) := by decide +kernel
theorem dJ13_bitCount_95d88_26 : decode cJ13_bitCount_95d88 26 = .ok (.iconst 4, 1) := by decide +kernel
theorem dJ13_bitCount_95d88_27 : decode cJ13_bitCount_95d88 27 = .ok (.lushr, 1) := by decide +kernel
theorem dJ13_bitCount_95d88_28 : decode cJ13_bitCount_95d88 28 = .ok (.ladd, 1) := by decide +kernel
theorem dJ13_bitCount_95d88_29 : decode cJ13_bitCount_95d88 29 = .ok (.ldc2_w 318, 3) := by decide +kernel
theorem dJ13_bitCount_95d88_32 : decode cJ13_bitCount_95d88 32 = .ok (.land, 1) := by decide +kernel
theorem dJ13_bitCount_95d88_33 : decode cJ13_bitCount_95d88 33 = .ok (.lstore_n 0, 1) := by decide +kernel
theorem dJ13_bitCount_95d88_34 : decode cJ13_bitCount_95d88 34 = .ok (.lload_n 0, 1) := by decide +kernel
theorem dJ13_bitCount_95d88_35 : decode cJ13_bitCount_95d88 35 = .ok (.lload_n 0, 1) := by decide +kernel
theorem dJ13_bitCount_95d88_36 : decode cJ13_bitCount_95d88 36 = .ok (.bipush 8, 2) := by decide +kernel
theorem dJ13_bitCount_95d88_38 : decode cJ13_bitCount_95d88 38 = .ok (.lushr, 1) := by decide +kernel
theorem dJ13_bitCount_95d88_39 : decode cJ13_bitCount_95d88 39 = .ok (.ladd, 1) := by decide +kernel
theorem dJ13_bitCount_95d88_40 : decode cJ13_bitCount_95d88 40 = .ok (.lstore_n 0, 1) := by decide +kernel
theorem dJ13_bitCount_95d88_41 : decode cJ13_bitCount_95d88 41 = .ok (.lload_n 0, 1) := by decide +kernel
theorem dJ13_bitCount_95d88_42 : decode cJ13_bitCount_95d88 42 = .ok (.lload_n 0, 1) := by decide +kernel
theorem dJ13_bitCount_95d88_43 : decode cJ13_bitCount_95d88 43 = .ok (.bipush 16, 2) := by decide +kernel
theorem dJ13_bitCount_95d88_45 : decode cJ13_bitCount_95d88 45 = .ok (.lushr, 1) := by decide +kernel
theorem dJ13_bitCount_95d88_46 : decode cJ13_bitCount_95d88 46 = .ok (.ladd, 1) := by decide +kernel
theorem dJ13_bitCount_95d88_47 : decode cJ13_bitCount_95d88 47 = .ok (.lstore_n 0, 1) := by decide +kernel
theorem dJ13_bitCount_95d88_48 : decode cJ13_bitCount_95d88 48 = .ok (.lload_n 0, 1) := by decide +kernel
theorem dJ13_bitCount_95d88_49 : decode cJ13_bitCount_95d88 49 = .ok (.lload_n 0, 1) := by decide +kernel
theorem dJ13_bitCount_95d88_50 : decode cJ13_bitCount_95d88 50 = .ok (.bipush 32, 2) := by decide +kernel
theorem dJ13_bitCount_95d88_52 : decode cJ13_bitCount_95d88 52 = .ok (.lushr, 1) := by decide +kernel
theorem dJ13_bitCount_95d88_53 : decode cJ13_bitCount_95d88 53 = .ok (.ladd, 1) := by decide +kernel
theorem dJ13_bitCount_95d88_54 : decode cJ13_bitCount_95d88 54 = .ok (.lstore_n 0, 1) := by decide +kernel
theorem dJ13_bitCount_95d88_55 : decode cJ13_bitCount_95d88 55 = .ok (.lload_n 0, 1) := by decide +kernel
theorem dJ13_bitCount_95d88_56 : decode cJ13_bitCount_95d88 56 = .ok (.l2i, 1) := by decide +kernel
theorem dJ13_bitCount_95d88_57 : decode cJ13_bitCount_95d88 57 = .ok (.bipush 127, 2) := by decide +kernel
theorem dJ13_bitCount_95d88_59 : decode cJ13_bitCount_95d88 59 = .ok (.iand, 1) := by decide +kernel
theorem dJ13_bitCount_95d88_60 : decode cJ13_bitCount_95d88 60 = .ok (.ireturn, 1) := by decide +kernel
theorem hd_yJ13_bitCount_95d88 : yJ13_bitCount_95d88.cls = RJ13 ∧ yJ13_bitCount_95d88.cls ≠ "java/lang/invoke/MethodHandle" ∧ yJ13_bitCount_95d88.cls ≠ "java/lang/invoke/VarHandle" ∧ (parseMethodDescriptor yJ13_bitCount_95d88.desc).map (fun d => d.parameters.length) = some 1 := by decide +kernel
def uJ13_bitCount_95d88 : List Cond := List.cons (.code yJ13_bitCount_95d88 cJ13_bitCount_95d88 2 (some .int)) ([.constantLong RJ13 314 (6148914691236517205), .constantLong RJ13 316 (3689348814741910323), .constantLong RJ13 318 (1085102592571150095)] : List Cond)
theorem guJ13_bitCount_95d88 : GU uJ13_bitCount_95d88 := gu_cons (gu_all (by decide +kernel))
set_option maxHeartbeats 4000000 in
set_option maxRecDepth 100000 in
theorem kJ13_bitCount_95d88 (l : Launch) (dC : Nat → ClassId) (dI : Nat → Nat → Nat) (a1 : Int64) : Met l yJ13_bitCount_95d88 uJ13_bitCount_95d88 ({ frames := 0, cells := 0, slots := 0, locals := 0 }) (va_Pc [.long a1] (fun _ => True)) (vp_Si (fun r => ((0 : Int) ≤ r.toInt ∧ r.toInt ≤ 127))) 0 0 (fun _ => False) := by
  refine Met.ofW (cc := cJ13_bitCount_95d88) (maxL := 2) (ret := (some .int)) pn_J13 rfl ?_
  intro p e s m args below meth c s₁ B hml hv
  obtain ⟨rfl, _⟩ := hv
  have hx := B.exec
  have hb := B.bytes
  have hr := B.returns
  have hts := atoms_spec (ws := uJ13_bitCount_95d88) B.pre
  have hown : s.vm.findClass RJ13 = some m.cls := hown_of B.named rfl
  have hlocks := B.notSynchronized
  have hl := lv_entry ([.long a1]) (n := 2) (Nat.le_of_ble_eq_true rfl)
  rw [lg_entry_eq]
  generalize (lg_sl ([.long a1]) ++ List.replicate (2 - (lg_sl ([.long a1])).length) Slot.unset).toArray = ls at hl ⊢
  have hl : lv_has ls 2 [(0, .long a1)] := hl
  refine lv_lload_n hx hb dJ13_bitCount_95d88_0 rfl (lv_at hl 0 rfl) ?_
  refine lv_lload_n hx hb dJ13_bitCount_95d88_1 rfl (lv_at hl 0 rfl) ?_
  refine lv_iconst (v := 1) hx hb dJ13_bitCount_95d88_2 (by decide) ?_
  obtain ⟨z_19, e_z_19⟩ : ∃ y : Int64, y = ((a1 : Int64).toUInt64 >>> ((1 : Int32).toInt64.toUInt64 &&& Int64.toUInt64 63)).toInt64 := ⟨_, rfl⟩
  refine lv_lushr (v := z_19) hx hb dJ13_bitCount_95d88_3 e_z_19.symm ?_
  refine lv_ldc2 (v := 6148914691236517205) hx hb hown (hts (.constantLong RJ13 314 (6148914691236517205)) (List.mem_of_getElem? (i := 1) rfl)) dJ13_bitCount_95d88_4 ?_
  refine lv_land hx hb dJ13_bitCount_95d88_7 ?_
  refine lv_topl (fun z_20 e_z_20 => ?_)
  refine lv_lsub hx hb dJ13_bitCount_95d88_8 ?_
  refine lv_topl (fun z_21 e_z_21 => ?_)
  refine lv_lstore_n (lv' := [(0, .long z_21)]) hx hb dJ13_bitCount_95d88_9 rfl hl (by decide) rfl (fun ls hl => ?_)
  refine lv_lload_n hx hb dJ13_bitCount_95d88_10 rfl (lv_at hl 0 rfl) ?_
  refine lv_ldc2 (v := 3689348814741910323) hx hb hown (hts (.constantLong RJ13 316 (3689348814741910323)) (List.mem_of_getElem? (i := 2) rfl)) dJ13_bitCount_95d88_11 ?_
  refine lv_land hx hb dJ13_bitCount_95d88_14 ?_
  refine lv_topl (fun z_22 e_z_22 => ?_)
  refine lv_lload_n hx hb dJ13_bitCount_95d88_15 rfl (lv_at hl 0 rfl) ?_
  refine lv_iconst (v := 2) hx hb dJ13_bitCount_95d88_16 (by decide) ?_
  obtain ⟨z_23, e_z_23⟩ : ∃ y : Int64, y = ((z_21 : Int64).toUInt64 >>> ((2 : Int32).toInt64.toUInt64 &&& Int64.toUInt64 63)).toInt64 := ⟨_, rfl⟩
  refine lv_lushr (v := z_23) hx hb dJ13_bitCount_95d88_17 e_z_23.symm ?_
  refine lv_ldc2 (v := 3689348814741910323) hx hb hown (hts (.constantLong RJ13 316 (3689348814741910323)) (List.mem_of_getElem? (i := 2) rfl)) dJ13_bitCount_95d88_18 ?_
  refine lv_land hx hb dJ13_bitCount_95d88_21 ?_
  refine lv_topl (fun z_24 e_z_24 => ?_)
  refine lv_ladd hx hb dJ13_bitCount_95d88_22 ?_
  refine lv_topl (fun z_25 e_z_25 => ?_)
  refine lv_lstore_n (lv' := [(0, .long z_25)]) hx hb dJ13_bitCount_95d88_23 rfl hl (by decide) rfl (fun ls hl => ?_)
  refine lv_lload_n hx hb dJ13_bitCount_95d88_24 rfl (lv_at hl 0 rfl) ?_
  refine lv_lload_n hx hb dJ13_bitCount_95d88_25 rfl (lv_at hl 0 rfl) ?_
  refine lv_iconst (v := 4) hx hb dJ13_bitCount_95d88_26 (by decide) ?_
  obtain ⟨z_26, e_z_26⟩ : ∃ y : Int64, y = ((z_25 : Int64).toUInt64 >>> ((4 : Int32).toInt64.toUInt64 &&& Int64.toUInt64 63)).toInt64 := ⟨_, rfl⟩
  refine lv_lushr (v := z_26) hx hb dJ13_bitCount_95d88_27 e_z_26.symm ?_
  refine lv_ladd hx hb dJ13_bitCount_95d88_28 ?_
  refine lv_topl (fun z_27 e_z_27 => ?_)
  refine lv_ldc2 (v := 1085102592571150095) hx hb hown (hts (.constantLong RJ13 318 (1085102592571150095)) (List.mem_of_getElem? (i := 3) rfl)) dJ13_bitCount_95d88_29 ?_
  refine lv_land hx hb dJ13_bitCount_95d88_32 ?_
  refine lv_topl (fun z_28 e_z_28 => ?_)
  refine lv_lstore_n (lv' := [(0, .long z_28)]) hx hb dJ13_bitCount_95d88_33 rfl hl (by decide) rfl (fun ls hl => ?_)
  refine lv_lload_n hx hb dJ13_bitCount_95d88_34 rfl (lv_at hl 0 rfl) ?_
  refine lv_lload_n hx hb dJ13_bitCount_95d88_35 rfl (lv_at hl 0 rfl) ?_
  refine lv_bipush (v := 8) hx hb dJ13_bitCount_95d88_36 (by decide) ?_
  obtain ⟨z_29, e_z_29⟩ : ∃ y : Int64, y = ((z_28 : Int64).toUInt64 >>> ((8 : Int32).toInt64.toUInt64 &&& Int64.toUInt64 63)).toInt64 := ⟨_, rfl⟩
  refine lv_lushr (v := z_29) hx hb dJ13_bitCount_95d88_38 e_z_29.symm ?_
  refine lv_ladd hx hb dJ13_bitCount_95d88_39 ?_
  refine lv_topl (fun z_30 e_z_30 => ?_)
  refine lv_lstore_n (lv' := [(0, .long z_30)]) hx hb dJ13_bitCount_95d88_40 rfl hl (by decide) rfl (fun ls hl => ?_)
  refine lv_lload_n hx hb dJ13_bitCount_95d88_41 rfl (lv_at hl 0 rfl) ?_
  refine lv_lload_n hx hb dJ13_bitCount_95d88_42 rfl (lv_at hl 0 rfl) ?_
  refine lv_bipush (v := 16) hx hb dJ13_bitCount_95d88_43 (by decide) ?_
  obtain ⟨z_31, e_z_31⟩ : ∃ y : Int64, y = ((z_30 : Int64).toUInt64 >>> ((16 : Int32).toInt64.toUInt64 &&& Int64.toUInt64 63)).toInt64 := ⟨_, rfl⟩
  refine lv_lushr (v := z_31) hx hb dJ13_bitCount_95d88_45 e_z_31.symm ?_
  refine lv_ladd hx hb dJ13_bitCount_95d88_46 ?_
  refine lv_topl (fun z_32 e_z_32 => ?_)
  refine lv_lstore_n (lv' := [(0, .long z_32)]) hx hb dJ13_bitCount_95d88_47 rfl hl (by decide) rfl (fun ls hl => ?_)
  refine lv_lload_n hx hb dJ13_bitCount_95d88_48 rfl (lv_at hl 0 rfl) ?_
  refine lv_lload_n hx hb dJ13_bitCount_95d88_49 rfl (lv_at hl 0 rfl) ?_
  refine lv_bipush (v := 32) hx hb dJ13_bitCount_95d88_50 (by decide) ?_
  obtain ⟨z_33, e_z_33⟩ : ∃ y : Int64, y = ((z_32 : Int64).toUInt64 >>> ((32 : Int32).toInt64.toUInt64 &&& Int64.toUInt64 63)).toInt64 := ⟨_, rfl⟩
  refine lv_lushr (v := z_33) hx hb dJ13_bitCount_95d88_52 e_z_33.symm ?_
  refine lv_ladd hx hb dJ13_bitCount_95d88_53 ?_
  refine lv_topl (fun z_34 e_z_34 => ?_)
  refine lv_lstore_n (lv' := [(0, .long z_34)]) hx hb dJ13_bitCount_95d88_54 rfl hl (by decide) rfl (fun ls hl => ?_)
  refine lv_lload_n hx hb dJ13_bitCount_95d88_55 rfl (lv_at hl 0 rfl) ?_
  obtain ⟨z_35, e_z_35⟩ : ∃ y : Int32, y = z_34.toInt32 := ⟨_, rfl⟩
  refine lv_l2i (v := z_35) hx hb dJ13_bitCount_95d88_56 e_z_35.symm ?_
  refine lv_bipush (v := 127) hx hb dJ13_bitCount_95d88_57 (by decide) ?_
  refine lv_iand hx hb dJ13_bitCount_95d88_59 ?_
  refine lv_topi (fun z_36 e_z_36 => ?_)
  have b_z_36 : (0 : Int) ≤ z_36.toInt ∧ z_36.toInt ≤ 127 := ti_and (k := 7) e_z_36 (by decide) (by decide) (by decide)
  exact W.iret (v := z_36) hx hb hr (fun t ht hW => ⟨z_36, rfl, b_z_36, ht⟩) t_nil dJ13_bitCount_95d88_60
theorem dX0_maskAt_0 : decode cX0_maskAt 0 = .ok (.ldc2_w 7, 3) := by decide +kernel
theorem dX0_maskAt_3 : decode cX0_maskAt 3 = .ok (.iconst 4, 1) := by decide +kernel
theorem dX0_maskAt_4 : decode cX0_maskAt 4 = .ok (.iload_n 0, 1) := by decide +kernel
theorem dX0_maskAt_5 : decode cX0_maskAt 5 = .ok (.iconst 1, 1) := by decide +kernel
theorem dX0_maskAt_6 : decode cX0_maskAt 6 = .ok (.isub, 1) := by decide +kernel
theorem dX0_maskAt_7 : decode cX0_maskAt 7 = .ok (.iload_n 1, 1) := by decide +kernel
theorem dX0_maskAt_8 : decode cX0_maskAt 8 = .ok (.isub, 1) := by decide +kernel
theorem dX0_maskAt_9 : decode cX0_maskAt 9 = .ok (.imul, 1) := by decide +kernel
theorem dX0_maskAt_10 : decode cX0_maskAt 10 = .ok (.lshl, 1) := by decide +kernel
theorem dX0_maskAt_11 : decode cX0_maskAt 11 = .ok (.lreturn, 1) := by decide +kernel
theorem hd_yX0_maskAt : yX0_maskAt.cls = RX0 ∧ yX0_maskAt.cls ≠ "java/lang/invoke/MethodHandle" ∧ yX0_maskAt.cls ≠ "java/lang/invoke/VarHandle" ∧ (parseMethodDescriptor yX0_maskAt.desc).map (fun d => d.parameters.length) = some 2 := by decide +kernel
def uX0_maskAt : List Cond := List.cons (.code yX0_maskAt cX0_maskAt 2 (some .long)) ([.constantLong RX0 7 (15)] : List Cond)
theorem guX0_maskAt : GU uX0_maskAt := gu_cons (gu_all (by decide +kernel))
set_option maxHeartbeats 4000000 in
set_option maxRecDepth 100000 in
theorem kX0_maskAt (l : Launch) (dC : Nat → ClassId) (dI : Nat → Nat → Nat) (a1 : Int32) (a2 : Int32) : Met l yX0_maskAt uX0_maskAt ({ frames := 0, cells := 0, slots := 0, locals := 0 }) (va_Pc [.int a1, .int a2] (fun _ => True)) (vp_Sl (fun r => True)) 0 0 (fun _ => False) := by
  refine Met.ofW (cc := cX0_maskAt) (maxL := 2) (ret := (some .long)) pn_X0 rfl ?_
  intro p e s m args below meth c s₁ B hml hv
  obtain ⟨rfl, _⟩ := hv
  have hx := B.exec
  have hb := B.bytes
  have hr := B.returns
  have hts := atoms_spec (ws := uX0_maskAt) B.pre
  have hown : s.vm.findClass RX0 = some m.cls := hown_of B.named rfl
  have hlocks := B.notSynchronized
  have hl := lv_entry ([.int a1, .int a2]) (n := 2) (Nat.le_of_ble_eq_true rfl)
  rw [lg_entry_eq]
  generalize (lg_sl ([.int a1, .int a2]) ++ List.replicate (2 - (lg_sl ([.int a1, .int a2])).length) Slot.unset).toArray = ls at hl ⊢
  have hl : lv_has ls 2 [(0, .int a1), (1, .int a2)] := hl
  refine lv_ldc2 (v := 15) hx hb hown (hts (.constantLong RX0 7 (15)) (List.mem_of_getElem? (i := 1) rfl)) dX0_maskAt_0 ?_
  refine lv_iconst (v := 4) hx hb dX0_maskAt_3 (by decide) ?_
  refine lv_iload_n hx hb dX0_maskAt_4 rfl (lv_at hl 0 rfl) ?_
  refine lv_iconst (v := 1) hx hb dX0_maskAt_5 (by decide) ?_
  refine lv_isub hx hb dX0_maskAt_6 ?_
  refine lv_topi (fun z_5 e_z_5 => ?_)
  refine lv_iload_n hx hb dX0_maskAt_7 rfl (lv_at hl 1 rfl) ?_
  refine lv_isub hx hb dX0_maskAt_8 ?_
  refine lv_topi (fun z_6 e_z_6 => ?_)
  refine lv_imul hx hb dX0_maskAt_9 ?_
  refine lv_topi (fun z_7 e_z_7 => ?_)
  obtain ⟨z_8, e_z_8⟩ : ∃ y : Int64, y = (15 : Int64) <<< ((z_7 : Int32).toInt64 &&& 63) := ⟨_, rfl⟩
  refine lv_lshl (v := z_8) hx hb dX0_maskAt_10 e_z_8.symm ?_
  exact W.lret (v := z_8) hx hb hr (fun t ht hW => ⟨z_8, rfl, trivial, ht⟩) t_nil dX0_maskAt_11
theorem dX0_figureTold_0 : decode cX0_figureTold 0 = .ok (.lload_n 2, 1) := by decide +kernel
theorem dX0_figureTold_1 : decode cX0_figureTold 1 = .ok (.ldc2_w 7, 3) := by decide +kernel
theorem dX0_figureTold_4 : decode cX0_figureTold 4 = .ok (.land, 1) := by decide +kernel
theorem dX0_figureTold_5 : decode cX0_figureTold 5 = .ok (.iconst 4, 1) := by decide +kernel
theorem dX0_figureTold_6 : decode cX0_figureTold 6 = .ok (.iload_n 0, 1) := by decide +kernel
theorem dX0_figureTold_7 : decode cX0_figureTold 7 = .ok (.iconst 1, 1) := by decide +kernel
theorem dX0_figureTold_8 : decode cX0_figureTold 8 = .ok (.isub, 1) := by decide +kernel
theorem dX0_figureTold_9 : decode cX0_figureTold 9 = .ok (.iload_n 1, 1) := by decide +kernel
theorem dX0_figureTold_10 : decode cX0_figureTold 10 = .ok (.isub, 1) := by decide +kernel
theorem dX0_figureTold_11 : decode cX0_figureTold 11 = .ok (.imul, 1) := by decide +kernel
theorem dX0_figureTold_12 : decode cX0_figureTold 12 = .ok (.lshl, 1) := by decide +kernel
theorem dX0_figureTold_13 : decode cX0_figureTold 13 = .ok (.lreturn, 1) := by decide +kernel
theorem hd_yX0_figureTold : yX0_figureTold.cls = RX0 ∧ yX0_figureTold.cls ≠ "java/lang/invoke/MethodHandle" ∧ yX0_figureTold.cls ≠ "java/lang/invoke/VarHandle" ∧ (parseMethodDescriptor yX0_figureTold.desc).map (fun d => d.parameters.length) = some 3 := by decide +kernel
def uX0_figureTold : List Cond := List.cons (.code yX0_figureTold cX0_figureTold 4 (some .long)) ([.constantLong RX0 7 (15)] : List Cond)
theorem guX0_figureTold : GU uX0_figureTold := gu_cons (gu_all (by decide +kernel))
set_option maxHeartbeats 4000000 in
set_option maxRecDepth 100000 in
theorem kX0_figureTold (l : Launch) (dC : Nat → ClassId) (dI : Nat → Nat → Nat) (a1 : Int32) (a2 : Int32) (a3 : Int64) : Met l yX0_figureTold uX0_figureTold ({ frames := 0, cells := 0, slots := 0, locals := 0 }) (va_Pc [.int a1, .int a2, .long a3] (fun _ => True)) (vp_Sl (fun r => True)) 0 0 (fun _ => False) := by
  refine Met.ofW (cc := cX0_figureTold) (maxL := 4) (ret := (some .long)) pn_X0 rfl ?_
  intro p e s m args below meth c s₁ B hml hv
  obtain ⟨rfl, _⟩ := hv
  have hx := B.exec
  have hb := B.bytes
  have hr := B.returns
  have hts := atoms_spec (ws := uX0_figureTold) B.pre
  have hown : s.vm.findClass RX0 = some m.cls := hown_of B.named rfl
  have hlocks := B.notSynchronized
  have hl := lv_entry ([.int a1, .int a2, .long a3]) (n := 4) (Nat.le_of_ble_eq_true rfl)
  rw [lg_entry_eq]
  generalize (lg_sl ([.int a1, .int a2, .long a3]) ++ List.replicate (4 - (lg_sl ([.int a1, .int a2, .long a3])).length) Slot.unset).toArray = ls at hl ⊢
  have hl : lv_has ls 4 [(0, .int a1), (1, .int a2), (2, .long a3)] := hl
  refine lv_lload_n hx hb dX0_figureTold_0 rfl (lv_at hl 2 rfl) ?_
  refine lv_ldc2 (v := 15) hx hb hown (hts (.constantLong RX0 7 (15)) (List.mem_of_getElem? (i := 1) rfl)) dX0_figureTold_1 ?_
  refine lv_land hx hb dX0_figureTold_4 ?_
  refine lv_topl (fun z_6 e_z_6 => ?_)
  refine lv_iconst (v := 4) hx hb dX0_figureTold_5 (by decide) ?_
  refine lv_iload_n hx hb dX0_figureTold_6 rfl (lv_at hl 0 rfl) ?_
  refine lv_iconst (v := 1) hx hb dX0_figureTold_7 (by decide) ?_
  refine lv_isub hx hb dX0_figureTold_8 ?_
  refine lv_topi (fun z_7 e_z_7 => ?_)
  refine lv_iload_n hx hb dX0_figureTold_9 rfl (lv_at hl 1 rfl) ?_
  refine lv_isub hx hb dX0_figureTold_10 ?_
  refine lv_topi (fun z_8 e_z_8 => ?_)
  refine lv_imul hx hb dX0_figureTold_11 ?_
  refine lv_topi (fun z_9 e_z_9 => ?_)
  obtain ⟨z_10, e_z_10⟩ : ∃ y : Int64, y = (z_6 : Int64) <<< ((z_9 : Int32).toInt64 &&& 63) := ⟨_, rfl⟩
  refine lv_lshl (v := z_10) hx hb dX0_figureTold_12 e_z_10.symm ?_
  exact W.lret (v := z_10) hx hb hr (fun t ht hW => ⟨z_10, rfl, trivial, ht⟩) t_nil dX0_figureTold_13
theorem dX0_figureAt_0 : decode cX0_figureAt 0 = .ok (.lload_n 0, 1) := by decide +kernel
theorem dX0_figureAt_1 : decode cX0_figureAt 1 = .ok (.iconst 4, 1) := by decide +kernel
theorem dX0_figureAt_2 : decode cX0_figureAt 2 = .ok (.iload_n 2, 1) := by decide +kernel
theorem dX0_figureAt_3 : decode cX0_figureAt 3 = .ok (.iconst 1, 1) := by decide +kernel
theorem dX0_figureAt_4 : decode cX0_figureAt 4 = .ok (.isub, 1) := by decide +kernel
theorem dX0_figureAt_5 : decode cX0_figureAt 5 = .ok (.iload_n 3, 1) := by decide +kernel
theorem dX0_figureAt_6 : decode cX0_figureAt 6 = .ok (.isub, 1) := by decide +kernel
theorem dX0_figureAt_7 : decode cX0_figureAt 7 = .ok (.imul, 1) := by decide +kernel
theorem dX0_figureAt_8 : decode cX0_figureAt 8 = .ok (.lushr, 1) := by decide +kernel
theorem dX0_figureAt_9 : decode cX0_figureAt 9 = .ok (.l2i, 1) := by decide +kernel
theorem dX0_figureAt_10 : decode cX0_figureAt 10 = .ok (.bipush 15, 2) := by decide +kernel
theorem dX0_figureAt_12 : decode cX0_figureAt 12 = .ok (.iand, 1) := by decide +kernel
theorem dX0_figureAt_13 : decode cX0_figureAt 13 = .ok (.ireturn, 1) := by decide +kernel
theorem hd_yX0_figureAt : yX0_figureAt.cls = RX0 ∧ yX0_figureAt.cls ≠ "java/lang/invoke/MethodHandle" ∧ yX0_figureAt.cls ≠ "java/lang/invoke/VarHandle" ∧ (parseMethodDescriptor yX0_figureAt.desc).map (fun d => d.parameters.length) = some 3 := by decide +kernel
def uX0_figureAt : List Cond := List.cons (.code yX0_figureAt cX0_figureAt 4 (some .int)) ([] : List Cond)
theorem guX0_figureAt : GU uX0_figureAt := gu_cons (gu_all (by decide +kernel))
set_option maxHeartbeats 4000000 in
set_option maxRecDepth 100000 in
theorem kX0_figureAt (l : Launch) (dC : Nat → ClassId) (dI : Nat → Nat → Nat) (a1 : Int64) (a2 : Int32) (a3 : Int32) : Met l yX0_figureAt uX0_figureAt ({ frames := 0, cells := 0, slots := 0, locals := 0 }) (va_Pc [.long a1, .int a2, .int a3] (fun _ => True)) (vp_Si (fun r => ((0 : Int) ≤ r.toInt ∧ r.toInt ≤ 15))) 0 0 (fun _ => False) := by
  refine Met.ofW (cc := cX0_figureAt) (maxL := 4) (ret := (some .int)) pn_X0 rfl ?_
  intro p e s m args below meth c s₁ B hml hv
  obtain ⟨rfl, _⟩ := hv
  have hx := B.exec
  have hb := B.bytes
  have hr := B.returns
  have hts := atoms_spec (ws := uX0_figureAt) B.pre
  have hown : s.vm.findClass RX0 = some m.cls := hown_of B.named rfl
  have hlocks := B.notSynchronized
  have hl := lv_entry ([.long a1, .int a2, .int a3]) (n := 4) (Nat.le_of_ble_eq_true rfl)
  rw [lg_entry_eq]
  generalize (lg_sl ([.long a1, .int a2, .int a3]) ++ List.replicate (4 - (lg_sl ([.long a1, .int a2, .int a3])).length) Slot.unset).toArray = ls at hl ⊢
  have hl : lv_has ls 4 [(0, .long a1), (2, .int a2), (3, .int a3)] := hl
  refine lv_lload_n hx hb dX0_figureAt_0 rfl (lv_at hl 0 rfl) ?_
  refine lv_iconst (v := 4) hx hb dX0_figureAt_1 (by decide) ?_
  refine lv_iload_n hx hb dX0_figureAt_2 rfl (lv_at hl 1 rfl) ?_
  refine lv_iconst (v := 1) hx hb dX0_figureAt_3 (by decide) ?_
  refine lv_isub hx hb dX0_figureAt_4 ?_
  refine lv_topi (fun z_7 e_z_7 => ?_)
  refine lv_iload_n hx hb dX0_figureAt_5 rfl (lv_at hl 2 rfl) ?_
  refine lv_isub hx hb dX0_figureAt_6 ?_
  refine lv_topi (fun z_8 e_z_8 => ?_)
  refine lv_imul hx hb dX0_figureAt_7 ?_
  refine lv_topi (fun z_9 e_z_9 => ?_)
  obtain ⟨z_10, e_z_10⟩ : ∃ y : Int64, y = ((a1 : Int64).toUInt64 >>> ((z_9 : Int32).toInt64.toUInt64 &&& Int64.toUInt64 63)).toInt64 := ⟨_, rfl⟩
  refine lv_lushr (v := z_10) hx hb dX0_figureAt_8 e_z_10.symm ?_
  obtain ⟨z_11, e_z_11⟩ : ∃ y : Int32, y = z_10.toInt32 := ⟨_, rfl⟩
  refine lv_l2i (v := z_11) hx hb dX0_figureAt_9 e_z_11.symm ?_
  refine lv_bipush (v := 15) hx hb dX0_figureAt_10 (by decide) ?_
  refine lv_iand hx hb dX0_figureAt_12 ?_
  refine lv_topi (fun z_12 e_z_12 => ?_)
  have b_z_12 : (0 : Int) ≤ z_12.toInt ∧ z_12.toInt ≤ 15 := ti_and (k := 4) e_z_12 (by decide) (by decide) (by decide)
  exact W.iret (v := z_12) hx hb hr (fun t ht hW => ⟨z_12, rfl, b_z_12, ht⟩) t_nil dX0_figureAt_13
theorem dX0_masks_0 : decode cX0_masks 0 = .ok (.lconst 0, 1) := by decide +kernel
theorem dX0_masks_1 : decode cX0_masks 1 = .ok (.lstore_n 3, 1) := by decide +kernel
theorem dX0_masks_2 : decode cX0_masks 2 = .ok (.iload_n 1, 1) := by decide +kernel
theorem dX0_masks_3 : decode cX0_masks 3 = .ok (.istore 5, 2) := by decide +kernel
theorem dX0_masks_5 : decode cX0_masks 5 = .ok (.iload 5, 2) := by decide +kernel
theorem dX0_masks_7 : decode cX0_masks 7 = .ok (.iload_n 2, 1) := by decide +kernel
theorem dX0_masks_8 : decode cX0_masks 8 = .ok (.if_icmp .ge 18, 3) := by decide +kernel
theorem dX0_masks_11 : decode cX0_masks 11 = .ok (.lload_n 3, 1) := by decide +kernel
theorem dX0_masks_12 : decode cX0_masks 12 = .ok (.iload_n 0, 1) := by decide +kernel
theorem dX0_masks_13 : decode cX0_masks 13 = .ok (.iload 5, 2) := by decide +kernel
theorem dX0_masks_15 : decode cX0_masks 15 = .ok (.invokestatic 15, 3) := by decide +kernel
theorem dX0_masks_18 : decode cX0_masks 18 = .ok (.lor, 1) := by decide +kernel
theorem dX0_masks_19 : decode cX0_masks 19 = .ok (.lstore_n 3, 1) := by decide +kernel
theorem dX0_masks_20 : decode cX0_masks 20 = .ok (.iinc 5 1, 3) := by decide +kernel
theorem dX0_masks_23 : decode cX0_masks 23 = .ok (.goto (-18), 3) := by decide +kernel
theorem dX0_masks_26 : decode cX0_masks 26 = .ok (.lload_n 3, 1) := by decide +kernel
theorem dX0_masks_27 : decode cX0_masks 27 = .ok (.lreturn, 1) := by decide +kernel
theorem hd_yX0_masks : yX0_masks.cls = RX0 ∧ yX0_masks.cls ≠ "java/lang/invoke/MethodHandle" ∧ yX0_masks.cls ≠ "java/lang/invoke/VarHandle" ∧ (parseMethodDescriptor yX0_masks.desc).map (fun d => d.parameters.length) = some 3 := by decide +kernel
def uX0_masks : List Cond := List.cons (.code yX0_masks cX0_masks 6 (some .long)) (HAppend.hAppend ([.methodLink RX0 15 yX0_maskAt, .static yX0_maskAt, .initialized RX0] : List Cond) uX0_maskAt)
theorem guX0_masks : GU uX0_masks := gu_cons (gu_app (by decide +kernel) guX0_maskAt)
theorem gX0_masks__X0_maskAt_S15 : GoodIn uX0_masks (va_wsS RX0 15 yX0_maskAt uX0_maskAt) := gin_S (List.mem_of_getElem? (i := 1) rfl) (List.mem_of_getElem? (i := 2) rfl) (List.mem_of_getElem? (i := 3) rfl) (fun _ h => (List.mem_cons_of_mem _ (List.mem_append_right _ h))) guX0_maskAt
set_option maxHeartbeats 4000000 in
set_option maxRecDepth 100000 in
theorem kX0_masks (l : Launch) (dC : Nat → ClassId) (dI : Nat → Nat → Nat) (a1 : Int32) (a2 : Int32) (a3 : Int32) (b_a2 : (-12 : Int) ≤ a2.toInt ∧ a2.toInt ≤ 12) (b_a3 : (0 : Int) ≤ a3.toInt ∧ a3.toInt ≤ 12) : Met l yX0_masks uX0_masks ({ frames := 1, cells := 0, slots := 0, locals := 21 }) (va_Pc [.int a1, .int a2, .int a3] (fun _ => True)) (vp_Sl (fun r => True)) 0 0 (fun _ => False) := by
  refine Met.ofW (cc := cX0_masks) (maxL := 6) (ret := (some .long)) pn_X0 rfl ?_
  intro p e s m args below meth c s₁ B hml hv
  obtain ⟨rfl, _⟩ := hv
  have hx := B.exec
  have hb := B.bytes
  have hr := B.returns
  have hts := atoms_spec (ws := uX0_masks) B.pre
  have hown : s.vm.findClass RX0 = some m.cls := hown_of B.named rfl
  have hlocks := B.notSynchronized
  have hl := lv_entry ([.int a1, .int a2, .int a3]) (n := 6) (Nat.le_of_ble_eq_true rfl)
  rw [lg_entry_eq]
  generalize (lg_sl ([.int a1, .int a2, .int a3]) ++ List.replicate (6 - (lg_sl ([.int a1, .int a2, .int a3])).length) Slot.unset).toArray = ls at hl ⊢
  have hl : lv_has ls 6 [(0, .int a1), (1, .int a2), (2, .int a3)] := hl
  refine lv_lconst (v := 0) hx hb dX0_masks_0 (by decide) ?_
  refine lv_lstore_n (lv' := [(3, .long 0), (0, .int a1), (1, .int a2), (2, .int a3)]) hx hb dX0_masks_1 rfl hl (by decide) rfl (fun ls hl => ?_)
  refine lv_iload_n hx hb dX0_masks_2 rfl (lv_at hl 2 rfl) ?_
  refine lv_istore (lv' := [(5, .int a2), (3, .long 0), (0, .int a1), (1, .int a2), (2, .int a3)]) hx hb dX0_masks_3 hl (by decide) rfl (fun ls hl => ?_)
  refine loopP (σ := Int32 × Int64) (fun v => (12 - v.1.toInt).toNat) (fun v ls => ((-12 : Int) ≤ v.1.toInt ∧ v.1.toInt ≤ 12) ∧ lv_has ls 6 [(5, .int v.1), (3, .long v.2), (0, .int a1), (1, .int a2), (2, .int a3)]) (fun v ls hI ih_5_24 => ?_) (a2, (0 : Int64)) ⟨(show (-12 : Int) ≤ a2.toInt ∧ a2.toInt ≤ 12 from b_a2), lv_sub hl [0, 1, 2, 3, 4] rfl⟩
  obtain ⟨y_19, y_20⟩ := v
  obtain ⟨b_y_19, hl⟩ := hI
  have b_y_19 : (-12 : Int) ≤ y_19.toInt ∧ y_19.toInt ≤ 12 := b_y_19
  have hl : lv_has ls 6 [(5, .int y_19), (3, .long y_20), (0, .int a1), (1, .int a2), (2, .int a3)] := hl
  refine lv_iload hx hb dX0_masks_5 (lv_at hl 0 rfl) ?_
  refine lv_iload_n hx hb dX0_masks_7 rfl (lv_at hl 4 rfl) ?_
  refine lv_icmp_ge (tgt := 26) hx hb dX0_masks_8 (by decide) (fun c_25 => ?_) (fun c_25 => ?_)
  ·
    have n_c_25 : (a3.toInt : Int) ≤ y_19.toInt := c_ge rfl rfl c_25
    have b_y_19 : (0 : Int) ≤ y_19.toInt ∧ y_19.toInt ≤ 12 := r_le2 b_a3 b_y_19 n_c_25 (by decide)
    refine lv_lload_n hx hb dX0_masks_26 rfl (lv_at hl 1 rfl) ?_
    exact W.lret (v := y_20) hx hb hr (fun t ht hW => ⟨y_20, rfl, trivial, ht⟩) t_nil dX0_masks_27
  ·
    have n_c_25 : (y_19.toInt : Int) < a3.toInt := c_nge rfl rfl c_25
    have b_y_19 : (-12 : Int) ≤ y_19.toInt ∧ y_19.toInt ≤ 11 := r_lt1 b_y_19 b_a3 n_c_25 (by decide)
    refine lv_lload_n hx hb dX0_masks_11 rfl (lv_at hl 1 rfl) ?_
    refine lv_iload_n hx hb dX0_masks_12 rfl (lv_at hl 2 rfl) ?_
    refine lv_iload hx hb dX0_masks_13 (lv_at hl 0 rfl) ?_
    refine vp_callSl (W.runS (As := [.int a1, .int y_19]) (rest := [.long y_20]) ⟨hx, hb, hml, hown, hts⟩ (kX0_maskAt l dC dI a1 y_19 ) (va_cwS 2 hts gX0_masks__X0_maskAt_S15 rfl rfl rfl hd_yX0_maskAt.2 ⟨lel 1 1 rfl, lel 21 21 rfl⟩) ⟨pn_fb, pn_use⟩ rfl rfl hl.1 rfl (lv_room (Nat.le_of_ble_eq_true rfl)) dX0_masks_15 ⟨lel 0 0 rfl, lel 0 0 rfl⟩) (fun r_26 h_r_26 => ?_)
    refine lv_lor hx hb dX0_masks_18 ?_
    refine lv_topl (fun z_27 e_z_27 => ?_)
    refine lv_lstore_n (lv' := [(3, .long z_27), (5, .int y_19), (0, .int a1), (1, .int a2), (2, .int a3)]) hx hb dX0_masks_19 rfl hl (by decide) rfl (fun ls hl => ?_)
    obtain ⟨z_28, e_z_28⟩ : ∃ y : Int32, y = y_19 + 1 := ⟨_, rfl⟩
    refine lv_iinc (v := z_28) (lv' := [(5, .int z_28), (3, .long z_27), (0, .int a1), (1, .int a2), (2, .int a3)]) hx hb dX0_masks_20 hl (k := 1) rfl (by rw [e_z_28]; rfl) (by decide) rfl (fun ls hl => ?_)
    obtain ⟨q_z_28, b_z_28⟩ := ti_add (lo := -11) (hi := 12) e_z_28 rfl (by decide : (1 : Int32).toInt = 1) b_y_19 (by decide : (1 : Int) ≤ (1 : Int32).toInt ∧ (1 : Int32).toInt ≤ 1) (by decide)
    refine lv_goto (tgt := 5) hx hb dX0_masks_23 (by decide) ?_
    exact ih_5_24 (z_28, z_27) _ ⟨(show (-12 : Int) ≤ z_28.toInt ∧ z_28.toInt ≤ 12 from (rg_w b_z_28 (by decide) (by decide))), lv_sub hl [0, 1, 2, 3, 4] rfl⟩ (show (12 - z_28.toInt).toNat < (12 - y_19.toInt).toNat by omega)
theorem dX0_firstHalf_0 : decode cX0_firstHalf 0 = .ok (.iload_n 0, 1) := by decide +kernel
theorem dX0_firstHalf_1 : decode cX0_firstHalf 1 = .ok (.iconst 0, 1) := by decide +kernel
theorem dX0_firstHalf_2 : decode cX0_firstHalf 2 = .ok (.iload_n 0, 1) := by decide +kernel
theorem dX0_firstHalf_3 : decode cX0_firstHalf 3 = .ok (.iconst 2, 1) := by decide +kernel
theorem dX0_firstHalf_4 : decode cX0_firstHalf 4 = .ok (.idiv, 1) := by decide +kernel
theorem dX0_firstHalf_5 : decode cX0_firstHalf 5 = .ok (.invokestatic 9, 3) := by decide +kernel
theorem dX0_firstHalf_8 : decode cX0_firstHalf 8 = .ok (.lreturn, 1) := by decide +kernel
theorem hd_yX0_firstHalf : yX0_firstHalf.cls = RX0 ∧ yX0_firstHalf.cls ≠ "java/lang/invoke/MethodHandle" ∧ yX0_firstHalf.cls ≠ "java/lang/invoke/VarHandle" ∧ (parseMethodDescriptor yX0_firstHalf.desc).map (fun d => d.parameters.length) = some 1 := by decide +kernel
def uX0_firstHalf : List Cond := List.cons (.code yX0_firstHalf cX0_firstHalf 1 (some .long)) (HAppend.hAppend ([.methodLink RX0 9 yX0_masks, .static yX0_masks, .initialized RX0] : List Cond) uX0_masks)
theorem guX0_firstHalf : GU uX0_firstHalf := gu_cons (gu_app (by decide +kernel) guX0_masks)
theorem gX0_firstHalf__X0_masks_S9 : GoodIn uX0_firstHalf (va_wsS RX0 9 yX0_masks uX0_masks) := gin_S (List.mem_of_getElem? (i := 1) rfl) (List.mem_of_getElem? (i := 2) rfl) (List.mem_of_getElem? (i := 3) rfl) (fun _ h => (List.mem_cons_of_mem _ (List.mem_append_right _ h))) guX0_masks
set_option maxHeartbeats 4000000 in
set_option maxRecDepth 100000 in
theorem kX0_firstHalf (l : Launch) (dC : Nat → ClassId) (dI : Nat → Nat → Nat) (a1 : Int32) (b_a1 : (0 : Int) ≤ a1.toInt ∧ a1.toInt ≤ 12) : Met l yX0_firstHalf uX0_firstHalf ({ frames := 2, cells := 0, slots := 0, locals := 46 }) (va_Pc [.int a1] (fun _ => True)) (vp_Sl (fun r => True)) 0 0 (fun _ => False) := by
  refine Met.ofW (cc := cX0_firstHalf) (maxL := 1) (ret := (some .long)) pn_X0 rfl ?_
  intro p e s m args below meth c s₁ B hml hv
  obtain ⟨rfl, _⟩ := hv
  have hx := B.exec
  have hb := B.bytes
  have hr := B.returns
  have hts := atoms_spec (ws := uX0_firstHalf) B.pre
  have hown : s.vm.findClass RX0 = some m.cls := hown_of B.named rfl
  have hlocks := B.notSynchronized
  have hl := lv_entry ([.int a1]) (n := 1) (Nat.le_of_ble_eq_true rfl)
  rw [lg_entry_eq]
  generalize (lg_sl ([.int a1]) ++ List.replicate (1 - (lg_sl ([.int a1])).length) Slot.unset).toArray = ls at hl ⊢
  have hl : lv_has ls 1 [(0, .int a1)] := hl
  refine lv_iload_n hx hb dX0_firstHalf_0 rfl (lv_at hl 0 rfl) ?_
  refine lv_iconst (v := 0) hx hb dX0_firstHalf_1 (by decide) ?_
  refine lv_iload_n hx hb dX0_firstHalf_2 rfl (lv_at hl 0 rfl) ?_
  refine lv_iconst (v := 2) hx hb dX0_firstHalf_3 (by decide) ?_
  refine lv_idiv hx hb dX0_firstHalf_4 (by decide) ?_
  refine lv_topi (fun z_3 e_z_3 => ?_)
  obtain ⟨q_z_3, b_z_3⟩ := ti_div (hi := 6) e_z_3 rfl (by decide : (2 : Int32).toInt = 2) b_a1 (by decide : (2 : Int) ≤ (2 : Int32).toInt ∧ (2 : Int32).toInt ≤ 2) (by decide)
  refine vp_callSl (W.runS (As := [.int a1, .int 0, .int z_3]) (rest := []) ⟨hx, hb, hml, hown, hts⟩ (kX0_masks l dC dI a1 0 z_3 (rg_w (by decide : (0 : Int) ≤ (0 : Int32).toInt ∧ (0 : Int32).toInt ≤ 0) (by decide) (by decide)) (rg_w b_z_3 (by decide) (by decide))) (va_cwS 3 hts gX0_firstHalf__X0_masks_S9 rfl rfl rfl hd_yX0_masks.2 ⟨lel 2 2 rfl, lel 46 46 rfl⟩) ⟨pn_fb, pn_use⟩ rfl rfl hl.1 rfl (lv_room (Nat.le_of_ble_eq_true rfl)) dX0_firstHalf_5 ⟨lel 0 0 rfl, lel 0 0 rfl⟩) (fun r_4 h_r_4 => ?_)
  exact W.lret (v := r_4) hx hb hr (fun t ht hW => ⟨r_4, rfl, trivial, ht⟩) t_nil dX0_firstHalf_8
theorem dX0_lastHalf_0 : decode cX0_lastHalf 0 = .ok (.iload_n 0, 1) := by decide +kernel
theorem dX0_lastHalf_1 : decode cX0_lastHalf 1 = .ok (.iload_n 0, 1) := by decide +kernel
theorem dX0_lastHalf_2 : decode cX0_lastHalf 2 = .ok (.iload_n 0, 1) := by decide +kernel
theorem dX0_lastHalf_3 : decode cX0_lastHalf 3 = .ok (.iconst 2, 1) := by decide +kernel
theorem dX0_lastHalf_4 : decode cX0_lastHalf 4 = .ok (.idiv, 1) := by decide +kernel
theorem dX0_lastHalf_5 : decode cX0_lastHalf 5 = .ok (.isub, 1) := by decide +kernel
theorem dX0_lastHalf_6 : decode cX0_lastHalf 6 = .ok (.iload_n 0, 1) := by decide +kernel
theorem dX0_lastHalf_7 : decode cX0_lastHalf 7 = .ok (.invokestatic 9, 3) := by decide +kernel
theorem dX0_lastHalf_10 : decode cX0_lastHalf 10 = .ok (.lreturn, 1) := by decide +kernel
theorem hd_yX0_lastHalf : yX0_lastHalf.cls = RX0 ∧ yX0_lastHalf.cls ≠ "java/lang/invoke/MethodHandle" ∧ yX0_lastHalf.cls ≠ "java/lang/invoke/VarHandle" ∧ (parseMethodDescriptor yX0_lastHalf.desc).map (fun d => d.parameters.length) = some 1 := by decide +kernel
def uX0_lastHalf : List Cond := List.cons (.code yX0_lastHalf cX0_lastHalf 1 (some .long)) (HAppend.hAppend ([.methodLink RX0 9 yX0_masks, .static yX0_masks, .initialized RX0] : List Cond) uX0_masks)
theorem guX0_lastHalf : GU uX0_lastHalf := gu_cons (gu_app (by decide +kernel) guX0_masks)
theorem gX0_lastHalf__X0_masks_S9 : GoodIn uX0_lastHalf (va_wsS RX0 9 yX0_masks uX0_masks) := gin_S (List.mem_of_getElem? (i := 1) rfl) (List.mem_of_getElem? (i := 2) rfl) (List.mem_of_getElem? (i := 3) rfl) (fun _ h => (List.mem_cons_of_mem _ (List.mem_append_right _ h))) guX0_masks
set_option maxHeartbeats 4000000 in
set_option maxRecDepth 100000 in
theorem kX0_lastHalf (l : Launch) (dC : Nat → ClassId) (dI : Nat → Nat → Nat) (a1 : Int32) (b_a1 : (0 : Int) ≤ a1.toInt ∧ a1.toInt ≤ 12) : Met l yX0_lastHalf uX0_lastHalf ({ frames := 2, cells := 0, slots := 0, locals := 46 }) (va_Pc [.int a1] (fun _ => True)) (vp_Sl (fun r => True)) 0 0 (fun _ => False) := by
  refine Met.ofW (cc := cX0_lastHalf) (maxL := 1) (ret := (some .long)) pn_X0 rfl ?_
  intro p e s m args below meth c s₁ B hml hv
  obtain ⟨rfl, _⟩ := hv
  have hx := B.exec
  have hb := B.bytes
  have hr := B.returns
  have hts := atoms_spec (ws := uX0_lastHalf) B.pre
  have hown : s.vm.findClass RX0 = some m.cls := hown_of B.named rfl
  have hlocks := B.notSynchronized
  have hl := lv_entry ([.int a1]) (n := 1) (Nat.le_of_ble_eq_true rfl)
  rw [lg_entry_eq]
  generalize (lg_sl ([.int a1]) ++ List.replicate (1 - (lg_sl ([.int a1])).length) Slot.unset).toArray = ls at hl ⊢
  have hl : lv_has ls 1 [(0, .int a1)] := hl
  refine lv_iload_n hx hb dX0_lastHalf_0 rfl (lv_at hl 0 rfl) ?_
  refine lv_iload_n hx hb dX0_lastHalf_1 rfl (lv_at hl 0 rfl) ?_
  refine lv_iload_n hx hb dX0_lastHalf_2 rfl (lv_at hl 0 rfl) ?_
  refine lv_iconst (v := 2) hx hb dX0_lastHalf_3 (by decide) ?_
  refine lv_idiv hx hb dX0_lastHalf_4 (by decide) ?_
  refine lv_topi (fun z_4 e_z_4 => ?_)
  obtain ⟨q_z_4, b_z_4⟩ := ti_div (hi := 6) e_z_4 rfl (by decide : (2 : Int32).toInt = 2) b_a1 (by decide : (2 : Int) ≤ (2 : Int32).toInt ∧ (2 : Int32).toInt ≤ 2) (by decide)
  refine lv_isub hx hb dX0_lastHalf_5 ?_
  refine lv_topi (fun z_5 e_z_5 => ?_)
  obtain ⟨q_z_5, b_z_5⟩ := ti_sub (lo := -6) (hi := 12) e_z_5 rfl rfl b_a1 b_z_4 (by decide)
  refine lv_iload_n hx hb dX0_lastHalf_6 rfl (lv_at hl 0 rfl) ?_
  refine vp_callSl (W.runS (As := [.int a1, .int z_5, .int a1]) (rest := []) ⟨hx, hb, hml, hown, hts⟩ (kX0_masks l dC dI a1 z_5 a1 (rg_w b_z_5 (by decide) (by decide)) b_a1) (va_cwS 3 hts gX0_lastHalf__X0_masks_S9 rfl rfl rfl hd_yX0_masks.2 ⟨lel 2 2 rfl, lel 46 46 rfl⟩) ⟨pn_fb, pn_use⟩ rfl rfl hl.1 rfl (lv_room (Nat.le_of_ble_eq_true rfl)) dX0_lastHalf_7 ⟨lel 0 0 rfl, lel 0 0 rfl⟩) (fun r_6 h_r_6 => ?_)
  exact W.lret (v := r_6) hx hb hr (fun t ht hW => ⟨r_6, rfl, trivial, ht⟩) t_nil dX0_lastHalf_10
theorem dX0_everySecond_0 : decode cX0_everySecond 0 = .ok (.lconst 0, 1) := by decide +kernel
theorem dX0_everySecond_1 : decode cX0_everySecond 1 = .ok (.lstore_n 2, 1) := by decide +kernel
theorem dX0_everySecond_2 : decode cX0_everySecond 2 = .ok (.iload_n 1, 1) := by decide +kernel
theorem dX0_everySecond_3 : decode cX0_everySecond 3 = .ok (.istore 4, 2) := by decide +kernel
theorem dX0_everySecond_5 : decode cX0_everySecond 5 = .ok (.iload 4, 2) := by decide +kernel
theorem dX0_everySecond_7 : decode cX0_everySecond 7 = .ok (.iload_n 0, 1) := by decide +kernel
theorem dX0_everySecond_8 : decode cX0_everySecond 8 = .ok (.if_icmp .ge 18, 3) := by decide +kernel
theorem dX0_everySecond_11 : decode cX0_everySecond 11 = .ok (.lload_n 2, 1) := by decide +kernel
theorem dX0_everySecond_12 : decode cX0_everySecond 12 = .ok (.iload_n 0, 1) := by decide +kernel
theorem dX0_everySecond_13 : decode cX0_everySecond 13 = .ok (.iload 4, 2) := by decide +kernel
theorem dX0_everySecond_15 : decode cX0_everySecond 15 = .ok (.invokestatic 15, 3) := by decide +kernel
theorem dX0_everySecond_18 : decode cX0_everySecond 18 = .ok (.lor, 1) := by decide +kernel
theorem dX0_everySecond_19 : decode cX0_everySecond 19 = .ok (.lstore_n 2, 1) := by decide +kernel
theorem dX0_everySecond_20 : decode cX0_everySecond 20 = .ok (.iinc 4 2, 3) := by decide +kernel
theorem dX0_everySecond_23 : decode cX0_everySecond 23 = .ok (.goto (-18), 3) := by decide +kernel
theorem dX0_everySecond_26 : decode cX0_everySecond 26 = .ok (.lload_n 2, 1) := by decide +kernel
theorem dX0_everySecond_27 : decode cX0_everySecond 27 = .ok (.lreturn, 1) := by decide +kernel
theorem hd_yX0_everySecond : yX0_everySecond.cls = RX0 ∧ yX0_everySecond.cls ≠ "java/lang/invoke/MethodHandle" ∧ yX0_everySecond.cls ≠ "java/lang/invoke/VarHandle" ∧ (parseMethodDescriptor yX0_everySecond.desc).map (fun d => d.parameters.length) = some 2 := by decide +kernel
def uX0_everySecond : List Cond := List.cons (.code yX0_everySecond cX0_everySecond 5 (some .long)) (HAppend.hAppend ([.methodLink RX0 15 yX0_maskAt, .static yX0_maskAt, .initialized RX0] : List Cond) uX0_maskAt)
theorem guX0_everySecond : GU uX0_everySecond := gu_cons (gu_app (by decide +kernel) guX0_maskAt)
theorem gX0_everySecond__X0_maskAt_S15 : GoodIn uX0_everySecond (va_wsS RX0 15 yX0_maskAt uX0_maskAt) := gin_S (List.mem_of_getElem? (i := 1) rfl) (List.mem_of_getElem? (i := 2) rfl) (List.mem_of_getElem? (i := 3) rfl) (fun _ h => (List.mem_cons_of_mem _ (List.mem_append_right _ h))) guX0_maskAt
set_option maxHeartbeats 4000000 in
set_option maxRecDepth 100000 in
theorem kX0_everySecond (l : Launch) (dC : Nat → ClassId) (dI : Nat → Nat → Nat) (a1 : Int32) (a2 : Int32) (b_a1 : (0 : Int) ≤ a1.toInt ∧ a1.toInt ≤ 12) (b_a2 : (0 : Int) ≤ a2.toInt ∧ a2.toInt ≤ 1) : Met l yX0_everySecond uX0_everySecond ({ frames := 1, cells := 0, slots := 0, locals := 21 }) (va_Pc [.int a1, .int a2] (fun _ => True)) (vp_Sl (fun r => True)) 0 0 (fun _ => False) := by
  refine Met.ofW (cc := cX0_everySecond) (maxL := 5) (ret := (some .long)) pn_X0 rfl ?_
  intro p e s m args below meth c s₁ B hml hv
  obtain ⟨rfl, _⟩ := hv
  have hx := B.exec
  have hb := B.bytes
  have hr := B.returns
  have hts := atoms_spec (ws := uX0_everySecond) B.pre
  have hown : s.vm.findClass RX0 = some m.cls := hown_of B.named rfl
  have hlocks := B.notSynchronized
  have hl := lv_entry ([.int a1, .int a2]) (n := 5) (Nat.le_of_ble_eq_true rfl)
  rw [lg_entry_eq]
  generalize (lg_sl ([.int a1, .int a2]) ++ List.replicate (5 - (lg_sl ([.int a1, .int a2])).length) Slot.unset).toArray = ls at hl ⊢
  have hl : lv_has ls 5 [(0, .int a1), (1, .int a2)] := hl
  refine lv_lconst (v := 0) hx hb dX0_everySecond_0 (by decide) ?_
  refine lv_lstore_n (lv' := [(2, .long 0), (0, .int a1), (1, .int a2)]) hx hb dX0_everySecond_1 rfl hl (by decide) rfl (fun ls hl => ?_)
  refine lv_iload_n hx hb dX0_everySecond_2 rfl (lv_at hl 2 rfl) ?_
  refine lv_istore (lv' := [(4, .int a2), (2, .long 0), (0, .int a1), (1, .int a2)]) hx hb dX0_everySecond_3 hl (by decide) rfl (fun ls hl => ?_)
  refine loopP (σ := Int32 × Int64) (fun v => (13 - v.1.toInt).toNat) (fun v ls => ((0 : Int) ≤ v.1.toInt ∧ v.1.toInt ≤ 13) ∧ lv_has ls 5 [(4, .int v.1), (2, .long v.2), (0, .int a1), (1, .int a2)]) (fun v ls hI ih_5_56 => ?_) (a2, (0 : Int64)) ⟨(show (0 : Int) ≤ a2.toInt ∧ a2.toInt ≤ 13 from (rg_w b_a2 (by decide) (by decide))), lv_sub hl [0, 1, 2, 3] rfl⟩
  obtain ⟨y_35, y_36⟩ := v
  obtain ⟨b_y_35, hl⟩ := hI
  have b_y_35 : (0 : Int) ≤ y_35.toInt ∧ y_35.toInt ≤ 13 := b_y_35
  have hl : lv_has ls 5 [(4, .int y_35), (2, .long y_36), (0, .int a1), (1, .int a2)] := hl
  refine lv_iload hx hb dX0_everySecond_5 (lv_at hl 0 rfl) ?_
  refine lv_iload_n hx hb dX0_everySecond_7 rfl (lv_at hl 2 rfl) ?_
  refine lv_icmp_ge (tgt := 26) hx hb dX0_everySecond_8 (by decide) (fun c_57 => ?_) (fun c_57 => ?_)
  ·
    have n_c_57 : (a1.toInt : Int) ≤ y_35.toInt := c_ge rfl rfl c_57
    refine lv_lload_n hx hb dX0_everySecond_26 rfl (lv_at hl 1 rfl) ?_
    exact W.lret (v := y_36) hx hb hr (fun t ht hW => ⟨y_36, rfl, trivial, ht⟩) t_nil dX0_everySecond_27
  ·
    have n_c_57 : (y_35.toInt : Int) < a1.toInt := c_nge rfl rfl c_57
    have b_y_35 : (0 : Int) ≤ y_35.toInt ∧ y_35.toInt ≤ 11 := r_lt1 b_y_35 b_a1 n_c_57 (by decide)
    have b_a1 : (1 : Int) ≤ a1.toInt ∧ a1.toInt ≤ 12 := r_lt2 b_y_35 b_a1 n_c_57 (by decide)
    refine lv_lload_n hx hb dX0_everySecond_11 rfl (lv_at hl 1 rfl) ?_
    refine lv_iload_n hx hb dX0_everySecond_12 rfl (lv_at hl 2 rfl) ?_
    refine lv_iload hx hb dX0_everySecond_13 (lv_at hl 0 rfl) ?_
    refine vp_callSl (W.runS (As := [.int a1, .int y_35]) (rest := [.long y_36]) ⟨hx, hb, hml, hown, hts⟩ (kX0_maskAt l dC dI a1 y_35 ) (va_cwS 2 hts gX0_everySecond__X0_maskAt_S15 rfl rfl rfl hd_yX0_maskAt.2 ⟨lel 1 1 rfl, lel 21 21 rfl⟩) ⟨pn_fb, pn_use⟩ rfl rfl hl.1 rfl (lv_room (Nat.le_of_ble_eq_true rfl)) dX0_everySecond_15 ⟨lel 0 0 rfl, lel 0 0 rfl⟩) (fun r_58 h_r_58 => ?_)
    refine lv_lor hx hb dX0_everySecond_18 ?_
    refine lv_topl (fun z_59 e_z_59 => ?_)
    refine lv_lstore_n (lv' := [(2, .long z_59), (4, .int y_35), (0, .int a1), (1, .int a2)]) hx hb dX0_everySecond_19 rfl hl (by decide) rfl (fun ls hl => ?_)
    obtain ⟨z_60, e_z_60⟩ : ∃ y : Int32, y = y_35 + 2 := ⟨_, rfl⟩
    refine lv_iinc (v := z_60) (lv' := [(4, .int z_60), (2, .long z_59), (0, .int a1), (1, .int a2)]) hx hb dX0_everySecond_20 hl (k := 1) rfl (by rw [e_z_60]; rfl) (by decide) rfl (fun ls hl => ?_)
    obtain ⟨q_z_60, b_z_60⟩ := ti_add (lo := 2) (hi := 13) e_z_60 rfl (by decide : (2 : Int32).toInt = 2) b_y_35 (by decide : (2 : Int) ≤ (2 : Int32).toInt ∧ (2 : Int32).toInt ≤ 2) (by decide)
    refine lv_goto (tgt := 5) hx hb dX0_everySecond_23 (by decide) ?_
    exact ih_5_56 (z_60, z_59) _ ⟨(show (0 : Int) ≤ z_60.toInt ∧ z_60.toInt ≤ 13 from (rg_w b_z_60 (by decide) (by decide))), lv_sub hl [0, 1, 2, 3] rfl⟩ (show (13 - z_60.toInt).toNat < (13 - y_35.toInt).toNat by omega)
theorem dX0_sumOf_0 : decode cX0_sumOf 0 = .ok (.lload_n 0, 1) := by decide +kernel
theorem dX0_sumOf_1 : decode cX0_sumOf 1 = .ok (.ldc2_w 19, 3) := by decide +kernel
theorem dX0_sumOf_4 : decode cX0_sumOf 4 = .ok (.land, 1) := by decide +kernel
theorem dX0_sumOf_5 : decode cX0_sumOf 5 = .ok (.lload_n 0, 1) := by decide +kernel
theorem dX0_sumOf_6 : decode cX0_sumOf 6 = .ok (.iconst 4, 1) := by decide +kernel
theorem dX0_sumOf_7 : decode cX0_sumOf 7 = .ok (.lushr, 1) := by decide +kernel
theorem dX0_sumOf_8 : decode cX0_sumOf 8 = .ok (.ldc2_w 19, 3) := by decide +kernel
theorem dX0_sumOf_11 : decode cX0_sumOf 11 = .ok (.land, 1) := by decide +kernel
theorem dX0_sumOf_12 : decode cX0_sumOf 12 = .ok (.ladd, 1) := by decide +kernel
theorem dX0_sumOf_13 : decode cX0_sumOf 13 = .ok (.lstore_n 2, 1) := by decide +kernel
theorem dX0_sumOf_14 : decode cX0_sumOf 14 = .ok (.lload_n 2, 1) := by decide +kernel
theorem dX0_sumOf_15 : decode cX0_sumOf 15 = .ok (.ldc2_w 21, 3) := by decide +kernel
theorem dX0_sumOf_18 : decode cX0_sumOf 18 = .ok (.lmul, 1) := by decide +kernel
theorem dX0_sumOf_19 : decode cX0_sumOf 19 = .ok (.bipush 56, 2) := by decide +kernel
theorem dX0_sumOf_21 : decode cX0_sumOf 21 = .ok (.lushr, 1) := by decide +kernel
theorem dX0_sumOf_22 : decode cX0_sumOf 22 = .ok (.l2i, 1) := by decide +kernel
theorem dX0_sumOf_23 : decode cX0_sumOf 23 = .ok (.ireturn, 1) := by decide +kernel
theorem hd_yX0_sumOf : yX0_sumOf.cls = RX0 ∧ yX0_sumOf.cls ≠ "java/lang/invoke/MethodHandle" ∧ yX0_sumOf.cls ≠ "java/lang/invoke/VarHandle" ∧ (parseMethodDescriptor yX0_sumOf.desc).map (fun d => d.parameters.length) = some 1 := by decide +kernel
def uX0_sumOf : List Cond := List.cons (.code yX0_sumOf cX0_sumOf 4 (some .int)) ([.constantLong RX0 19 (1085102592571150095), .constantLong RX0 21 (72340172838076673)] : List Cond)
theorem guX0_sumOf : GU uX0_sumOf := gu_cons (gu_all (by decide +kernel))
set_option maxHeartbeats 4000000 in
set_option maxRecDepth 100000 in
theorem kX0_sumOf (l : Launch) (dC : Nat → ClassId) (dI : Nat → Nat → Nat) (a1 : Int64) : Met l yX0_sumOf uX0_sumOf ({ frames := 0, cells := 0, slots := 0, locals := 0 }) (va_Pc [.long a1] (fun _ => True)) (vp_Si (fun r => ((0 : Int) ≤ r.toInt ∧ r.toInt ≤ 255))) 0 0 (fun _ => False) := by
  refine Met.ofW (cc := cX0_sumOf) (maxL := 4) (ret := (some .int)) pn_X0 rfl ?_
  intro p e s m args below meth c s₁ B hml hv
  obtain ⟨rfl, _⟩ := hv
  have hx := B.exec
  have hb := B.bytes
  have hr := B.returns
  have hts := atoms_spec (ws := uX0_sumOf) B.pre
  have hown : s.vm.findClass RX0 = some m.cls := hown_of B.named rfl
  have hlocks := B.notSynchronized
  have hl := lv_entry ([.long a1]) (n := 4) (Nat.le_of_ble_eq_true rfl)
  rw [lg_entry_eq]
  generalize (lg_sl ([.long a1]) ++ List.replicate (4 - (lg_sl ([.long a1])).length) Slot.unset).toArray = ls at hl ⊢
  have hl : lv_has ls 4 [(0, .long a1)] := hl
  refine lv_lload_n hx hb dX0_sumOf_0 rfl (lv_at hl 0 rfl) ?_
  refine lv_ldc2 (v := 1085102592571150095) hx hb hown (hts (.constantLong RX0 19 (1085102592571150095)) (List.mem_of_getElem? (i := 1) rfl)) dX0_sumOf_1 ?_
  refine lv_land hx hb dX0_sumOf_4 ?_
  refine lv_topl (fun z_8 e_z_8 => ?_)
  refine lv_lload_n hx hb dX0_sumOf_5 rfl (lv_at hl 0 rfl) ?_
  refine lv_iconst (v := 4) hx hb dX0_sumOf_6 (by decide) ?_
  obtain ⟨z_9, e_z_9⟩ : ∃ y : Int64, y = ((a1 : Int64).toUInt64 >>> ((4 : Int32).toInt64.toUInt64 &&& Int64.toUInt64 63)).toInt64 := ⟨_, rfl⟩
  refine lv_lushr (v := z_9) hx hb dX0_sumOf_7 e_z_9.symm ?_
  refine lv_ldc2 (v := 1085102592571150095) hx hb hown (hts (.constantLong RX0 19 (1085102592571150095)) (List.mem_of_getElem? (i := 1) rfl)) dX0_sumOf_8 ?_
  refine lv_land hx hb dX0_sumOf_11 ?_
  refine lv_topl (fun z_10 e_z_10 => ?_)
  refine lv_ladd hx hb dX0_sumOf_12 ?_
  refine lv_topl (fun z_11 e_z_11 => ?_)
  refine lv_lstore_n (lv' := [(2, .long z_11), (0, .long a1)]) hx hb dX0_sumOf_13 rfl hl (by decide) rfl (fun ls hl => ?_)
  refine lv_lload_n hx hb dX0_sumOf_14 rfl (lv_at hl 0 rfl) ?_
  refine lv_ldc2 (v := 72340172838076673) hx hb hown (hts (.constantLong RX0 21 (72340172838076673)) (List.mem_of_getElem? (i := 2) rfl)) dX0_sumOf_15 ?_
  refine lv_lmul hx hb dX0_sumOf_18 ?_
  refine lv_topl (fun z_12 e_z_12 => ?_)
  refine lv_bipush (v := 56) hx hb dX0_sumOf_19 (by decide) ?_
  obtain ⟨z_13, e_z_13⟩ : ∃ y : Int64, y = ((z_12 : Int64).toUInt64 >>> ((56 : Int32).toInt64.toUInt64 &&& Int64.toUInt64 63)).toInt64 := ⟨_, rfl⟩
  refine lv_lushr (v := z_13) hx hb dX0_sumOf_21 e_z_13.symm ?_
  have b_z_13 : (0 : Int) ≤ z_13.toInt ∧ z_13.toInt ≤ 255 := tl_ush56 e_z_13
  obtain ⟨z_14, e_z_14⟩ : ∃ y : Int32, y = z_13.toInt32 := ⟨_, rfl⟩
  refine lv_l2i (v := z_14) hx hb dX0_sumOf_22 e_z_14.symm ?_
  obtain ⟨q_z_14, b_z_14⟩ := ti_l2i e_z_14 b_z_13 (by decide)
  exact W.iret (v := z_14) hx hb hr (fun t ht hW => ⟨z_14, rfl, b_z_14, ht⟩) t_nil dX0_sumOf_23
theorem dX0_changes_0 : decode cX0_changes 0 = .ok (.lload_n 0, 1) := by decide +kernel
theorem dX0_changes_1 : decode cX0_changes 1 = .ok (.lload_n 2, 1) := by decide +kernel
theorem dX0_changes_2 : decode cX0_changes 2 = .ok (.lxor, 1) := by decide +kernel
theorem dX0_changes_3 : decode cX0_changes 3 = .ok (.lstore 4, 2) := by decide +kernel
theorem dX0_changes_5 : decode cX0_changes 5 = .ok (.lload 4, 2) := by decide +kernel
theorem dX0_changes_7 : decode cX0_changes 7 = .ok (.lload 4, 2) := by decide +kernel
theorem dX0_changes_9 : decode cX0_changes 9 = .ok (.iconst 2, 1) := by decide +kernel
theorem dX0_changes_10 : decode cX0_changes 10 = .ok (.lushr, 1) := by decide +kernel
theorem dX0_changes_11 : decode cX0_changes 11 = .ok (.lor, 1) := by decide +kernel
theorem dX0_changes_12 : decode cX0_changes 12 = .ok (.lstore 4, 2) := by decide +kernel
theorem dX0_changes_14 : decode cX0_changes 14 = .ok (.lload 4, 2) := by decide +kernel
theorem dX0_changes_16 : decode cX0_changes 16 = .ok (.lload 4, 2) := by decide +kernel
theorem dX0_changes_18 : decode cX0_changes 18 = .ok (.iconst 1, 1) := by decide +kernel
theorem dX0_changes_19 : decode cX0_changes 19 = .ok (.lushr, 1) := by decide +kernel
theorem dX0_changes_20 : decode cX0_changes 20 = .ok (.lor, 1) := by decide +kernel
theorem dX0_changes_21 : decode cX0_changes 21 = .ok (.lstore 4, 2) := by decide +kernel
theorem dX0_changes_23 : decode cX0_changes 23 = .ok (.lload 4, 2) := by decide +kernel
theorem dX0_changes_25 : decode cX0_changes 25 = .ok (.ldc2_w 23, 3) := by decide +kernel
theorem dX0_changes_28 : decode cX0_changes 28 = .ok (.land, 1) := by decide +kernel
theorem dX0_changes_29 : decode cX0_changes 29 = .ok (.invokestatic 25, 3) := by decide +kernel
theorem dX0_changes_32 : decode cX0_changes 32 = .ok (.ireturn, 1) := by decide +kernel
theorem hd_yX0_changes : yX0_changes.cls = RX0 ∧ yX0_changes.cls ≠ "java/lang/invoke/MethodHandle" ∧ yX0_changes.cls ≠ "java/lang/invoke/VarHandle" ∧ (parseMethodDescriptor yX0_changes.desc).map (fun d => d.parameters.length) = some 2 := by decide +kernel
def uX0_changes : List Cond := List.cons (.code yX0_changes cX0_changes 6 (some .int)) (HAppend.hAppend ([.constantLong RX0 23 (1229782938247303441), .methodLink RX0 25 yJ13_bitCount_95d88, .static yJ13_bitCount_95d88, .initialized RJ13] : List Cond) uJ13_bitCount_95d88)
theorem guX0_changes : GU uX0_changes := gu_cons (gu_app (by decide +kernel) guJ13_bitCount_95d88)
theorem gX0_changes__J13_bitCount_95d88_S25 : GoodIn uX0_changes (va_wsS RX0 25 yJ13_bitCount_95d88 uJ13_bitCount_95d88) := gin_S (List.mem_of_getElem? (i := 2) rfl) (List.mem_of_getElem? (i := 3) rfl) (List.mem_of_getElem? (i := 4) rfl) (fun _ h => (List.mem_cons_of_mem _ (List.mem_append_right _ h))) guJ13_bitCount_95d88
set_option maxHeartbeats 4000000 in
set_option maxRecDepth 100000 in
theorem kX0_changes (l : Launch) (dC : Nat → ClassId) (dI : Nat → Nat → Nat) (a1 : Int64) (a2 : Int64) : Met l yX0_changes uX0_changes ({ frames := 1, cells := 0, slots := 0, locals := 21 }) (va_Pc [.long a1, .long a2] (fun _ => True)) (vp_Si (fun r => ((0 : Int) ≤ r.toInt ∧ r.toInt ≤ 127))) 0 0 (fun _ => False) := by
  refine Met.ofW (cc := cX0_changes) (maxL := 6) (ret := (some .int)) pn_X0 rfl ?_
  intro p e s m args below meth c s₁ B hml hv
  obtain ⟨rfl, _⟩ := hv
  have hx := B.exec
  have hb := B.bytes
  have hr := B.returns
  have hts := atoms_spec (ws := uX0_changes) B.pre
  have hown : s.vm.findClass RX0 = some m.cls := hown_of B.named rfl
  have hlocks := B.notSynchronized
  have hl := lv_entry ([.long a1, .long a2]) (n := 6) (Nat.le_of_ble_eq_true rfl)
  rw [lg_entry_eq]
  generalize (lg_sl ([.long a1, .long a2]) ++ List.replicate (6 - (lg_sl ([.long a1, .long a2])).length) Slot.unset).toArray = ls at hl ⊢
  have hl : lv_has ls 6 [(0, .long a1), (2, .long a2)] := hl
  refine lv_lload_n hx hb dX0_changes_0 rfl (lv_at hl 0 rfl) ?_
  refine lv_lload_n hx hb dX0_changes_1 rfl (lv_at hl 1 rfl) ?_
  refine lv_lxor hx hb dX0_changes_2 ?_
  refine lv_topl (fun z_8 e_z_8 => ?_)
  refine lv_lstore (lv' := [(4, .long z_8), (0, .long a1), (2, .long a2)]) hx hb dX0_changes_3 hl (by decide) rfl (fun ls hl => ?_)
  refine lv_lload hx hb dX0_changes_5 (lv_at hl 0 rfl) ?_
  refine lv_lload hx hb dX0_changes_7 (lv_at hl 0 rfl) ?_
  refine lv_iconst (v := 2) hx hb dX0_changes_9 (by decide) ?_
  obtain ⟨z_9, e_z_9⟩ : ∃ y : Int64, y = ((z_8 : Int64).toUInt64 >>> ((2 : Int32).toInt64.toUInt64 &&& Int64.toUInt64 63)).toInt64 := ⟨_, rfl⟩
  refine lv_lushr (v := z_9) hx hb dX0_changes_10 e_z_9.symm ?_
  refine lv_lor hx hb dX0_changes_11 ?_
  refine lv_topl (fun z_10 e_z_10 => ?_)
  refine lv_lstore (lv' := [(4, .long z_10), (0, .long a1), (2, .long a2)]) hx hb dX0_changes_12 hl (by decide) rfl (fun ls hl => ?_)
  refine lv_lload hx hb dX0_changes_14 (lv_at hl 0 rfl) ?_
  refine lv_lload hx hb dX0_changes_16 (lv_at hl 0 rfl) ?_
  refine lv_iconst (v := 1) hx hb dX0_changes_18 (by decide) ?_
  obtain ⟨z_11, e_z_11⟩ : ∃ y : Int64, y = ((z_10 : Int64).toUInt64 >>> ((1 : Int32).toInt64.toUInt64 &&& Int64.toUInt64 63)).toInt64 := ⟨_, rfl⟩
  refine lv_lushr (v := z_11) hx hb dX0_changes_19 e_z_11.symm ?_
  refine lv_lor hx hb dX0_changes_20 ?_
  refine lv_topl (fun z_12 e_z_12 => ?_)
  refine lv_lstore (lv' := [(4, .long z_12), (0, .long a1), (2, .long a2)]) hx hb dX0_changes_21 hl (by decide) rfl (fun ls hl => ?_)
  refine lv_lload hx hb dX0_changes_23 (lv_at hl 0 rfl) ?_
  refine lv_ldc2 (v := 1229782938247303441) hx hb hown (hts (.constantLong RX0 23 (1229782938247303441)) (List.mem_of_getElem? (i := 1) rfl)) dX0_changes_25 ?_
  refine lv_land hx hb dX0_changes_28 ?_
  refine lv_topl (fun z_13 e_z_13 => ?_)
  refine vp_callSi (W.runS (As := [.long z_13]) (rest := []) ⟨hx, hb, hml, hown, hts⟩ (kJ13_bitCount_95d88 l dC dI z_13 ) (va_cwS 1 hts gX0_changes__J13_bitCount_95d88_S25 rfl rfl rfl hd_yJ13_bitCount_95d88.2 ⟨lel 1 1 rfl, lel 21 21 rfl⟩) ⟨pn_fb, pn_use⟩ rfl rfl hl.1 rfl (lv_room (Nat.le_of_ble_eq_true rfl)) dX0_changes_29 ⟨lel 0 0 rfl, lel 0 0 rfl⟩) (fun r_14 h_r_14 => ?_)
  have b_r_14 := h_r_14
  have b_r_14 : (0 : Int) ≤ r_14.toInt ∧ r_14.toInt ≤ 127 := b_r_14
  exact W.iret (v := r_14) hx hb hr (fun t ht hW => ⟨r_14, rfl, b_r_14, ht⟩) t_nil dX0_changes_32
theorem dX0_countsOf_0 : decode cX0_countsOf 0 = .ok (.lconst 0, 1) := by decide +kernel
theorem dX0_countsOf_1 : decode cX0_countsOf 1 = .ok (.lstore_n 3, 1) := by decide +kernel
theorem dX0_countsOf_2 : decode cX0_countsOf 2 = .ok (.lload_n 0, 1) := by decide +kernel
theorem dX0_countsOf_3 : decode cX0_countsOf 3 = .ok (.lstore 5, 2) := by decide +kernel
theorem dX0_countsOf_5 : decode cX0_countsOf 5 = .ok (.iconst 0, 1) := by decide +kernel
theorem dX0_countsOf_6 : decode cX0_countsOf 6 = .ok (.istore 7, 2) := by decide +kernel
theorem dX0_countsOf_8 : decode cX0_countsOf 8 = .ok (.iload 7, 2) := by decide +kernel
theorem dX0_countsOf_10 : decode cX0_countsOf 10 = .ok (.iload_n 2, 1) := by decide +kernel
theorem dX0_countsOf_11 : decode cX0_countsOf 11 = .ok (.if_icmp .ge 29, 3) := by decide +kernel
theorem dX0_countsOf_14 : decode cX0_countsOf 14 = .ok (.lload_n 3, 1) := by decide +kernel
theorem dX0_countsOf_15 : decode cX0_countsOf 15 = .ok (.lconst 1, 1) := by decide +kernel
theorem dX0_countsOf_16 : decode cX0_countsOf 16 = .ok (.iconst 4, 1) := by decide +kernel
theorem dX0_countsOf_17 : decode cX0_countsOf 17 = .ok (.lload 5, 2) := by decide +kernel
theorem dX0_countsOf_19 : decode cX0_countsOf 19 = .ok (.ldc2_w 7, 3) := by decide +kernel
theorem dX0_countsOf_22 : decode cX0_countsOf 22 = .ok (.land, 1) := by decide +kernel
theorem dX0_countsOf_23 : decode cX0_countsOf 23 = .ok (.l2i, 1) := by decide +kernel
theorem dX0_countsOf_24 : decode cX0_countsOf 24 = .ok (.imul, 1) := by decide +kernel
theorem dX0_countsOf_25 : decode cX0_countsOf 25 = .ok (.lshl, 1) := by decide +kernel
theorem dX0_countsOf_26 : decode cX0_countsOf 26 = .ok (.ladd, 1) := by decide +kernel
theorem dX0_countsOf_27 : decode cX0_countsOf 27 = .ok (.lstore_n 3, 1) := by decide +kernel
theorem dX0_countsOf_28 : decode cX0_countsOf 28 = .ok (.lload 5, 2) := by decide +kernel
theorem dX0_countsOf_30 : decode cX0_countsOf 30 = .ok (.iconst 4, 1) := by decide +kernel
theorem dX0_countsOf_31 : decode cX0_countsOf 31 = .ok (.lushr, 1) := by decide +kernel
theorem dX0_countsOf_32 : decode cX0_countsOf 32 = .ok (.lstore 5, 2) := by decide +kernel
theorem dX0_countsOf_34 : decode cX0_countsOf 34 = .ok (.iinc 7 1, 3) := by decide +kernel
theorem dX0_countsOf_37 : decode cX0_countsOf 37 = .ok (.goto (-29), 3) := by decide +kernel
theorem dX0_countsOf_40 : decode cX0_countsOf 40 = .ok (.lload_n 3, 1) := by decide +kernel
theorem dX0_countsOf_41 : decode cX0_countsOf 41 = .ok (.lreturn, 1) := by decide +kernel
theorem hd_yX0_countsOf : yX0_countsOf.cls = RX0 ∧ yX0_countsOf.cls ≠ "java/lang/invoke/MethodHandle" ∧ yX0_countsOf.cls ≠ "java/lang/invoke/VarHandle" ∧ (parseMethodDescriptor yX0_countsOf.desc).map (fun d => d.parameters.length) = some 2 := by decide +kernel
def uX0_countsOf : List Cond := List.cons (.code yX0_countsOf cX0_countsOf 8 (some .long)) ([.constantLong RX0 7 (15)] : List Cond)
theorem guX0_countsOf : GU uX0_countsOf := gu_cons (gu_all (by decide +kernel))
set_option maxHeartbeats 4000000 in
set_option maxRecDepth 100000 in
theorem kX0_countsOf (l : Launch) (dC : Nat → ClassId) (dI : Nat → Nat → Nat) (a1 : Int64) (a2 : Int32) (b_a2 : (0 : Int) ≤ a2.toInt ∧ a2.toInt ≤ 12) : Met l yX0_countsOf uX0_countsOf ({ frames := 0, cells := 0, slots := 0, locals := 0 }) (va_Pc [.long a1, .int a2] (fun _ => True)) (vp_Sl (fun r => True)) 0 0 (fun _ => False) := by
  refine Met.ofW (cc := cX0_countsOf) (maxL := 8) (ret := (some .long)) pn_X0 rfl ?_
  intro p e s m args below meth c s₁ B hml hv
  obtain ⟨rfl, _⟩ := hv
  have hx := B.exec
  have hb := B.bytes
  have hr := B.returns
  have hts := atoms_spec (ws := uX0_countsOf) B.pre
  have hown : s.vm.findClass RX0 = some m.cls := hown_of B.named rfl
  have hlocks := B.notSynchronized
  have hl := lv_entry ([.long a1, .int a2]) (n := 8) (Nat.le_of_ble_eq_true rfl)
  rw [lg_entry_eq]
  generalize (lg_sl ([.long a1, .int a2]) ++ List.replicate (8 - (lg_sl ([.long a1, .int a2])).length) Slot.unset).toArray = ls at hl ⊢
  have hl : lv_has ls 8 [(0, .long a1), (2, .int a2)] := hl
  refine lv_lconst (v := 0) hx hb dX0_countsOf_0 (by decide) ?_
  refine lv_lstore_n (lv' := [(3, .long 0), (0, .long a1), (2, .int a2)]) hx hb dX0_countsOf_1 rfl hl (by decide) rfl (fun ls hl => ?_)
  refine lv_lload_n hx hb dX0_countsOf_2 rfl (lv_at hl 1 rfl) ?_
  refine lv_lstore (lv' := [(5, .long a1), (3, .long 0), (0, .long a1), (2, .int a2)]) hx hb dX0_countsOf_3 hl (by decide) rfl (fun ls hl => ?_)
  refine lv_iconst (v := 0) hx hb dX0_countsOf_5 (by decide) ?_
  refine lv_istore (lv' := [(7, .int 0), (5, .long a1), (3, .long 0), (0, .long a1), (2, .int a2)]) hx hb dX0_countsOf_6 hl (by decide) rfl (fun ls hl => ?_)
  refine loopP (σ := Int32 × Int64 × Int64) (fun v => (12 - v.1.toInt).toNat) (fun v ls => ((0 : Int) ≤ v.1.toInt ∧ v.1.toInt ≤ 12) ∧ lv_has ls 8 [(7, .int v.1), (5, .long v.2.1), (3, .long v.2.2), (0, .long a1), (2, .int a2)]) (fun v ls hI ih_8_78 => ?_) ((0 : Int32), a1, (0 : Int64)) ⟨(show (0 : Int) ≤ (0 : Int32).toInt ∧ (0 : Int32).toInt ≤ 12 from (rg_w (by decide : (0 : Int) ≤ (0 : Int32).toInt ∧ (0 : Int32).toInt ≤ 0) (by decide) (by decide))), lv_sub hl [0, 1, 2, 3, 4] rfl⟩
  obtain ⟨y_52, y_53, y_54⟩ := v
  obtain ⟨b_y_52, hl⟩ := hI
  have b_y_52 : (0 : Int) ≤ y_52.toInt ∧ y_52.toInt ≤ 12 := b_y_52
  have hl : lv_has ls 8 [(7, .int y_52), (5, .long y_53), (3, .long y_54), (0, .long a1), (2, .int a2)] := hl
  refine lv_iload hx hb dX0_countsOf_8 (lv_at hl 0 rfl) ?_
  refine lv_iload_n hx hb dX0_countsOf_10 rfl (lv_at hl 4 rfl) ?_
  refine lv_icmp_ge (tgt := 40) hx hb dX0_countsOf_11 (by decide) (fun c_79 => ?_) (fun c_79 => ?_)
  ·
    have n_c_79 : (a2.toInt : Int) ≤ y_52.toInt := c_ge rfl rfl c_79
    refine lv_lload_n hx hb dX0_countsOf_40 rfl (lv_at hl 2 rfl) ?_
    exact W.lret (v := y_54) hx hb hr (fun t ht hW => ⟨y_54, rfl, trivial, ht⟩) t_nil dX0_countsOf_41
  ·
    have n_c_79 : (y_52.toInt : Int) < a2.toInt := c_nge rfl rfl c_79
    have b_y_52 : (0 : Int) ≤ y_52.toInt ∧ y_52.toInt ≤ 11 := r_lt1 b_y_52 b_a2 n_c_79 (by decide)
    have b_a2 : (1 : Int) ≤ a2.toInt ∧ a2.toInt ≤ 12 := r_lt2 b_y_52 b_a2 n_c_79 (by decide)
    refine lv_lload_n hx hb dX0_countsOf_14 rfl (lv_at hl 2 rfl) ?_
    refine lv_lconst (v := 1) hx hb dX0_countsOf_15 (by decide) ?_
    refine lv_iconst (v := 4) hx hb dX0_countsOf_16 (by decide) ?_
    refine lv_lload hx hb dX0_countsOf_17 (lv_at hl 1 rfl) ?_
    refine lv_ldc2 (v := 15) hx hb hown (hts (.constantLong RX0 7 (15)) (List.mem_of_getElem? (i := 1) rfl)) dX0_countsOf_19 ?_
    refine lv_land hx hb dX0_countsOf_22 ?_
    refine lv_topl (fun z_80 e_z_80 => ?_)
    obtain ⟨z_81, e_z_81⟩ : ∃ y : Int32, y = z_80.toInt32 := ⟨_, rfl⟩
    refine lv_l2i (v := z_81) hx hb dX0_countsOf_23 e_z_81.symm ?_
    refine lv_imul hx hb dX0_countsOf_24 ?_
    refine lv_topi (fun z_82 e_z_82 => ?_)
    obtain ⟨z_83, e_z_83⟩ : ∃ y : Int64, y = (1 : Int64) <<< ((z_82 : Int32).toInt64 &&& 63) := ⟨_, rfl⟩
    refine lv_lshl (v := z_83) hx hb dX0_countsOf_25 e_z_83.symm ?_
    refine lv_ladd hx hb dX0_countsOf_26 ?_
    refine lv_topl (fun z_84 e_z_84 => ?_)
    refine lv_lstore_n (lv' := [(3, .long z_84), (7, .int y_52), (5, .long y_53), (0, .long a1), (2, .int a2)]) hx hb dX0_countsOf_27 rfl hl (by decide) rfl (fun ls hl => ?_)
    refine lv_lload hx hb dX0_countsOf_28 (lv_at hl 2 rfl) ?_
    refine lv_iconst (v := 4) hx hb dX0_countsOf_30 (by decide) ?_
    obtain ⟨z_85, e_z_85⟩ : ∃ y : Int64, y = ((y_53 : Int64).toUInt64 >>> ((4 : Int32).toInt64.toUInt64 &&& Int64.toUInt64 63)).toInt64 := ⟨_, rfl⟩
    refine lv_lushr (v := z_85) hx hb dX0_countsOf_31 e_z_85.symm ?_
    refine lv_lstore (lv' := [(5, .long z_85), (3, .long z_84), (7, .int y_52), (0, .long a1), (2, .int a2)]) hx hb dX0_countsOf_32 hl (by decide) rfl (fun ls hl => ?_)
    obtain ⟨z_86, e_z_86⟩ : ∃ y : Int32, y = y_52 + 1 := ⟨_, rfl⟩
    refine lv_iinc (v := z_86) (lv' := [(7, .int z_86), (5, .long z_85), (3, .long z_84), (0, .long a1), (2, .int a2)]) hx hb dX0_countsOf_34 hl (k := 2) rfl (by rw [e_z_86]; rfl) (by decide) rfl (fun ls hl => ?_)
    obtain ⟨q_z_86, b_z_86⟩ := ti_add (lo := 1) (hi := 12) e_z_86 rfl (by decide : (1 : Int32).toInt = 1) b_y_52 (by decide : (1 : Int) ≤ (1 : Int32).toInt ∧ (1 : Int32).toInt ≤ 1) (by decide)
    refine lv_goto (tgt := 8) hx hb dX0_countsOf_37 (by decide) ?_
    exact ih_8_78 (z_86, z_85, z_84) _ ⟨(show (0 : Int) ≤ z_86.toInt ∧ z_86.toInt ≤ 12 from (rg_w b_z_86 (by decide) (by decide))), lv_sub hl [0, 1, 2, 3, 4] rfl⟩ (show (12 - z_86.toInt).toNat < (12 - y_52.toInt).toNat by omega)
theorem dX0_kindsOf_0 : decode cX0_kindsOf 0 = .ok (.iconst 0, 1) := by decide +kernel
theorem dX0_kindsOf_1 : decode cX0_kindsOf 1 = .ok (.istore_n 3, 1) := by decide +kernel
theorem dX0_kindsOf_2 : decode cX0_kindsOf 2 = .ok (.lload_n 0, 1) := by decide +kernel
theorem dX0_kindsOf_3 : decode cX0_kindsOf 3 = .ok (.lstore 4, 2) := by decide +kernel
theorem dX0_kindsOf_5 : decode cX0_kindsOf 5 = .ok (.iconst 0, 1) := by decide +kernel
theorem dX0_kindsOf_6 : decode cX0_kindsOf 6 = .ok (.istore 6, 2) := by decide +kernel
theorem dX0_kindsOf_8 : decode cX0_kindsOf 8 = .ok (.iload 6, 2) := by decide +kernel
theorem dX0_kindsOf_10 : decode cX0_kindsOf 10 = .ok (.iload_n 2, 1) := by decide +kernel
theorem dX0_kindsOf_11 : decode cX0_kindsOf 11 = .ok (.if_icmp .ge 27, 3) := by decide +kernel
theorem dX0_kindsOf_14 : decode cX0_kindsOf 14 = .ok (.iload_n 3, 1) := by decide +kernel
theorem dX0_kindsOf_15 : decode cX0_kindsOf 15 = .ok (.iconst 1, 1) := by decide +kernel
theorem dX0_kindsOf_16 : decode cX0_kindsOf 16 = .ok (.lload 4, 2) := by decide +kernel
theorem dX0_kindsOf_18 : decode cX0_kindsOf 18 = .ok (.ldc2_w 7, 3) := by decide +kernel
theorem dX0_kindsOf_21 : decode cX0_kindsOf 21 = .ok (.land, 1) := by decide +kernel
theorem dX0_kindsOf_22 : decode cX0_kindsOf 22 = .ok (.l2i, 1) := by decide +kernel
theorem dX0_kindsOf_23 : decode cX0_kindsOf 23 = .ok (.ishl, 1) := by decide +kernel
theorem dX0_kindsOf_24 : decode cX0_kindsOf 24 = .ok (.ior, 1) := by decide +kernel
theorem dX0_kindsOf_25 : decode cX0_kindsOf 25 = .ok (.istore_n 3, 1) := by decide +kernel
theorem dX0_kindsOf_26 : decode cX0_kindsOf 26 = .ok (.lload 4, 2) := by decide +kernel
theorem dX0_kindsOf_28 : decode cX0_kindsOf 28 = .ok (.iconst 4, 1) := by decide +kernel
theorem dX0_kindsOf_29 : decode cX0_kindsOf 29 = .ok (.lushr, 1) := by decide +kernel
theorem dX0_kindsOf_30 : decode cX0_kindsOf 30 = .ok (.lstore 4, 2) := by decide +kernel
theorem dX0_kindsOf_32 : decode cX0_kindsOf 32 = .ok (.iinc 6 1, 3) := by decide +kernel
theorem dX0_kindsOf_35 : decode cX0_kindsOf 35 = .ok (.goto (-27), 3) := by decide +kernel
theorem dX0_kindsOf_38 : decode cX0_kindsOf 38 = .ok (.iload_n 3, 1) := by decide +kernel
theorem dX0_kindsOf_39 : decode cX0_kindsOf 39 = .ok (.invokestatic 31, 3) := by decide +kernel
theorem dX0_kindsOf_42 : decode cX0_kindsOf 42 = .ok (.ireturn, 1) := by decide +kernel
theorem hd_yX0_kindsOf : yX0_kindsOf.cls = RX0 ∧ yX0_kindsOf.cls ≠ "java/lang/invoke/MethodHandle" ∧ yX0_kindsOf.cls ≠ "java/lang/invoke/VarHandle" ∧ (parseMethodDescriptor yX0_kindsOf.desc).map (fun d => d.parameters.length) = some 2 := by decide +kernel
def uX0_kindsOf : List Cond := List.cons (.code yX0_kindsOf cX0_kindsOf 7 (some .int)) (HAppend.hAppend ([.constantLong RX0 7 (15), .methodLink RX0 31 yJ6_bitCount_0f7a4, .static yJ6_bitCount_0f7a4, .initialized RJ6] : List Cond) uJ6_bitCount_0f7a4)
theorem guX0_kindsOf : GU uX0_kindsOf := gu_cons (gu_app (by decide +kernel) guJ6_bitCount_0f7a4)
theorem gX0_kindsOf__J6_bitCount_0f7a4_S31 : GoodIn uX0_kindsOf (va_wsS RX0 31 yJ6_bitCount_0f7a4 uJ6_bitCount_0f7a4) := gin_S (List.mem_of_getElem? (i := 2) rfl) (List.mem_of_getElem? (i := 3) rfl) (List.mem_of_getElem? (i := 4) rfl) (fun _ h => (List.mem_cons_of_mem _ (List.mem_append_right _ h))) guJ6_bitCount_0f7a4
set_option maxHeartbeats 4000000 in
set_option maxRecDepth 100000 in
theorem kX0_kindsOf (l : Launch) (dC : Nat → ClassId) (dI : Nat → Nat → Nat) (a1 : Int64) (a2 : Int32) (b_a2 : (0 : Int) ≤ a2.toInt ∧ a2.toInt ≤ 12) : Met l yX0_kindsOf uX0_kindsOf ({ frames := 1, cells := 0, slots := 0, locals := 20 }) (va_Pc [.long a1, .int a2] (fun _ => True)) (vp_Si (fun r => ((0 : Int) ≤ r.toInt ∧ r.toInt ≤ 63))) 0 0 (fun _ => False) := by
  refine Met.ofW (cc := cX0_kindsOf) (maxL := 7) (ret := (some .int)) pn_X0 rfl ?_
  intro p e s m args below meth c s₁ B hml hv
  obtain ⟨rfl, _⟩ := hv
  have hx := B.exec
  have hb := B.bytes
  have hr := B.returns
  have hts := atoms_spec (ws := uX0_kindsOf) B.pre
  have hown : s.vm.findClass RX0 = some m.cls := hown_of B.named rfl
  have hlocks := B.notSynchronized
  have hl := lv_entry ([.long a1, .int a2]) (n := 7) (Nat.le_of_ble_eq_true rfl)
  rw [lg_entry_eq]
  generalize (lg_sl ([.long a1, .int a2]) ++ List.replicate (7 - (lg_sl ([.long a1, .int a2])).length) Slot.unset).toArray = ls at hl ⊢
  have hl : lv_has ls 7 [(0, .long a1), (2, .int a2)] := hl
  refine lv_iconst (v := 0) hx hb dX0_kindsOf_0 (by decide) ?_
  refine lv_istore_n (lv' := [(3, .int 0), (0, .long a1), (2, .int a2)]) hx hb dX0_kindsOf_1 rfl hl (by decide) rfl (fun ls hl => ?_)
  refine lv_lload_n hx hb dX0_kindsOf_2 rfl (lv_at hl 1 rfl) ?_
  refine lv_lstore (lv' := [(4, .long a1), (3, .int 0), (0, .long a1), (2, .int a2)]) hx hb dX0_kindsOf_3 hl (by decide) rfl (fun ls hl => ?_)
  refine lv_iconst (v := 0) hx hb dX0_kindsOf_5 (by decide) ?_
  refine lv_istore (lv' := [(6, .int 0), (4, .long a1), (3, .int 0), (0, .long a1), (2, .int a2)]) hx hb dX0_kindsOf_6 hl (by decide) rfl (fun ls hl => ?_)
  refine loopP (σ := Int32 × Int64 × Int32) (fun v => (12 - v.1.toInt).toNat) (fun v ls => ((0 : Int) ≤ v.1.toInt ∧ v.1.toInt ≤ 12) ∧ lv_has ls 7 [(6, .int v.1), (4, .long v.2.1), (3, .int v.2.2), (0, .long a1), (2, .int a2)]) (fun v ls hI ih_8_132 => ?_) ((0 : Int32), a1, (0 : Int32)) ⟨(show (0 : Int) ≤ (0 : Int32).toInt ∧ (0 : Int32).toInt ≤ 12 from (rg_w (by decide : (0 : Int) ≤ (0 : Int32).toInt ∧ (0 : Int32).toInt ≤ 0) (by decide) (by decide))), lv_sub hl [0, 1, 2, 3, 4] rfl⟩
  obtain ⟨y_88, y_89, y_90⟩ := v
  obtain ⟨b_y_88, hl⟩ := hI
  have b_y_88 : (0 : Int) ≤ y_88.toInt ∧ y_88.toInt ≤ 12 := b_y_88
  have hl : lv_has ls 7 [(6, .int y_88), (4, .long y_89), (3, .int y_90), (0, .long a1), (2, .int a2)] := hl
  refine lv_iload hx hb dX0_kindsOf_8 (lv_at hl 0 rfl) ?_
  refine lv_iload_n hx hb dX0_kindsOf_10 rfl (lv_at hl 4 rfl) ?_
  refine lv_icmp_ge (tgt := 38) hx hb dX0_kindsOf_11 (by decide) (fun c_133 => ?_) (fun c_133 => ?_)
  ·
    have n_c_133 : (a2.toInt : Int) ≤ y_88.toInt := c_ge rfl rfl c_133
    refine lv_iload_n hx hb dX0_kindsOf_38 rfl (lv_at hl 2 rfl) ?_
    refine vp_callSi (W.runS (As := [.int y_90]) (rest := []) ⟨hx, hb, hml, hown, hts⟩ (kJ6_bitCount_0f7a4 l dC dI y_90 ) (va_cwS 1 hts gX0_kindsOf__J6_bitCount_0f7a4_S31 rfl rfl rfl hd_yJ6_bitCount_0f7a4.2 ⟨lel 1 1 rfl, lel 20 20 rfl⟩) ⟨pn_fb, pn_use⟩ rfl rfl hl.1 rfl (lv_room (Nat.le_of_ble_eq_true rfl)) dX0_kindsOf_39 ⟨lel 0 0 rfl, lel 0 0 rfl⟩) (fun r_140 h_r_140 => ?_)
    have b_r_140 := h_r_140
    have b_r_140 : (0 : Int) ≤ r_140.toInt ∧ r_140.toInt ≤ 63 := b_r_140
    exact W.iret (v := r_140) hx hb hr (fun t ht hW => ⟨r_140, rfl, b_r_140, ht⟩) t_nil dX0_kindsOf_42
  ·
    have n_c_133 : (y_88.toInt : Int) < a2.toInt := c_nge rfl rfl c_133
    have b_y_88 : (0 : Int) ≤ y_88.toInt ∧ y_88.toInt ≤ 11 := r_lt1 b_y_88 b_a2 n_c_133 (by decide)
    have b_a2 : (1 : Int) ≤ a2.toInt ∧ a2.toInt ≤ 12 := r_lt2 b_y_88 b_a2 n_c_133 (by decide)
    refine lv_iload_n hx hb dX0_kindsOf_14 rfl (lv_at hl 2 rfl) ?_
    refine lv_iconst (v := 1) hx hb dX0_kindsOf_15 (by decide) ?_
    refine lv_lload hx hb dX0_kindsOf_16 (lv_at hl 1 rfl) ?_
    refine lv_ldc2 (v := 15) hx hb hown (hts (.constantLong RX0 7 (15)) (List.mem_of_getElem? (i := 1) rfl)) dX0_kindsOf_18 ?_
    refine lv_land hx hb dX0_kindsOf_21 ?_
    refine lv_topl (fun z_141 e_z_141 => ?_)
    obtain ⟨z_142, e_z_142⟩ : ∃ y : Int32, y = z_141.toInt32 := ⟨_, rfl⟩
    refine lv_l2i (v := z_142) hx hb dX0_kindsOf_22 e_z_142.symm ?_
    refine lv_ishl hx hb dX0_kindsOf_23 ?_
    refine lv_topi (fun z_143 e_z_143 => ?_)
    refine lv_ior hx hb dX0_kindsOf_24 ?_
    refine lv_topi (fun z_144 e_z_144 => ?_)
    refine lv_istore_n (lv' := [(3, .int z_144), (6, .int y_88), (4, .long y_89), (0, .long a1), (2, .int a2)]) hx hb dX0_kindsOf_25 rfl hl (by decide) rfl (fun ls hl => ?_)
    refine lv_lload hx hb dX0_kindsOf_26 (lv_at hl 2 rfl) ?_
    refine lv_iconst (v := 4) hx hb dX0_kindsOf_28 (by decide) ?_
    obtain ⟨z_145, e_z_145⟩ : ∃ y : Int64, y = ((y_89 : Int64).toUInt64 >>> ((4 : Int32).toInt64.toUInt64 &&& Int64.toUInt64 63)).toInt64 := ⟨_, rfl⟩
    refine lv_lushr (v := z_145) hx hb dX0_kindsOf_29 e_z_145.symm ?_
    refine lv_lstore (lv' := [(4, .long z_145), (3, .int z_144), (6, .int y_88), (0, .long a1), (2, .int a2)]) hx hb dX0_kindsOf_30 hl (by decide) rfl (fun ls hl => ?_)
    obtain ⟨z_146, e_z_146⟩ : ∃ y : Int32, y = y_88 + 1 := ⟨_, rfl⟩
    refine lv_iinc (v := z_146) (lv' := [(6, .int z_146), (4, .long z_145), (3, .int z_144), (0, .long a1), (2, .int a2)]) hx hb dX0_kindsOf_32 hl (k := 2) rfl (by rw [e_z_146]; rfl) (by decide) rfl (fun ls hl => ?_)
    obtain ⟨q_z_146, b_z_146⟩ := ti_add (lo := 1) (hi := 12) e_z_146 rfl (by decide : (1 : Int32).toInt = 1) b_y_88 (by decide : (1 : Int) ≤ (1 : Int32).toInt ∧ (1 : Int32).toInt ≤ 1) (by decide)
    refine lv_goto (tgt := 8) hx hb dX0_kindsOf_35 (by decide) ?_
    exact ih_8_132 (z_146, z_145, z_144) _ ⟨(show (0 : Int) ≤ z_146.toInt ∧ z_146.toInt ≤ 12 from (rg_w b_z_146 (by decide) (by decide))), lv_sub hl [0, 1, 2, 3, 4] rfl⟩ (show (12 - z_146.toInt).toNat < (12 - y_88.toInt).toNat by omega)
theorem dX0_isMirror_0 : decode cX0_isMirror 0 = .ok (.lconst 0, 1) := by decide +kernel
theorem dX0_isMirror_1 : decode cX0_isMirror 1 = .ok (.lstore_n 3, 1) := by decide +kernel
theorem dX0_isMirror_2 : decode cX0_isMirror 2 = .ok (.lload_n 0, 1) := by decide +kernel
theorem dX0_isMirror_3 : decode cX0_isMirror 3 = .ok (.lstore 5, 2) := by decide +kernel
theorem dX0_isMirror_5 : decode cX0_isMirror 5 = .ok (.iconst 0, 1) := by decide +kernel
theorem dX0_isMirror_6 : decode cX0_isMirror 6 = .ok (.istore 7, 2) := by decide +kernel
theorem dX0_isMirror_8 : decode cX0_isMirror 8 = .ok (.iload 7, 2) := by decide +kernel
theorem dX0_isMirror_10 : decode cX0_isMirror 10 = .ok (.iload_n 2, 1) := by decide +kernel
theorem dX0_isMirror_11 : decode cX0_isMirror 11 = .ok (.if_icmp .ge 26, 3) := by decide +kernel
theorem dX0_isMirror_14 : decode cX0_isMirror 14 = .ok (.lload_n 3, 1) := by decide +kernel
theorem dX0_isMirror_15 : decode cX0_isMirror 15 = .ok (.iconst 4, 1) := by decide +kernel
theorem dX0_isMirror_16 : decode cX0_isMirror 16 = .ok (.lshl, 1) := by decide +kernel
theorem dX0_isMirror_17 : decode cX0_isMirror 17 = .ok (.lload 5, 2) := by decide +kernel
theorem dX0_isMirror_19 : decode cX0_isMirror 19 = .ok (.ldc2_w 7, 3) := by decide +kernel
theorem dX0_isMirror_22 : decode cX0_isMirror 22 = .ok (.land, 1) := by decide +kernel
theorem dX0_isMirror_23 : decode cX0_isMirror 23 = .ok (.lor, 1) := by decide +kernel
theorem dX0_isMirror_24 : decode cX0_isMirror 24 = .ok (.lstore_n 3, 1) := by decide +kernel
theorem dX0_isMirror_25 : decode cX0_isMirror 25 = .ok (.lload 5, 2) := by decide +kernel
theorem dX0_isMirror_27 : decode cX0_isMirror 27 = .ok (.iconst 4, 1) := by decide +kernel
theorem dX0_isMirror_28 : decode cX0_isMirror 28 = .ok (.lushr, 1) := by decide +kernel
theorem dX0_isMirror_29 : decode cX0_isMirror 29 = .ok (.lstore 5, 2) := by decide +kernel
theorem dX0_isMirror_31 : decode cX0_isMirror 31 = .ok (.iinc 7 1, 3) := by decide +kernel
theorem dX0_isMirror_34 : decode cX0_isMirror 34 = .ok (.goto (-26), 3) := by decide +kernel
theorem dX0_isMirror_37 : decode cX0_isMirror 37 = .ok (.lload_n 3, 1) := by decide +kernel
theorem dX0_isMirror_38 : decode cX0_isMirror 38 = .ok (.lload_n 0, 1) := by decide +kernel
theorem dX0_isMirror_39 : decode cX0_isMirror 39 = .ok (.lcmp, 1) := by decide +kernel
theorem dX0_isMirror_40 : decode cX0_isMirror 40 = .ok (.ifCond .ne 7, 3) := by decide +kernel
theorem dX0_isMirror_43 : decode cX0_isMirror 43 = .ok (.iconst 1, 1) := by decide +kernel
theorem dX0_isMirror_44 : decode cX0_isMirror 44 = .ok (.goto 4, 3) := by decide +kernel
theorem dX0_isMirror_47 : decode cX0_isMirror 47 = .ok (.iconst 0, 1) := by decide +kernel
theorem dX0_isMirror_48 : decode cX0_isMirror 48 = .ok (.ireturn, 1) := by decide +kernel
theorem hd_yX0_isMirror : yX0_isMirror.cls = RX0 ∧ yX0_isMirror.cls ≠ "java/lang/invoke/MethodHandle" ∧ yX0_isMirror.cls ≠ "java/lang/invoke/VarHandle" ∧ (parseMethodDescriptor yX0_isMirror.desc).map (fun d => d.parameters.length) = some 2 := by decide +kernel
def uX0_isMirror : List Cond := List.cons (.code yX0_isMirror cX0_isMirror 8 (some .boolean)) ([.constantLong RX0 7 (15)] : List Cond)
theorem guX0_isMirror : GU uX0_isMirror := gu_cons (gu_all (by decide +kernel))
set_option maxHeartbeats 4000000 in
set_option maxRecDepth 100000 in
theorem kX0_isMirror (l : Launch) (dC : Nat → ClassId) (dI : Nat → Nat → Nat) (a1 : Int64) (a2 : Int32) (b_a2 : (0 : Int) ≤ a2.toInt ∧ a2.toInt ≤ 12) : Met l yX0_isMirror uX0_isMirror ({ frames := 0, cells := 0, slots := 0, locals := 0 }) (va_Pc [.long a1, .int a2] (fun _ => True)) (vp_Si (fun r => ((0 : Int) ≤ r.toInt ∧ r.toInt ≤ 1))) 0 0 (fun _ => False) := by
  refine Met.ofW (cc := cX0_isMirror) (maxL := 8) (ret := (some .boolean)) pn_X0 rfl ?_
  intro p e s m args below meth c s₁ B hml hv
  obtain ⟨rfl, _⟩ := hv
  have hx := B.exec
  have hb := B.bytes
  have hr := B.returns
  have hts := atoms_spec (ws := uX0_isMirror) B.pre
  have hown : s.vm.findClass RX0 = some m.cls := hown_of B.named rfl
  have hlocks := B.notSynchronized
  have hl := lv_entry ([.long a1, .int a2]) (n := 8) (Nat.le_of_ble_eq_true rfl)
  rw [lg_entry_eq]
  generalize (lg_sl ([.long a1, .int a2]) ++ List.replicate (8 - (lg_sl ([.long a1, .int a2])).length) Slot.unset).toArray = ls at hl ⊢
  have hl : lv_has ls 8 [(0, .long a1), (2, .int a2)] := hl
  refine lv_lconst (v := 0) hx hb dX0_isMirror_0 (by decide) ?_
  refine lv_lstore_n (lv' := [(3, .long 0), (0, .long a1), (2, .int a2)]) hx hb dX0_isMirror_1 rfl hl (by decide) rfl (fun ls hl => ?_)
  refine lv_lload_n hx hb dX0_isMirror_2 rfl (lv_at hl 1 rfl) ?_
  refine lv_lstore (lv' := [(5, .long a1), (3, .long 0), (0, .long a1), (2, .int a2)]) hx hb dX0_isMirror_3 hl (by decide) rfl (fun ls hl => ?_)
  refine lv_iconst (v := 0) hx hb dX0_isMirror_5 (by decide) ?_
  refine lv_istore (lv' := [(7, .int 0), (5, .long a1), (3, .long 0), (0, .long a1), (2, .int a2)]) hx hb dX0_isMirror_6 hl (by decide) rfl (fun ls hl => ?_)
  refine loopP (σ := Int32 × Int64 × Int64) (fun v => (12 - v.1.toInt).toNat) (fun v ls => ((0 : Int) ≤ v.1.toInt ∧ v.1.toInt ≤ 12) ∧ lv_has ls 8 [(7, .int v.1), (5, .long v.2.1), (3, .long v.2.2), (0, .long a1), (2, .int a2)]) (fun v ls hI ih_8_114 => ?_) ((0 : Int32), a1, (0 : Int64)) ⟨(show (0 : Int) ≤ (0 : Int32).toInt ∧ (0 : Int32).toInt ≤ 12 from (rg_w (by decide : (0 : Int) ≤ (0 : Int32).toInt ∧ (0 : Int32).toInt ≤ 0) (by decide) (by decide))), lv_sub hl [0, 1, 2, 3, 4] rfl⟩
  obtain ⟨y_76, y_77, y_78⟩ := v
  obtain ⟨b_y_76, hl⟩ := hI
  have b_y_76 : (0 : Int) ≤ y_76.toInt ∧ y_76.toInt ≤ 12 := b_y_76
  have hl : lv_has ls 8 [(7, .int y_76), (5, .long y_77), (3, .long y_78), (0, .long a1), (2, .int a2)] := hl
  refine lv_iload hx hb dX0_isMirror_8 (lv_at hl 0 rfl) ?_
  refine lv_iload_n hx hb dX0_isMirror_10 rfl (lv_at hl 4 rfl) ?_
  refine lv_icmp_ge (tgt := 37) hx hb dX0_isMirror_11 (by decide) (fun c_115 => ?_) (fun c_115 => ?_)
  ·
    have n_c_115 : (a2.toInt : Int) ≤ y_76.toInt := c_ge rfl rfl c_115
    refine lv_lload_n hx hb dX0_isMirror_37 rfl (lv_at hl 2 rfl) ?_
    refine lv_lload_n hx hb dX0_isMirror_38 rfl (lv_at hl 3 rfl) ?_
    refine W.lcmp hx hb dX0_isMirror_39 ?_
    refine lv_if_ne (tgt := 47) hx hb dX0_isMirror_40 (by decide) (fun c_121 => ?_) (fun c_121 => ?_)
    ·
      have n_c_121 : (y_78.toInt : Int) ≠ a1.toInt := g_ne rfl rfl c_121
      refine lv_iconst (v := 0) hx hb dX0_isMirror_47 (by decide) ?_
      exact W.zret (v := 0) hx hb hr rfl (fun t ht hW => ⟨0, rfl, (rg_w (by decide : (0 : Int) ≤ (0 : Int32).toInt ∧ (0 : Int32).toInt ≤ 0) (by decide) (by decide)), ht⟩) t_nil dX0_isMirror_48
    ·
      have n_c_121 : (y_78.toInt : Int) = a1.toInt := g_eq rfl rfl c_121
      refine lv_iconst (v := 1) hx hb dX0_isMirror_43 (by decide) ?_
      refine lv_goto (tgt := 48) hx hb dX0_isMirror_44 (by decide) ?_
      exact W.zret (v := 1) hx hb hr rfl (fun t ht hW => ⟨1, rfl, (rg_w (by decide : (1 : Int) ≤ (1 : Int32).toInt ∧ (1 : Int32).toInt ≤ 1) (by decide) (by decide)), ht⟩) t_nil dX0_isMirror_48
  ·
    have n_c_115 : (y_76.toInt : Int) < a2.toInt := c_nge rfl rfl c_115
    have b_y_76 : (0 : Int) ≤ y_76.toInt ∧ y_76.toInt ≤ 11 := r_lt1 b_y_76 b_a2 n_c_115 (by decide)
    have b_a2 : (1 : Int) ≤ a2.toInt ∧ a2.toInt ≤ 12 := r_lt2 b_y_76 b_a2 n_c_115 (by decide)
    refine lv_lload_n hx hb dX0_isMirror_14 rfl (lv_at hl 2 rfl) ?_
    refine lv_iconst (v := 4) hx hb dX0_isMirror_15 (by decide) ?_
    obtain ⟨z_122, e_z_122⟩ : ∃ y : Int64, y = (y_78 : Int64) <<< ((4 : Int32).toInt64 &&& 63) := ⟨_, rfl⟩
    refine lv_lshl (v := z_122) hx hb dX0_isMirror_16 e_z_122.symm ?_
    refine lv_lload hx hb dX0_isMirror_17 (lv_at hl 1 rfl) ?_
    refine lv_ldc2 (v := 15) hx hb hown (hts (.constantLong RX0 7 (15)) (List.mem_of_getElem? (i := 1) rfl)) dX0_isMirror_19 ?_
    refine lv_land hx hb dX0_isMirror_22 ?_
    refine lv_topl (fun z_123 e_z_123 => ?_)
    refine lv_lor hx hb dX0_isMirror_23 ?_
    refine lv_topl (fun z_124 e_z_124 => ?_)
    refine lv_lstore_n (lv' := [(3, .long z_124), (7, .int y_76), (5, .long y_77), (0, .long a1), (2, .int a2)]) hx hb dX0_isMirror_24 rfl hl (by decide) rfl (fun ls hl => ?_)
    refine lv_lload hx hb dX0_isMirror_25 (lv_at hl 2 rfl) ?_
    refine lv_iconst (v := 4) hx hb dX0_isMirror_27 (by decide) ?_
    obtain ⟨z_125, e_z_125⟩ : ∃ y : Int64, y = ((y_77 : Int64).toUInt64 >>> ((4 : Int32).toInt64.toUInt64 &&& Int64.toUInt64 63)).toInt64 := ⟨_, rfl⟩
    refine lv_lushr (v := z_125) hx hb dX0_isMirror_28 e_z_125.symm ?_
    refine lv_lstore (lv' := [(5, .long z_125), (3, .long z_124), (7, .int y_76), (0, .long a1), (2, .int a2)]) hx hb dX0_isMirror_29 hl (by decide) rfl (fun ls hl => ?_)
    obtain ⟨z_126, e_z_126⟩ : ∃ y : Int32, y = y_76 + 1 := ⟨_, rfl⟩
    refine lv_iinc (v := z_126) (lv' := [(7, .int z_126), (5, .long z_125), (3, .long z_124), (0, .long a1), (2, .int a2)]) hx hb dX0_isMirror_31 hl (k := 2) rfl (by rw [e_z_126]; rfl) (by decide) rfl (fun ls hl => ?_)
    obtain ⟨q_z_126, b_z_126⟩ := ti_add (lo := 1) (hi := 12) e_z_126 rfl (by decide : (1 : Int32).toInt = 1) b_y_76 (by decide : (1 : Int) ≤ (1 : Int32).toInt ∧ (1 : Int32).toInt ≤ 1) (by decide)
    refine lv_goto (tgt := 8) hx hb dX0_isMirror_34 (by decide) ?_
    exact ih_8_114 (z_126, z_125, z_124) _ ⟨(show (0 : Int) ≤ z_126.toInt ∧ z_126.toInt ≤ 12 from (rg_w b_z_126 (by decide) (by decide))), lv_sub hl [0, 1, 2, 3, 4] rfl⟩ (show (12 - z_126.toInt).toNat < (12 - y_76.toInt).toNat by omega)
theorem dX9_isWithin_0 : decode cX9_isWithin 0 = .ok (.iload_n 0, 1) := by decide +kernel
theorem dX9_isWithin_1 : decode cX9_isWithin 1 = .ok (.iload_n 1, 1) := by decide +kernel
theorem dX9_isWithin_2 : decode cX9_isWithin 2 = .ok (.if_icmp .lt 12, 3) := by decide +kernel
theorem dX9_isWithin_5 : decode cX9_isWithin 5 = .ok (.iload_n 0, 1) := by decide +kernel
theorem dX9_isWithin_6 : decode cX9_isWithin 6 = .ok (.iload_n 2, 1) := by decide +kernel
theorem dX9_isWithin_7 : decode cX9_isWithin 7 = .ok (.if_icmp .gt 7, 3) := by decide +kernel
theorem dX9_isWithin_10 : decode cX9_isWithin 10 = .ok (.iconst 1, 1) := by decide +kernel
theorem dX9_isWithin_11 : decode cX9_isWithin 11 = .ok (.goto 4, 3) := by decide +kernel
theorem dX9_isWithin_14 : decode cX9_isWithin 14 = .ok (.iconst 0, 1) := by decide +kernel
theorem dX9_isWithin_15 : decode cX9_isWithin 15 = .ok (.ireturn, 1) := by decide +kernel
theorem hd_yX9_isWithin : yX9_isWithin.cls = RX9 ∧ yX9_isWithin.cls ≠ "java/lang/invoke/MethodHandle" ∧ yX9_isWithin.cls ≠ "java/lang/invoke/VarHandle" ∧ (parseMethodDescriptor yX9_isWithin.desc).map (fun d => d.parameters.length) = some 3 := by decide +kernel
def uX9_isWithin : List Cond := List.cons (.code yX9_isWithin cX9_isWithin 3 (some .boolean)) ([] : List Cond)
theorem guX9_isWithin : GU uX9_isWithin := gu_cons (gu_all (by decide +kernel))
set_option maxHeartbeats 4000000 in
set_option maxRecDepth 100000 in
theorem kX9_isWithin (l : Launch) (dC : Nat → ClassId) (dI : Nat → Nat → Nat) (a1 : Int32) (a2 : Int32) (a3 : Int32) : Met l yX9_isWithin uX9_isWithin ({ frames := 0, cells := 0, slots := 0, locals := 0 }) (va_Pc [.int a1, .int a2, .int a3] (fun _ => True)) (vp_Si (fun r => ((0 : Int) ≤ r.toInt ∧ r.toInt ≤ 1) ∧ (r ≠ 0 → (a2.toInt ≤ a1.toInt ∧ a1.toInt ≤ a3.toInt)))) 0 0 (fun _ => False) := by
  refine Met.ofW (cc := cX9_isWithin) (maxL := 3) (ret := (some .boolean)) pn_X9 rfl ?_
  intro p e s m args below meth c s₁ B hml hv
  obtain ⟨rfl, _⟩ := hv
  have hx := B.exec
  have hb := B.bytes
  have hr := B.returns
  have hts := atoms_spec (ws := uX9_isWithin) B.pre
  have hown : s.vm.findClass RX9 = some m.cls := hown_of B.named rfl
  have hlocks := B.notSynchronized
  have hl := lv_entry ([.int a1, .int a2, .int a3]) (n := 3) (Nat.le_of_ble_eq_true rfl)
  rw [lg_entry_eq]
  generalize (lg_sl ([.int a1, .int a2, .int a3]) ++ List.replicate (3 - (lg_sl ([.int a1, .int a2, .int a3])).length) Slot.unset).toArray = ls at hl ⊢
  have hl : lv_has ls 3 [(0, .int a1), (1, .int a2), (2, .int a3)] := hl
  refine lv_iload_n hx hb dX9_isWithin_0 rfl (lv_at hl 0 rfl) ?_
  refine lv_iload_n hx hb dX9_isWithin_1 rfl (lv_at hl 1 rfl) ?_
  refine lv_icmp_lt (tgt := 14) hx hb dX9_isWithin_2 (by decide) (fun c_3 => ?_) (fun c_3 => ?_)
  ·
    have n_c_3 : (a1.toInt : Int) < a2.toInt := c_lt rfl rfl c_3
    have b_a1 : (-2147483648 : Int) ≤ a1.toInt ∧ a1.toInt ≤ 2147483646 := r_lt1 (ti_rng a1) (ti_rng a2) n_c_3 (by decide)
    have b_a2 : (-2147483647 : Int) ≤ a2.toInt ∧ a2.toInt ≤ 2147483647 := r_lt2 (ti_rng a1) (ti_rng a2) n_c_3 (by decide)
    refine lv_iconst (v := 0) hx hb dX9_isWithin_14 (by decide) ?_
    exact W.zret (v := 0) hx hb hr rfl (fun t ht hW => ⟨0, rfl, ⟨(rg_w (by decide : (0 : Int) ≤ (0 : Int32).toInt ∧ (0 : Int32).toInt ≤ 0) (by decide) (by decide)), (fun h9 => absurd rfl h9)⟩, ht⟩) t_nil dX9_isWithin_15
  ·
    have n_c_3 : (a2.toInt : Int) ≤ a1.toInt := c_nlt rfl rfl c_3
    refine lv_iload_n hx hb dX9_isWithin_5 rfl (lv_at hl 0 rfl) ?_
    refine lv_iload_n hx hb dX9_isWithin_6 rfl (lv_at hl 2 rfl) ?_
    refine lv_icmp_gt (tgt := 14) hx hb dX9_isWithin_7 (by decide) (fun c_4 => ?_) (fun c_4 => ?_)
    ·
      have n_c_4 : (a3.toInt : Int) < a1.toInt := c_gt rfl rfl c_4
      have b_a3 : (-2147483648 : Int) ≤ a3.toInt ∧ a3.toInt ≤ 2147483646 := r_lt1 (ti_rng a3) (ti_rng a1) n_c_4 (by decide)
      have b_a1 : (-2147483647 : Int) ≤ a1.toInt ∧ a1.toInt ≤ 2147483647 := r_lt2 (ti_rng a3) (ti_rng a1) n_c_4 (by decide)
      refine lv_iconst (v := 0) hx hb dX9_isWithin_14 (by decide) ?_
      exact W.zret (v := 0) hx hb hr rfl (fun t ht hW => ⟨0, rfl, ⟨(rg_w (by decide : (0 : Int) ≤ (0 : Int32).toInt ∧ (0 : Int32).toInt ≤ 0) (by decide) (by decide)), (fun h9 => absurd rfl h9)⟩, ht⟩) t_nil dX9_isWithin_15
    ·
      have n_c_4 : (a1.toInt : Int) ≤ a3.toInt := c_ngt rfl rfl c_4
      refine lv_iconst (v := 1) hx hb dX9_isWithin_10 (by decide) ?_
      refine lv_goto (tgt := 15) hx hb dX9_isWithin_11 (by decide) ?_
      exact W.zret (v := 1) hx hb hr rfl (fun t ht hW => ⟨1, rfl, ⟨(rg_w (by decide : (1 : Int) ≤ (1 : Int32).toInt ∧ (1 : Int32).toInt ≤ 1) (by decide) (by decide)), (fun _ => (by omega))⟩, ht⟩) t_nil dX9_isWithin_15
theorem dX9_isStep_0 : decode cX9_isStep 0 = .ok (.iload_n 0, 1) := by decide +kernel
theorem dX9_isStep_1 : decode cX9_isStep 1 = .ok (.iconst 1, 1) := by decide +kernel
theorem dX9_isStep_2 : decode cX9_isStep 2 = .ok (.sipush 9999, 3) := by decide +kernel
theorem dX9_isStep_5 : decode cX9_isStep 5 = .ok (.invokestatic 158, 3) := by decide +kernel
theorem dX9_isStep_8 : decode cX9_isStep 8 = .ok (.ireturn, 1) := by decide +kernel
theorem hd_yX9_isStep : yX9_isStep.cls = RX9 ∧ yX9_isStep.cls ≠ "java/lang/invoke/MethodHandle" ∧ yX9_isStep.cls ≠ "java/lang/invoke/VarHandle" ∧ (parseMethodDescriptor yX9_isStep.desc).map (fun d => d.parameters.length) = some 1 := by decide +kernel
def uX9_isStep : List Cond := List.cons (.code yX9_isStep cX9_isStep 1 (some .boolean)) (HAppend.hAppend ([.methodLink RX9 158 yX9_isWithin, .static yX9_isWithin, .initialized RX9] : List Cond) uX9_isWithin)
theorem guX9_isStep : GU uX9_isStep := gu_cons (gu_app (by decide +kernel) guX9_isWithin)
theorem gX9_isStep__X9_isWithin_S158 : GoodIn uX9_isStep (va_wsS RX9 158 yX9_isWithin uX9_isWithin) := gin_S (List.mem_of_getElem? (i := 1) rfl) (List.mem_of_getElem? (i := 2) rfl) (List.mem_of_getElem? (i := 3) rfl) (fun _ h => (List.mem_cons_of_mem _ (List.mem_append_right _ h))) guX9_isWithin
set_option maxHeartbeats 4000000 in
set_option maxRecDepth 100000 in
theorem kX9_isStep (l : Launch) (dC : Nat → ClassId) (dI : Nat → Nat → Nat) (a1 : Int32) : Met l yX9_isStep uX9_isStep ({ frames := 1, cells := 0, slots := 0, locals := 22 }) (va_Pc [.int a1] (fun _ => True)) (vp_Si (fun r => ((0 : Int) ≤ r.toInt ∧ r.toInt ≤ 1) ∧ (r ≠ 0 → ((1 : Int) ≤ a1.toInt ∧ a1.toInt ≤ 9999) ∧ (True)))) 0 0 (fun _ => False) := by
  refine Met.ofW (cc := cX9_isStep) (maxL := 1) (ret := (some .boolean)) pn_X9 rfl ?_
  intro p e s m args below meth c s₁ B hml hv
  obtain ⟨rfl, _⟩ := hv
  have hx := B.exec
  have hb := B.bytes
  have hr := B.returns
  have hts := atoms_spec (ws := uX9_isStep) B.pre
  have hown : s.vm.findClass RX9 = some m.cls := hown_of B.named rfl
  have hlocks := B.notSynchronized
  have hl := lv_entry ([.int a1]) (n := 1) (Nat.le_of_ble_eq_true rfl)
  rw [lg_entry_eq]
  generalize (lg_sl ([.int a1]) ++ List.replicate (1 - (lg_sl ([.int a1])).length) Slot.unset).toArray = ls at hl ⊢
  have hl : lv_has ls 1 [(0, .int a1)] := hl
  refine lv_iload_n hx hb dX9_isStep_0 rfl (lv_at hl 0 rfl) ?_
  refine lv_iconst (v := 1) hx hb dX9_isStep_1 (by decide) ?_
  refine lv_sipush (v := 9999) hx hb dX9_isStep_2 (by decide) ?_
  refine vp_callSi (W.runS (As := [.int a1, .int 1, .int 9999]) (rest := []) ⟨hx, hb, hml, hown, hts⟩ (kX9_isWithin l dC dI a1 1 9999 ) (va_cwS 3 hts gX9_isStep__X9_isWithin_S158 rfl rfl rfl hd_yX9_isWithin.2 ⟨lel 1 1 rfl, lel 22 22 rfl⟩) ⟨pn_fb, pn_use⟩ rfl rfl hl.1 rfl (lv_room (Nat.le_of_ble_eq_true rfl)) dX9_isStep_5 ⟨lel 0 0 rfl, lel 0 0 rfl⟩) (fun r_2 h_r_2 => ?_)
  obtain ⟨b_r_2, nz_r_2⟩ := h_r_2
  have b_r_2 : (0 : Int) ≤ r_2.toInt ∧ r_2.toInt ≤ 1 := b_r_2
  exact W.zret (v := r_2) hx hb hr (zn_b b_r_2) (fun t ht hW => ⟨r_2, rfl, ⟨b_r_2, (fun h9 => by have h8 := nz_r_2 h9; have h7 := (by decide : (1 : Int32).toInt = 1); have h7 := (by decide : (9999 : Int32).toInt = 9999); exact ⟨⟨by omega, by omega⟩, trivial⟩)⟩, ht⟩) t_nil dX9_isStep_8
theorem dX9_isLong_0 : decode cX9_isLong 0 = .ok (.iload_n 0, 1) := by decide +kernel
theorem dX9_isLong_1 : decode cX9_isLong 1 = .ok (.iconst 1, 1) := by decide +kernel
theorem dX9_isLong_2 : decode cX9_isLong 2 = .ok (.bipush 12, 2) := by decide +kernel
theorem dX9_isLong_4 : decode cX9_isLong 4 = .ok (.invokestatic 158, 3) := by decide +kernel
theorem dX9_isLong_7 : decode cX9_isLong 7 = .ok (.ifCond .eq 17, 3) := by decide +kernel
theorem dX9_isLong_10 : decode cX9_isLong 10 = .ok (.iload_n 1, 1) := by decide +kernel
theorem dX9_isLong_11 : decode cX9_isLong 11 = .ok (.iconst 2, 1) := by decide +kernel
theorem dX9_isLong_12 : decode cX9_isLong 12 = .ok (.bipush 16, 2) := by decide +kernel
theorem dX9_isLong_14 : decode cX9_isLong 14 = .ok (.invokestatic 158, 3) := by decide +kernel
theorem dX9_isLong_17 : decode cX9_isLong 17 = .ok (.ifCond .eq 7, 3) := by decide +kernel
theorem dX9_isLong_20 : decode cX9_isLong 20 = .ok (.iconst 1, 1) := by decide +kernel
theorem dX9_isLong_21 : decode cX9_isLong 21 = .ok (.goto 4, 3) := by decide +kernel
theorem dX9_isLong_24 : decode cX9_isLong 24 = .ok (.iconst 0, 1) := by decide +kernel
theorem dX9_isLong_25 : decode cX9_isLong 25 = .ok (.ireturn, 1) := by decide +kernel
theorem hd_yX9_isLong : yX9_isLong.cls = RX9 ∧ yX9_isLong.cls ≠ "java/lang/invoke/MethodHandle" ∧ yX9_isLong.cls ≠ "java/lang/invoke/VarHandle" ∧ (parseMethodDescriptor yX9_isLong.desc).map (fun d => d.parameters.length) = some 2 := by decide +kernel
def uX9_isLong : List Cond := List.cons (.code yX9_isLong cX9_isLong 2 (some .boolean)) (HAppend.hAppend ([.methodLink RX9 158 yX9_isWithin, .static yX9_isWithin, .initialized RX9] : List Cond) uX9_isWithin)
theorem guX9_isLong : GU uX9_isLong := gu_cons (gu_app (by decide +kernel) guX9_isWithin)
theorem gX9_isLong__X9_isWithin_S158 : GoodIn uX9_isLong (va_wsS RX9 158 yX9_isWithin uX9_isWithin) := gin_S (List.mem_of_getElem? (i := 1) rfl) (List.mem_of_getElem? (i := 2) rfl) (List.mem_of_getElem? (i := 3) rfl) (fun _ h => (List.mem_cons_of_mem _ (List.mem_append_right _ h))) guX9_isWithin
set_option maxHeartbeats 4000000 in
set_option maxRecDepth 100000 in
theorem kX9_isLong (l : Launch) (dC : Nat → ClassId) (dI : Nat → Nat → Nat) (a1 : Int32) (a2 : Int32) : Met l yX9_isLong uX9_isLong ({ frames := 1, cells := 0, slots := 0, locals := 22 }) (va_Pc [.int a1, .int a2] (fun _ => True)) (vp_Si (fun r => ((0 : Int) ≤ r.toInt ∧ r.toInt ≤ 1) ∧ (r ≠ 0 → ((1 : Int) ≤ a1.toInt ∧ a1.toInt ≤ 12) ∧ ((2 : Int) ≤ a2.toInt ∧ a2.toInt ≤ 16) ∧ (True)))) 0 0 (fun _ => False) := by
  refine Met.ofW (cc := cX9_isLong) (maxL := 2) (ret := (some .boolean)) pn_X9 rfl ?_
  intro p e s m args below meth c s₁ B hml hv
  obtain ⟨rfl, _⟩ := hv
  have hx := B.exec
  have hb := B.bytes
  have hr := B.returns
  have hts := atoms_spec (ws := uX9_isLong) B.pre
  have hown : s.vm.findClass RX9 = some m.cls := hown_of B.named rfl
  have hlocks := B.notSynchronized
  have hl := lv_entry ([.int a1, .int a2]) (n := 2) (Nat.le_of_ble_eq_true rfl)
  rw [lg_entry_eq]
  generalize (lg_sl ([.int a1, .int a2]) ++ List.replicate (2 - (lg_sl ([.int a1, .int a2])).length) Slot.unset).toArray = ls at hl ⊢
  have hl : lv_has ls 2 [(0, .int a1), (1, .int a2)] := hl
  refine lv_iload_n hx hb dX9_isLong_0 rfl (lv_at hl 0 rfl) ?_
  refine lv_iconst (v := 1) hx hb dX9_isLong_1 (by decide) ?_
  refine lv_bipush (v := 12) hx hb dX9_isLong_2 (by decide) ?_
  refine vp_callSi (W.runS (As := [.int a1, .int 1, .int 12]) (rest := []) ⟨hx, hb, hml, hown, hts⟩ (kX9_isWithin l dC dI a1 1 12 ) (va_cwS 3 hts gX9_isLong__X9_isWithin_S158 rfl rfl rfl hd_yX9_isWithin.2 ⟨lel 1 1 rfl, lel 22 22 rfl⟩) ⟨pn_fb, pn_use⟩ rfl rfl hl.1 rfl (lv_room (Nat.le_of_ble_eq_true rfl)) dX9_isLong_4 ⟨lel 0 0 rfl, lel 0 0 rfl⟩) (fun r_7 h_r_7 => ?_)
  obtain ⟨b_r_7, nz_r_7⟩ := h_r_7
  have b_r_7 : (0 : Int) ≤ r_7.toInt ∧ r_7.toInt ≤ 1 := b_r_7
  refine lv_if_eq (tgt := 24) hx hb dX9_isLong_7 (by decide) (fun c_8 => ?_) (fun c_8 => ?_)
  ·
    have n_c_8 : (r_7.toInt : Int) = 0 := c_eq rfl (by decide) c_8
    have b_r_7 : (0 : Int) ≤ r_7.toInt ∧ r_7.toInt ≤ 0 := r_eq1 b_r_7 (by decide : (0 : Int) ≤ (0 : Int32).toInt ∧ (0 : Int32).toInt ≤ 0) n_c_8 (by decide)
    refine lv_iconst (v := 0) hx hb dX9_isLong_24 (by decide) ?_
    exact W.zret (v := 0) hx hb hr rfl (fun t ht hW => ⟨0, rfl, ⟨(rg_w (by decide : (0 : Int) ≤ (0 : Int32).toInt ∧ (0 : Int32).toInt ≤ 0) (by decide) (by decide)), (fun h9 => absurd rfl h9)⟩, ht⟩) t_nil dX9_isLong_25
  ·
    have n_c_8 : (r_7.toInt : Int) ≠ 0 := c_ne rfl (by decide) c_8
    have b_r_7 : (1 : Int) ≤ r_7.toInt ∧ r_7.toInt ≤ 1 := r_ne1 b_r_7 (by decide : (0 : Int) ≤ (0 : Int32).toInt ∧ (0 : Int32).toInt ≤ 0) n_c_8 (by decide)
    have g_9 := nz_r_7 c_8
    have lt0_g_9 := (by decide : (1 : Int32).toInt = 1)
    have lt1_g_9 := (by decide : (12 : Int32).toInt = 12)
    have b_a1 : (1 : Int) ≤ a1.toInt ∧ a1.toInt ≤ 12 := by
      have q0 := (ti_rng a1)
      have q1 := (by decide : (1 : Int) ≤ (1 : Int32).toInt ∧ (1 : Int32).toInt ≤ 1)
      have q2 := (by decide : (12 : Int) ≤ (12 : Int32).toInt ∧ (12 : Int32).toInt ≤ 12)
      omega
    refine lv_iload_n hx hb dX9_isLong_10 rfl (lv_at hl 1 rfl) ?_
    refine lv_iconst (v := 2) hx hb dX9_isLong_11 (by decide) ?_
    refine lv_bipush (v := 16) hx hb dX9_isLong_12 (by decide) ?_
    refine vp_callSi (W.runS (As := [.int a2, .int 2, .int 16]) (rest := []) ⟨hx, hb, hml, hown, hts⟩ (kX9_isWithin l dC dI a2 2 16 ) (va_cwS 3 hts gX9_isLong__X9_isWithin_S158 rfl rfl rfl hd_yX9_isWithin.2 ⟨lel 1 1 rfl, lel 22 22 rfl⟩) ⟨pn_fb, pn_use⟩ rfl rfl hl.1 rfl (lv_room (Nat.le_of_ble_eq_true rfl)) dX9_isLong_14 ⟨lel 0 0 rfl, lel 0 0 rfl⟩) (fun r_10 h_r_10 => ?_)
    obtain ⟨b_r_10, nz_r_10⟩ := h_r_10
    have b_r_10 : (0 : Int) ≤ r_10.toInt ∧ r_10.toInt ≤ 1 := b_r_10
    refine lv_if_eq (tgt := 24) hx hb dX9_isLong_17 (by decide) (fun c_11 => ?_) (fun c_11 => ?_)
    ·
      have n_c_11 : (r_10.toInt : Int) = 0 := c_eq rfl (by decide) c_11
      have b_r_10 : (0 : Int) ≤ r_10.toInt ∧ r_10.toInt ≤ 0 := r_eq1 b_r_10 (by decide : (0 : Int) ≤ (0 : Int32).toInt ∧ (0 : Int32).toInt ≤ 0) n_c_11 (by decide)
      refine lv_iconst (v := 0) hx hb dX9_isLong_24 (by decide) ?_
      exact W.zret (v := 0) hx hb hr rfl (fun t ht hW => ⟨0, rfl, ⟨(rg_w (by decide : (0 : Int) ≤ (0 : Int32).toInt ∧ (0 : Int32).toInt ≤ 0) (by decide) (by decide)), (fun h9 => absurd rfl h9)⟩, ht⟩) t_nil dX9_isLong_25
    ·
      have n_c_11 : (r_10.toInt : Int) ≠ 0 := c_ne rfl (by decide) c_11
      have b_r_10 : (1 : Int) ≤ r_10.toInt ∧ r_10.toInt ≤ 1 := r_ne1 b_r_10 (by decide : (0 : Int) ≤ (0 : Int32).toInt ∧ (0 : Int32).toInt ≤ 0) n_c_11 (by decide)
      have g_12 := nz_r_10 c_11
      have lt0_g_12 := (by decide : (2 : Int32).toInt = 2)
      have lt1_g_12 := (by decide : (16 : Int32).toInt = 16)
      have b_a2 : (2 : Int) ≤ a2.toInt ∧ a2.toInt ≤ 16 := by
        have q0 := (ti_rng a2)
        have q1 := (by decide : (2 : Int) ≤ (2 : Int32).toInt ∧ (2 : Int32).toInt ≤ 2)
        have q2 := (by decide : (16 : Int) ≤ (16 : Int32).toInt ∧ (16 : Int32).toInt ≤ 16)
        omega
      refine lv_iconst (v := 1) hx hb dX9_isLong_20 (by decide) ?_
      refine lv_goto (tgt := 25) hx hb dX9_isLong_21 (by decide) ?_
      exact W.zret (v := 1) hx hb hr rfl (fun t ht hW => ⟨1, rfl, ⟨(rg_w (by decide : (1 : Int) ≤ (1 : Int32).toInt ∧ (1 : Int32).toInt ≤ 1) (by decide) (by decide)), (fun _ => ⟨⟨by omega, by omega⟩, ⟨by omega, by omega⟩, trivial⟩)⟩, ht⟩) t_nil dX9_isLong_25
theorem dX9_power_0 : decode cX9_power 0 = .ok (.iconst 1, 1) := by decide +kernel
theorem dX9_power_1 : decode cX9_power 1 = .ok (.istore_n 2, 1) := by decide +kernel
theorem dX9_power_2 : decode cX9_power 2 = .ok (.iconst 0, 1) := by decide +kernel
theorem dX9_power_3 : decode cX9_power 3 = .ok (.istore_n 3, 1) := by decide +kernel
theorem dX9_power_4 : decode cX9_power 4 = .ok (.iload_n 3, 1) := by decide +kernel
theorem dX9_power_5 : decode cX9_power 5 = .ok (.iload_n 1, 1) := by decide +kernel
theorem dX9_power_6 : decode cX9_power 6 = .ok (.if_icmp .ge 20, 3) := by decide +kernel
theorem dX9_power_9 : decode cX9_power 9 = .ok (.iload_n 2, 1) := by decide +kernel
theorem dX9_power_10 : decode cX9_power 10 = .ok (.sipush 20000, 3) := by decide +kernel
theorem dX9_power_13 : decode cX9_power 13 = .ok (.if_icmp .gt 13, 3) := by decide +kernel
theorem dX9_power_16 : decode cX9_power 16 = .ok (.iload_n 2, 1) := by decide +kernel
theorem dX9_power_17 : decode cX9_power 17 = .ok (.iload_n 0, 1) := by decide +kernel
theorem dX9_power_18 : decode cX9_power 18 = .ok (.imul, 1) := by decide +kernel
theorem dX9_power_19 : decode cX9_power 19 = .ok (.istore_n 2, 1) := by decide +kernel
theorem dX9_power_20 : decode cX9_power 20 = .ok (.iinc 3 1, 3) := by decide +kernel
theorem dX9_power_23 : decode cX9_power 23 = .ok (.goto (-19), 3) := by decide +kernel
theorem dX9_power_26 : decode cX9_power 26 = .ok (.iload_n 2, 1) := by decide +kernel
theorem dX9_power_27 : decode cX9_power 27 = .ok (.ireturn, 1) := by decide +kernel
theorem hd_yX9_power : yX9_power.cls = RX9 ∧ yX9_power.cls ≠ "java/lang/invoke/MethodHandle" ∧ yX9_power.cls ≠ "java/lang/invoke/VarHandle" ∧ (parseMethodDescriptor yX9_power.desc).map (fun d => d.parameters.length) = some 2 := by decide +kernel
def uX9_power : List Cond := List.cons (.code yX9_power cX9_power 4 (some .int)) ([] : List Cond)
theorem guX9_power : GU uX9_power := gu_cons (gu_all (by decide +kernel))
set_option maxHeartbeats 4000000 in
set_option maxRecDepth 100000 in
theorem kX9_power (l : Launch) (dC : Nat → ClassId) (dI : Nat → Nat → Nat) (a1 : Int32) (a2 : Int32) : Met l yX9_power uX9_power ({ frames := 0, cells := 0, slots := 0, locals := 0 }) (va_Pc [.int a1, .int a2] (fun _ => True)) (vp_Si (fun r => True)) 0 0 (fun _ => False) := by
  refine Met.ofW (cc := cX9_power) (maxL := 4) (ret := (some .int)) pn_X9 rfl ?_
  intro p e s m args below meth c s₁ B hml hv
  obtain ⟨rfl, _⟩ := hv
  have hx := B.exec
  have hb := B.bytes
  have hr := B.returns
  have hts := atoms_spec (ws := uX9_power) B.pre
  have hown : s.vm.findClass RX9 = some m.cls := hown_of B.named rfl
  have hlocks := B.notSynchronized
  have hl := lv_entry ([.int a1, .int a2]) (n := 4) (Nat.le_of_ble_eq_true rfl)
  rw [lg_entry_eq]
  generalize (lg_sl ([.int a1, .int a2]) ++ List.replicate (4 - (lg_sl ([.int a1, .int a2])).length) Slot.unset).toArray = ls at hl ⊢
  have hl : lv_has ls 4 [(0, .int a1), (1, .int a2)] := hl
  refine lv_iconst (v := 1) hx hb dX9_power_0 (by decide) ?_
  refine lv_istore_n (lv' := [(2, .int 1), (0, .int a1), (1, .int a2)]) hx hb dX9_power_1 rfl hl (by decide) rfl (fun ls hl => ?_)
  refine lv_iconst (v := 0) hx hb dX9_power_2 (by decide) ?_
  refine lv_istore_n (lv' := [(3, .int 0), (2, .int 1), (0, .int a1), (1, .int a2)]) hx hb dX9_power_3 rfl hl (by decide) rfl (fun ls hl => ?_)
  refine loopP (σ := Int32 × Int32) (fun v => (2147483647 - v.1.toInt).toNat) (fun v ls => ((0 : Int) ≤ v.1.toInt ∧ v.1.toInt ≤ 2147483647) ∧ lv_has ls 4 [(3, .int v.1), (2, .int v.2), (0, .int a1), (1, .int a2)]) (fun v ls hI ih_4_128 => ?_) ((0 : Int32), (1 : Int32)) ⟨(show (0 : Int) ≤ (0 : Int32).toInt ∧ (0 : Int32).toInt ≤ 2147483647 from (rg_w (by decide : (0 : Int) ≤ (0 : Int32).toInt ∧ (0 : Int32).toInt ≤ 0) (by decide) (by decide))), lv_sub hl [0, 1, 2, 3] rfl⟩
  obtain ⟨y_71, y_72⟩ := v
  obtain ⟨b_y_71, hl⟩ := hI
  have b_y_71 : (0 : Int) ≤ y_71.toInt ∧ y_71.toInt ≤ 2147483647 := b_y_71
  have hl : lv_has ls 4 [(3, .int y_71), (2, .int y_72), (0, .int a1), (1, .int a2)] := hl
  refine lv_iload_n hx hb dX9_power_4 rfl (lv_at hl 0 rfl) ?_
  refine lv_iload_n hx hb dX9_power_5 rfl (lv_at hl 3 rfl) ?_
  refine lv_icmp_ge (tgt := 26) hx hb dX9_power_6 (by decide) (fun c_129 => ?_) (fun c_129 => ?_)
  ·
    have n_c_129 : (a2.toInt : Int) ≤ y_71.toInt := c_ge rfl rfl c_129
    refine lv_iload_n hx hb dX9_power_26 rfl (lv_at hl 1 rfl) ?_
    exact W.iret (v := y_72) hx hb hr (fun t ht hW => ⟨y_72, rfl, trivial, ht⟩) t_nil dX9_power_27
  ·
    have n_c_129 : (y_71.toInt : Int) < a2.toInt := c_nge rfl rfl c_129
    have b_y_71 : (0 : Int) ≤ y_71.toInt ∧ y_71.toInt ≤ 2147483646 := r_lt1 b_y_71 (ti_rng a2) n_c_129 (by decide)
    have b_a2 : (1 : Int) ≤ a2.toInt ∧ a2.toInt ≤ 2147483647 := r_lt2 b_y_71 (ti_rng a2) n_c_129 (by decide)
    refine lv_iload_n hx hb dX9_power_9 rfl (lv_at hl 1 rfl) ?_
    refine lv_sipush (v := 20000) hx hb dX9_power_10 (by decide) ?_
    refine lv_icmp_gt (tgt := 26) hx hb dX9_power_13 (by decide) (fun c_130 => ?_) (fun c_130 => ?_)
    ·
      have n_c_130 : (20000 : Int) < y_72.toInt := c_gt rfl (by decide) c_130
      have b_y_72 : (20001 : Int) ≤ y_72.toInt ∧ y_72.toInt ≤ 2147483647 := r_lt2 (by decide : (20000 : Int) ≤ (20000 : Int32).toInt ∧ (20000 : Int32).toInt ≤ 20000) (ti_rng y_72) n_c_130 (by decide)
      refine lv_iload_n hx hb dX9_power_26 rfl (lv_at hl 1 rfl) ?_
      exact W.iret (v := y_72) hx hb hr (fun t ht hW => ⟨y_72, rfl, trivial, ht⟩) t_nil dX9_power_27
    ·
      have n_c_130 : (y_72.toInt : Int) ≤ 20000 := c_ngt rfl (by decide) c_130
      have b_y_72 : (-2147483648 : Int) ≤ y_72.toInt ∧ y_72.toInt ≤ 20000 := r_le1 (ti_rng y_72) (by decide : (20000 : Int) ≤ (20000 : Int32).toInt ∧ (20000 : Int32).toInt ≤ 20000) n_c_130 (by decide)
      refine lv_iload_n hx hb dX9_power_16 rfl (lv_at hl 1 rfl) ?_
      refine lv_iload_n hx hb dX9_power_17 rfl (lv_at hl 2 rfl) ?_
      refine lv_imul hx hb dX9_power_18 ?_
      refine lv_topi (fun z_131 e_z_131 => ?_)
      refine lv_istore_n (lv' := [(2, .int z_131), (3, .int y_71), (0, .int a1), (1, .int a2)]) hx hb dX9_power_19 rfl hl (by decide) rfl (fun ls hl => ?_)
      obtain ⟨z_132, e_z_132⟩ : ∃ y : Int32, y = y_71 + 1 := ⟨_, rfl⟩
      refine lv_iinc (v := z_132) (lv' := [(3, .int z_132), (2, .int z_131), (0, .int a1), (1, .int a2)]) hx hb dX9_power_20 hl (k := 1) rfl (by rw [e_z_132]; rfl) (by decide) rfl (fun ls hl => ?_)
      obtain ⟨q_z_132, b_z_132⟩ := ti_add (lo := 1) (hi := 2147483647) e_z_132 rfl (by decide : (1 : Int32).toInt = 1) b_y_71 (by decide : (1 : Int) ≤ (1 : Int32).toInt ∧ (1 : Int32).toInt ≤ 1) (by decide)
      refine lv_goto (tgt := 4) hx hb dX9_power_23 (by decide) ?_
      exact ih_4_128 (z_132, z_131) _ ⟨(show (0 : Int) ≤ z_132.toInt ∧ z_132.toInt ≤ 2147483647 from (rg_w b_z_132 (by decide) (by decide))), lv_sub hl [0, 1, 2, 3] rfl⟩ (show (2147483647 - z_132.toInt).toNat < (2147483647 - y_71.toInt).toNat by omega)
theorem dX9_lowestTerm_0 : decode cX9_lowestTerm 0 = .ok (.iload_n 0, 1) := by decide +kernel
theorem dX9_lowestTerm_1 : decode cX9_lowestTerm 1 = .ok (.istore_n 3, 1) := by decide +kernel
theorem dX9_lowestTerm_2 : decode cX9_lowestTerm 2 = .ok (.iload_n 1, 1) := by decide +kernel
theorem dX9_lowestTerm_3 : decode cX9_lowestTerm 3 = .ok (.istore 4, 2) := by decide +kernel
theorem dX9_lowestTerm_5 : decode cX9_lowestTerm 5 = .ok (.iconst 0, 1) := by decide +kernel
theorem dX9_lowestTerm_6 : decode cX9_lowestTerm 6 = .ok (.istore 5, 2) := by decide +kernel
theorem dX9_lowestTerm_8 : decode cX9_lowestTerm 8 = .ok (.iload 5, 2) := by decide +kernel
theorem dX9_lowestTerm_10 : decode cX9_lowestTerm 10 = .ok (.bipush 64, 2) := by decide +kernel
theorem dX9_lowestTerm_12 : decode cX9_lowestTerm 12 = .ok (.if_icmp .ge 27, 3) := by decide +kernel
theorem dX9_lowestTerm_15 : decode cX9_lowestTerm 15 = .ok (.iload 4, 2) := by decide +kernel
theorem dX9_lowestTerm_17 : decode cX9_lowestTerm 17 = .ok (.ifCond .le 22, 3) := by decide +kernel
theorem dX9_lowestTerm_20 : decode cX9_lowestTerm 20 = .ok (.iload_n 3, 1) := by decide +kernel
theorem dX9_lowestTerm_21 : decode cX9_lowestTerm 21 = .ok (.iload 4, 2) := by decide +kernel
theorem dX9_lowestTerm_23 : decode cX9_lowestTerm 23 = .ok (.irem, 1) := by decide +kernel
theorem dX9_lowestTerm_24 : decode cX9_lowestTerm 24 = .ok (.istore 6, 2) := by decide +kernel
theorem dX9_lowestTerm_26 : decode cX9_lowestTerm 26 = .ok (.iload 4, 2) := by decide +kernel
theorem dX9_lowestTerm_28 : decode cX9_lowestTerm 28 = .ok (.istore_n 3, 1) := by decide +kernel
theorem dX9_lowestTerm_29 : decode cX9_lowestTerm 29 = .ok (.iload 6, 2) := by decide +kernel
theorem dX9_lowestTerm_31 : decode cX9_lowestTerm 31 = .ok (.istore 4, 2) := by decide +kernel
theorem dX9_lowestTerm_33 : decode cX9_lowestTerm 33 = .ok (.iinc 5 1, 3) := by decide +kernel
theorem dX9_lowestTerm_36 : decode cX9_lowestTerm 36 = .ok (.goto (-28), 3) := by decide +kernel
theorem dX9_lowestTerm_39 : decode cX9_lowestTerm 39 = .ok (.iload_n 3, 1) := by decide +kernel
theorem dX9_lowestTerm_40 : decode cX9_lowestTerm 40 = .ok (.iconst 1, 1) := by decide +kernel
theorem dX9_lowestTerm_41 : decode cX9_lowestTerm 41 = .ok (.if_icmp .ge 5, 3) := by decide +kernel
theorem dX9_lowestTerm_44 : decode cX9_lowestTerm 44 = .ok (.iconst 0, 1) := by decide +kernel
theorem dX9_lowestTerm_45 : decode cX9_lowestTerm 45 = .ok (.ireturn, 1) := by decide +kernel
theorem dX9_lowestTerm_46 : decode cX9_lowestTerm 46 = .ok (.iload_n 2, 1) := by decide +kernel
theorem dX9_lowestTerm_47 : decode cX9_lowestTerm 47 = .ok (.ifCond .ne 7, 3) := by decide +kernel
theorem dX9_lowestTerm_50 : decode cX9_lowestTerm 50 = .ok (.iload_n 0, 1) := by decide +kernel
theorem dX9_lowestTerm_51 : decode cX9_lowestTerm 51 = .ok (.goto 4, 3) := by decide +kernel
theorem dX9_lowestTerm_54 : decode cX9_lowestTerm 54 = .ok (.iload_n 1, 1) := by decide +kernel
theorem dX9_lowestTerm_55 : decode cX9_lowestTerm 55 = .ok (.iload_n 3, 1) := by decide +kernel
theorem dX9_lowestTerm_56 : decode cX9_lowestTerm 56 = .ok (.idiv, 1) := by decide +kernel
theorem dX9_lowestTerm_57 : decode cX9_lowestTerm 57 = .ok (.ireturn, 1) := by decide +kernel
theorem hd_yX9_lowestTerm : yX9_lowestTerm.cls = RX9 ∧ yX9_lowestTerm.cls ≠ "java/lang/invoke/MethodHandle" ∧ yX9_lowestTerm.cls ≠ "java/lang/invoke/VarHandle" ∧ (parseMethodDescriptor yX9_lowestTerm.desc).map (fun d => d.parameters.length) = some 3 := by decide +kernel
def uX9_lowestTerm : List Cond := List.cons (.code yX9_lowestTerm cX9_lowestTerm 7 (some .int)) ([] : List Cond)
theorem guX9_lowestTerm : GU uX9_lowestTerm := gu_cons (gu_all (by decide +kernel))
set_option maxHeartbeats 4000000 in
set_option maxRecDepth 100000 in
theorem kX9_lowestTerm (l : Launch) (dC : Nat → ClassId) (dI : Nat → Nat → Nat) (a1 : Int32) (a2 : Int32) (a3 : Int32) : Met l yX9_lowestTerm uX9_lowestTerm ({ frames := 0, cells := 0, slots := 0, locals := 0 }) (va_Pc [.int a1, .int a2, .int a3] (fun _ => True)) (vp_Si (fun r => True)) 0 0 (fun _ => False) := by
  refine Met.ofW (cc := cX9_lowestTerm) (maxL := 7) (ret := (some .int)) pn_X9 rfl ?_
  intro p e s m args below meth c s₁ B hml hv
  obtain ⟨rfl, _⟩ := hv
  have hx := B.exec
  have hb := B.bytes
  have hr := B.returns
  have hts := atoms_spec (ws := uX9_lowestTerm) B.pre
  have hown : s.vm.findClass RX9 = some m.cls := hown_of B.named rfl
  have hlocks := B.notSynchronized
  have hl := lv_entry ([.int a1, .int a2, .int a3]) (n := 7) (Nat.le_of_ble_eq_true rfl)
  rw [lg_entry_eq]
  generalize (lg_sl ([.int a1, .int a2, .int a3]) ++ List.replicate (7 - (lg_sl ([.int a1, .int a2, .int a3])).length) Slot.unset).toArray = ls at hl ⊢
  have hl : lv_has ls 7 [(0, .int a1), (1, .int a2), (2, .int a3)] := hl
  refine lv_iload_n hx hb dX9_lowestTerm_0 rfl (lv_at hl 0 rfl) ?_
  refine lv_istore_n (lv' := [(3, .int a1), (0, .int a1), (1, .int a2), (2, .int a3)]) hx hb dX9_lowestTerm_1 rfl hl (by decide) rfl (fun ls hl => ?_)
  refine lv_iload_n hx hb dX9_lowestTerm_2 rfl (lv_at hl 2 rfl) ?_
  refine lv_istore (lv' := [(4, .int a2), (3, .int a1), (0, .int a1), (1, .int a2), (2, .int a3)]) hx hb dX9_lowestTerm_3 hl (by decide) rfl (fun ls hl => ?_)
  refine lv_iconst (v := 0) hx hb dX9_lowestTerm_5 (by decide) ?_
  refine lv_istore (lv' := [(5, .int 0), (4, .int a2), (3, .int a1), (0, .int a1), (1, .int a2), (2, .int a3)]) hx hb dX9_lowestTerm_6 hl (by decide) rfl (fun ls hl => ?_)
  refine loopP (σ := Int32 × Int32 × Int32) (fun v => (64 - v.1.toInt).toNat) (fun v ls => ((0 : Int) ≤ v.1.toInt ∧ v.1.toInt ≤ 64) ∧ lv_has ls 7 [(5, .int v.1), (4, .int v.2.1), (3, .int v.2.2), (0, .int a1), (1, .int a2), (2, .int a3)]) (fun v ls hI ih_8_181 => ?_) ((0 : Int32), a2, a1) ⟨(show (0 : Int) ≤ (0 : Int32).toInt ∧ (0 : Int32).toInt ≤ 64 from (rg_w (by decide : (0 : Int) ≤ (0 : Int32).toInt ∧ (0 : Int32).toInt ≤ 0) (by decide) (by decide))), lv_sub hl [0, 1, 2, 3, 4, 5] rfl⟩
  obtain ⟨y_107, y_108, y_109⟩ := v
  obtain ⟨b_y_107, hl⟩ := hI
  have b_y_107 : (0 : Int) ≤ y_107.toInt ∧ y_107.toInt ≤ 64 := b_y_107
  have hl : lv_has ls 7 [(5, .int y_107), (4, .int y_108), (3, .int y_109), (0, .int a1), (1, .int a2), (2, .int a3)] := hl
  refine lv_iload hx hb dX9_lowestTerm_8 (lv_at hl 0 rfl) ?_
  refine lv_bipush (v := 64) hx hb dX9_lowestTerm_10 (by decide) ?_
  refine cutP (σ := Unit) (pc2 := 39) (st2 := fun v => []) (cells2 := 0) (slots2 := 0) (fun v ls => lv_has ls 7 [(5, .int y_107), (4, .int y_108), (3, .int y_109), (0, .int a1), (1, .int a2), (2, .int a3)]) (fun v ls hI => ?_) (fun hj_39_185 => ?_)
  ·
    have hl := hI
    have hl : lv_has ls 7 [(5, .int y_107), (4, .int y_108), (3, .int y_109), (0, .int a1), (1, .int a2), (2, .int a3)] := hl
    refine lv_iload_n hx hb dX9_lowestTerm_39 rfl (lv_at hl 2 rfl) ?_
    refine lv_iconst (v := 1) hx hb dX9_lowestTerm_40 (by decide) ?_
    refine lv_icmp_ge (tgt := 46) hx hb dX9_lowestTerm_41 (by decide) (fun c_186 => ?_) (fun c_186 => ?_)
    ·
      have n_c_186 : (1 : Int) ≤ y_109.toInt := c_ge rfl (by decide) c_186
      have b_y_109 : (1 : Int) ≤ y_109.toInt ∧ y_109.toInt ≤ 2147483647 := r_le2 (by decide : (1 : Int) ≤ (1 : Int32).toInt ∧ (1 : Int32).toInt ≤ 1) (ti_rng y_109) n_c_186 (by decide)
      refine lv_iload_n hx hb dX9_lowestTerm_46 rfl (lv_at hl 5 rfl) ?_
      refine lv_if_ne (tgt := 54) hx hb dX9_lowestTerm_47 (by decide) (fun c_187 => ?_) (fun c_187 => ?_)
      ·
        have n_c_187 : (a3.toInt : Int) ≠ 0 := c_ne rfl (by decide) c_187
        refine lv_iload_n hx hb dX9_lowestTerm_54 rfl (lv_at hl 4 rfl) ?_
        refine lv_iload_n hx hb dX9_lowestTerm_55 rfl (lv_at hl 2 rfl) ?_
        refine lv_idiv hx hb dX9_lowestTerm_56 (ti_ne b_y_109 (by decide)) ?_
        refine lv_topi (fun z_188 e_z_188 => ?_)
        exact W.iret (v := z_188) hx hb hr (fun t ht hW => ⟨z_188, rfl, trivial, ht⟩) t_nil dX9_lowestTerm_57
      ·
        have n_c_187 : (a3.toInt : Int) = 0 := c_eq rfl (by decide) c_187
        have b_a3 : (0 : Int) ≤ a3.toInt ∧ a3.toInt ≤ 0 := r_eq1 (ti_rng a3) (by decide : (0 : Int) ≤ (0 : Int32).toInt ∧ (0 : Int32).toInt ≤ 0) n_c_187 (by decide)
        refine lv_iload_n hx hb dX9_lowestTerm_50 rfl (lv_at hl 3 rfl) ?_
        refine lv_goto (tgt := 55) hx hb dX9_lowestTerm_51 (by decide) ?_
        refine lv_iload_n hx hb dX9_lowestTerm_55 rfl (lv_at hl 2 rfl) ?_
        refine lv_idiv hx hb dX9_lowestTerm_56 (ti_ne b_y_109 (by decide)) ?_
        refine lv_topi (fun z_189 e_z_189 => ?_)
        exact W.iret (v := z_189) hx hb hr (fun t ht hW => ⟨z_189, rfl, trivial, ht⟩) t_nil dX9_lowestTerm_57
    ·
      have n_c_186 : (y_109.toInt : Int) < 1 := c_nge rfl (by decide) c_186
      have b_y_109 : (-2147483648 : Int) ≤ y_109.toInt ∧ y_109.toInt ≤ 0 := r_lt1 (ti_rng y_109) (by decide : (1 : Int) ≤ (1 : Int32).toInt ∧ (1 : Int32).toInt ≤ 1) n_c_186 (by decide)
      refine lv_iconst (v := 0) hx hb dX9_lowestTerm_44 (by decide) ?_
      exact W.iret (v := 0) hx hb hr (fun t ht hW => ⟨0, rfl, trivial, ht⟩) t_nil dX9_lowestTerm_45
  ·
    refine lv_icmp_ge (tgt := 39) hx hb dX9_lowestTerm_12 (by decide) (fun c_182 => ?_) (fun c_182 => ?_)
    ·
      have n_c_182 : (64 : Int) ≤ y_107.toInt := c_ge rfl (by decide) c_182
      have b_y_107 : (64 : Int) ≤ y_107.toInt ∧ y_107.toInt ≤ 64 := r_le2 (by decide : (64 : Int) ≤ (64 : Int32).toInt ∧ (64 : Int32).toInt ≤ 64) b_y_107 n_c_182 (by decide)
      exact hj_39_185 () _ (lv_sub hl [0, 1, 2, 3, 4, 5] rfl)
    ·
      have n_c_182 : (y_107.toInt : Int) < 64 := c_nge rfl (by decide) c_182
      have b_y_107 : (0 : Int) ≤ y_107.toInt ∧ y_107.toInt ≤ 63 := r_lt1 b_y_107 (by decide : (64 : Int) ≤ (64 : Int32).toInt ∧ (64 : Int32).toInt ≤ 64) n_c_182 (by decide)
      refine lv_iload hx hb dX9_lowestTerm_15 (lv_at hl 1 rfl) ?_
      refine lv_if_le (tgt := 39) hx hb dX9_lowestTerm_17 (by decide) (fun c_190 => ?_) (fun c_190 => ?_)
      ·
        have n_c_190 : (y_108.toInt : Int) ≤ 0 := c_le rfl (by decide) c_190
        have b_y_108 : (-2147483648 : Int) ≤ y_108.toInt ∧ y_108.toInt ≤ 0 := r_le1 (ti_rng y_108) (by decide : (0 : Int) ≤ (0 : Int32).toInt ∧ (0 : Int32).toInt ≤ 0) n_c_190 (by decide)
        exact hj_39_185 () _ (lv_sub hl [0, 1, 2, 3, 4, 5] rfl)
      ·
        have n_c_190 : (0 : Int) < y_108.toInt := c_nle rfl (by decide) c_190
        have b_y_108 : (1 : Int) ≤ y_108.toInt ∧ y_108.toInt ≤ 2147483647 := r_lt2 (by decide : (0 : Int) ≤ (0 : Int32).toInt ∧ (0 : Int32).toInt ≤ 0) (ti_rng y_108) n_c_190 (by decide)
        refine lv_iload_n hx hb dX9_lowestTerm_20 rfl (lv_at hl 2 rfl) ?_
        refine lv_iload hx hb dX9_lowestTerm_21 (lv_at hl 1 rfl) ?_
        refine lv_irem hx hb dX9_lowestTerm_23 (ti_ne b_y_108 (by decide)) ?_
        refine lv_topi (fun z_191 e_z_191 => ?_)
        refine lv_istore (lv' := [(6, .int z_191), (5, .int y_107), (4, .int y_108), (3, .int y_109), (0, .int a1), (1, .int a2), (2, .int a3)]) hx hb dX9_lowestTerm_24 hl (by decide) rfl (fun ls hl => ?_)
        refine lv_iload hx hb dX9_lowestTerm_26 (lv_at hl 2 rfl) ?_
        refine lv_istore_n (lv' := [(3, .int y_108), (6, .int z_191), (5, .int y_107), (4, .int y_108), (0, .int a1), (1, .int a2), (2, .int a3)]) hx hb dX9_lowestTerm_28 rfl hl (by decide) rfl (fun ls hl => ?_)
        refine lv_iload hx hb dX9_lowestTerm_29 (lv_at hl 1 rfl) ?_
        refine lv_istore (lv' := [(4, .int z_191), (3, .int y_108), (6, .int z_191), (5, .int y_107), (0, .int a1), (1, .int a2), (2, .int a3)]) hx hb dX9_lowestTerm_31 hl (by decide) rfl (fun ls hl => ?_)
        obtain ⟨z_192, e_z_192⟩ : ∃ y : Int32, y = y_107 + 1 := ⟨_, rfl⟩
        refine lv_iinc (v := z_192) (lv' := [(5, .int z_192), (4, .int z_191), (3, .int y_108), (6, .int z_191), (0, .int a1), (1, .int a2), (2, .int a3)]) hx hb dX9_lowestTerm_33 hl (k := 3) rfl (by rw [e_z_192]; rfl) (by decide) rfl (fun ls hl => ?_)
        obtain ⟨q_z_192, b_z_192⟩ := ti_add (lo := 1) (hi := 64) e_z_192 rfl (by decide : (1 : Int32).toInt = 1) b_y_107 (by decide : (1 : Int) ≤ (1 : Int32).toInt ∧ (1 : Int32).toInt ≤ 1) (by decide)
        refine lv_goto (tgt := 8) hx hb dX9_lowestTerm_36 (by decide) ?_
        exact ih_8_181 (z_192, z_191, y_108) _ ⟨(show (0 : Int) ≤ z_192.toInt ∧ z_192.toInt ≤ 64 from (rg_w b_z_192 (by decide) (by decide))), lv_sub hl [0, 1, 2, 4, 5, 6] rfl⟩ (show (64 - z_192.toInt).toNat < (64 - y_107.toInt).toNat by omega)
theorem dX9_choices_0 : decode cX9_choices 0 = .ok (.lconst 1, 1) := by decide +kernel
theorem dX9_choices_1 : decode cX9_choices 1 = .ok (.lstore_n 2, 1) := by decide +kernel
theorem dX9_choices_2 : decode cX9_choices 2 = .ok (.iconst 0, 1) := by decide +kernel
theorem dX9_choices_3 : decode cX9_choices 3 = .ok (.istore 4, 2) := by decide +kernel
theorem dX9_choices_5 : decode cX9_choices 5 = .ok (.iload 4, 2) := by decide +kernel
theorem dX9_choices_7 : decode cX9_choices 7 = .ok (.iload_n 1, 1) := by decide +kernel
theorem dX9_choices_8 : decode cX9_choices 8 = .ok (.if_icmp .ge 33, 3) := by decide +kernel
theorem dX9_choices_11 : decode cX9_choices 11 = .ok (.iload 4, 2) := by decide +kernel
theorem dX9_choices_13 : decode cX9_choices 13 = .ok (.iconst 4, 1) := by decide +kernel
theorem dX9_choices_14 : decode cX9_choices 14 = .ok (.if_icmp .ge 27, 3) := by decide +kernel
theorem dX9_choices_17 : decode cX9_choices 17 = .ok (.lload_n 2, 1) := by decide +kernel
theorem dX9_choices_18 : decode cX9_choices 18 = .ok (.iload_n 0, 1) := by decide +kernel
theorem dX9_choices_19 : decode cX9_choices 19 = .ok (.iload 4, 2) := by decide +kernel
theorem dX9_choices_21 : decode cX9_choices 21 = .ok (.isub, 1) := by decide +kernel
theorem dX9_choices_22 : decode cX9_choices 22 = .ok (.iconst 0, 1) := by decide +kernel
theorem dX9_choices_23 : decode cX9_choices 23 = .ok (.invokestatic 357, 3) := by decide +kernel
theorem dX9_choices_26 : decode cX9_choices 26 = .ok (.i2l, 1) := by decide +kernel
theorem dX9_choices_27 : decode cX9_choices 27 = .ok (.lmul, 1) := by decide +kernel
theorem dX9_choices_28 : decode cX9_choices 28 = .ok (.iload 4, 2) := by decide +kernel
theorem dX9_choices_30 : decode cX9_choices 30 = .ok (.iconst 1, 1) := by decide +kernel
theorem dX9_choices_31 : decode cX9_choices 31 = .ok (.iadd, 1) := by decide +kernel
theorem dX9_choices_32 : decode cX9_choices 32 = .ok (.i2l, 1) := by decide +kernel
theorem dX9_choices_33 : decode cX9_choices 33 = .ok (.ldiv, 1) := by decide +kernel
theorem dX9_choices_34 : decode cX9_choices 34 = .ok (.lstore_n 2, 1) := by decide +kernel
theorem dX9_choices_35 : decode cX9_choices 35 = .ok (.iinc 4 1, 3) := by decide +kernel
theorem dX9_choices_38 : decode cX9_choices 38 = .ok (.goto (-33), 3) := by decide +kernel
theorem dX9_choices_41 : decode cX9_choices 41 = .ok (.lload_n 2, 1) := by decide +kernel
theorem dX9_choices_42 : decode cX9_choices 42 = .ok (.lreturn, 1) := by decide +kernel
theorem hd_yX9_choices : yX9_choices.cls = RX9 ∧ yX9_choices.cls ≠ "java/lang/invoke/MethodHandle" ∧ yX9_choices.cls ≠ "java/lang/invoke/VarHandle" ∧ (parseMethodDescriptor yX9_choices.desc).map (fun d => d.parameters.length) = some 2 := by decide +kernel
def uX9_choices : List Cond := List.cons (.code yX9_choices cX9_choices 5 (some .long)) ([.methodLink RX9 357 yJ9_max_7cf53, .static yJ9_max_7cf53, .initialized RJ9, .code yJ9_max_7cf53 cJ9_max_7cf53 2 (some .int)] : List Cond)
theorem guX9_choices : GU uX9_choices := gu_cons (gu_all (by decide +kernel))
set_option maxHeartbeats 4000000 in
set_option maxRecDepth 100000 in
theorem kX9_choices (l : Launch) (dC : Nat → ClassId) (dI : Nat → Nat → Nat) (a1 : Int32) (a2 : Int32) : Met l yX9_choices uX9_choices ({ frames := 1, cells := 0, slots := 0, locals := 15 }) (va_Pc [.int a1, .int a2] (fun _ => True)) (vp_Sl (fun r => True)) 0 0 (fun _ => False) := by
  refine Met.ofW (cc := cX9_choices) (maxL := 5) (ret := (some .long)) pn_X9 rfl ?_
  intro p e s m args below meth c s₁ B hml hv
  obtain ⟨rfl, _⟩ := hv
  have hx := B.exec
  have hb := B.bytes
  have hr := B.returns
  have hts := atoms_spec (ws := uX9_choices) B.pre
  have hown : s.vm.findClass RX9 = some m.cls := hown_of B.named rfl
  have hlocks := B.notSynchronized
  have hl := lv_entry ([.int a1, .int a2]) (n := 5) (Nat.le_of_ble_eq_true rfl)
  rw [lg_entry_eq]
  generalize (lg_sl ([.int a1, .int a2]) ++ List.replicate (5 - (lg_sl ([.int a1, .int a2])).length) Slot.unset).toArray = ls at hl ⊢
  have hl : lv_has ls 5 [(0, .int a1), (1, .int a2)] := hl
  refine lv_lconst (v := 1) hx hb dX9_choices_0 (by decide) ?_
  refine lv_lstore_n (lv' := [(2, .long 1), (0, .int a1), (1, .int a2)]) hx hb dX9_choices_1 rfl hl (by decide) rfl (fun ls hl => ?_)
  refine lv_iconst (v := 0) hx hb dX9_choices_2 (by decide) ?_
  refine lv_istore (lv' := [(4, .int 0), (2, .long 1), (0, .int a1), (1, .int a2)]) hx hb dX9_choices_3 hl (by decide) rfl (fun ls hl => ?_)
  refine loopP (σ := Int32 × Int64) (fun v => (4 - v.1.toInt).toNat) (fun v ls => ((0 : Int) ≤ v.1.toInt ∧ v.1.toInt ≤ 4) ∧ lv_has ls 5 [(4, .int v.1), (2, .long v.2), (0, .int a1), (1, .int a2)]) (fun v ls hI ih_5_112 => ?_) ((0 : Int32), (1 : Int64)) ⟨(show (0 : Int) ≤ (0 : Int32).toInt ∧ (0 : Int32).toInt ≤ 4 from (rg_w (by decide : (0 : Int) ≤ (0 : Int32).toInt ∧ (0 : Int32).toInt ≤ 0) (by decide) (by decide))), lv_sub hl [0, 1, 2, 3] rfl⟩
  obtain ⟨y_71, y_72⟩ := v
  obtain ⟨b_y_71, hl⟩ := hI
  have b_y_71 : (0 : Int) ≤ y_71.toInt ∧ y_71.toInt ≤ 4 := b_y_71
  have hl : lv_has ls 5 [(4, .int y_71), (2, .long y_72), (0, .int a1), (1, .int a2)] := hl
  refine lv_iload hx hb dX9_choices_5 (lv_at hl 0 rfl) ?_
  refine lv_iload_n hx hb dX9_choices_7 rfl (lv_at hl 3 rfl) ?_
  refine lv_icmp_ge (tgt := 41) hx hb dX9_choices_8 (by decide) (fun c_113 => ?_) (fun c_113 => ?_)
  ·
    have n_c_113 : (a2.toInt : Int) ≤ y_71.toInt := c_ge rfl rfl c_113
    have b_a2 : (-2147483648 : Int) ≤ a2.toInt ∧ a2.toInt ≤ 4 := r_le1 (ti_rng a2) b_y_71 n_c_113 (by decide)
    refine lv_lload_n hx hb dX9_choices_41 rfl (lv_at hl 1 rfl) ?_
    exact W.lret (v := y_72) hx hb hr (fun t ht hW => ⟨y_72, rfl, trivial, ht⟩) t_nil dX9_choices_42
  ·
    have n_c_113 : (y_71.toInt : Int) < a2.toInt := c_nge rfl rfl c_113
    have b_a2 : (1 : Int) ≤ a2.toInt ∧ a2.toInt ≤ 2147483647 := r_lt2 b_y_71 (ti_rng a2) n_c_113 (by decide)
    refine lv_iload hx hb dX9_choices_11 (lv_at hl 0 rfl) ?_
    refine lv_iconst (v := 4) hx hb dX9_choices_13 (by decide) ?_
    refine lv_icmp_ge (tgt := 41) hx hb dX9_choices_14 (by decide) (fun c_114 => ?_) (fun c_114 => ?_)
    ·
      have n_c_114 : (4 : Int) ≤ y_71.toInt := c_ge rfl (by decide) c_114
      have b_y_71 : (4 : Int) ≤ y_71.toInt ∧ y_71.toInt ≤ 4 := r_le2 (by decide : (4 : Int) ≤ (4 : Int32).toInt ∧ (4 : Int32).toInt ≤ 4) b_y_71 n_c_114 (by decide)
      refine lv_lload_n hx hb dX9_choices_41 rfl (lv_at hl 1 rfl) ?_
      exact W.lret (v := y_72) hx hb hr (fun t ht hW => ⟨y_72, rfl, trivial, ht⟩) t_nil dX9_choices_42
    ·
      have n_c_114 : (y_71.toInt : Int) < 4 := c_nge rfl (by decide) c_114
      have b_y_71 : (0 : Int) ≤ y_71.toInt ∧ y_71.toInt ≤ 3 := r_lt1 b_y_71 (by decide : (4 : Int) ≤ (4 : Int32).toInt ∧ (4 : Int32).toInt ≤ 4) n_c_114 (by decide)
      refine lv_lload_n hx hb dX9_choices_17 rfl (lv_at hl 1 rfl) ?_
      refine lv_iload_n hx hb dX9_choices_18 rfl (lv_at hl 2 rfl) ?_
      refine lv_iload hx hb dX9_choices_19 (lv_at hl 0 rfl) ?_
      refine lv_isub hx hb dX9_choices_21 ?_
      refine lv_topi (fun z_115 e_z_115 => ?_)
      refine lv_iconst (v := 0) hx hb dX9_choices_22 (by decide) ?_
      refine va_mmax hx hb (hml.trans hl.1.symm) hown (hts (.methodLink RX9 357 yJ9_max_7cf53) (List.mem_of_getElem? (i := 1) rfl)) (hts (.static yJ9_max_7cf53) (List.mem_of_getElem? (i := 2) rfl)) (hts (.initialized RJ9) (List.mem_of_getElem? (i := 3) rfl)) (hts (.code yJ9_max_7cf53 cJ9_max_7cf53 2 (some .int)) (List.mem_of_getElem? (i := 4) rfl)) (lel 1 1 rfl) (Nat.le_of_ble_eq_true rfl) (lel 0 0 rfl) (lel 0 0 rfl) dX9_choices_23 ?_
      refine lv_topi (fun z_116 e_z_116 => ?_)
      have q_z_116 := ti_max e_z_116 rfl (by decide : (0 : Int32).toInt = 0)
      have b_z_116 : (0 : Int) ≤ z_116.toInt ∧ z_116.toInt ≤ 2147483647 := by
        have q0 := (ti_rng z_115); have q1 := (by decide : (0 : Int) ≤ (0 : Int32).toInt ∧ (0 : Int32).toInt ≤ 0)
        have q2 := (by decide : (0 : Int32).toInt = 0)
        omega
      obtain ⟨z_117, e_z_117⟩ : ∃ y : Int64, y = z_116.toInt64 := ⟨_, rfl⟩
      refine lv_i2l (v := z_117) hx hb dX9_choices_26 e_z_117.symm ?_
      obtain ⟨q_z_117, b_z_117⟩ := ti_i2l e_z_117 b_z_116
      refine lv_lmul hx hb dX9_choices_27 ?_
      refine lv_topl (fun z_118 e_z_118 => ?_)
      refine lv_iload hx hb dX9_choices_28 (lv_at hl 0 rfl) ?_
      refine lv_iconst (v := 1) hx hb dX9_choices_30 (by decide) ?_
      refine lv_iadd hx hb dX9_choices_31 ?_
      refine lv_topi (fun z_119 e_z_119 => ?_)
      obtain ⟨q_z_119, b_z_119⟩ := ti_add (lo := 1) (hi := 4) e_z_119 rfl (by decide : (1 : Int32).toInt = 1) b_y_71 (by decide : (1 : Int) ≤ (1 : Int32).toInt ∧ (1 : Int32).toInt ≤ 1) (by decide)
      obtain ⟨z_120, e_z_120⟩ : ∃ y : Int64, y = z_119.toInt64 := ⟨_, rfl⟩
      refine lv_i2l (v := z_120) hx hb dX9_choices_32 e_z_120.symm ?_
      obtain ⟨q_z_120, b_z_120⟩ := ti_i2l e_z_120 b_z_119
      refine lv_ldiv hx hb dX9_choices_33 (tl_ne b_z_120 (by decide)) ?_
      refine lv_topl (fun z_121 e_z_121 => ?_)
      refine lv_lstore_n (lv' := [(2, .long z_121), (4, .int y_71), (0, .int a1), (1, .int a2)]) hx hb dX9_choices_34 rfl hl (by decide) rfl (fun ls hl => ?_)
      obtain ⟨z_122, e_z_122⟩ : ∃ y : Int32, y = y_71 + 1 := ⟨_, rfl⟩
      refine lv_iinc (v := z_122) (lv' := [(4, .int z_122), (2, .long z_121), (0, .int a1), (1, .int a2)]) hx hb dX9_choices_35 hl (k := 1) rfl (by rw [e_z_122]; rfl) (by decide) rfl (fun ls hl => ?_)
      obtain ⟨q_z_122, b_z_122⟩ := ti_add (lo := 1) (hi := 4) e_z_122 rfl (by decide : (1 : Int32).toInt = 1) b_y_71 (by decide : (1 : Int) ≤ (1 : Int32).toInt ∧ (1 : Int32).toInt ≤ 1) (by decide)
      refine lv_goto (tgt := 5) hx hb dX9_choices_38 (by decide) ?_
      exact ih_5_112 (z_122, z_121) _ ⟨(show (0 : Int) ≤ z_122.toInt ∧ z_122.toInt ≤ 4 from (rg_w b_z_122 (by decide) (by decide))), lv_sub hl [0, 1, 2, 3] rfl⟩ (show (4 - z_122.toInt).toNat < (4 - y_71.toInt).toNat by omega)
theorem dX9_stirred_0 : decode cX9_stirred 0 = .ok (.ldc2_w 362, 3) := by decide +kernel
theorem dX9_stirred_3 : decode cX9_stirred 3 = .ok (.lload_n 0, 1) := by decide +kernel
theorem dX9_stirred_4 : decode cX9_stirred 4 = .ok (.lmul, 1) := by decide +kernel
theorem dX9_stirred_5 : decode cX9_stirred 5 = .ok (.ldc2_w 364, 3) := by decide +kernel
theorem dX9_stirred_8 : decode cX9_stirred 8 = .ok (.ladd, 1) := by decide +kernel
theorem dX9_stirred_9 : decode cX9_stirred 9 = .ok (.ldc2_w 366, 3) := by decide +kernel
theorem dX9_stirred_12 : decode cX9_stirred 12 = .ok (.land, 1) := by decide +kernel
theorem dX9_stirred_13 : decode cX9_stirred 13 = .ok (.lreturn, 1) := by decide +kernel
theorem hd_yX9_stirred : yX9_stirred.cls = RX9 ∧ yX9_stirred.cls ≠ "java/lang/invoke/MethodHandle" ∧ yX9_stirred.cls ≠ "java/lang/invoke/VarHandle" ∧ (parseMethodDescriptor yX9_stirred.desc).map (fun d => d.parameters.length) = some 1 := by decide +kernel
def uX9_stirred : List Cond := List.cons (.code yX9_stirred cX9_stirred 2 (some .long)) ([.constantLong RX9 362 (1103515245), .constantLong RX9 364 (12345), .constantLong RX9 366 (2147483647)] : List Cond)
theorem guX9_stirred : GU uX9_stirred := gu_cons (gu_all (by decide +kernel))
set_option maxHeartbeats 4000000 in
set_option maxRecDepth 100000 in
theorem kX9_stirred (l : Launch) (dC : Nat → ClassId) (dI : Nat → Nat → Nat) (a1 : Int64) : Met l yX9_stirred uX9_stirred ({ frames := 0, cells := 0, slots := 0, locals := 0 }) (va_Pc [.long a1] (fun _ => True)) (vp_Sl (fun r => True)) 0 0 (fun _ => False) := by
  refine Met.ofW (cc := cX9_stirred) (maxL := 2) (ret := (some .long)) pn_X9 rfl ?_
  intro p e s m args below meth c s₁ B hml hv
  obtain ⟨rfl, _⟩ := hv
  have hx := B.exec
  have hb := B.bytes
  have hr := B.returns
  have hts := atoms_spec (ws := uX9_stirred) B.pre
  have hown : s.vm.findClass RX9 = some m.cls := hown_of B.named rfl
  have hlocks := B.notSynchronized
  have hl := lv_entry ([.long a1]) (n := 2) (Nat.le_of_ble_eq_true rfl)
  rw [lg_entry_eq]
  generalize (lg_sl ([.long a1]) ++ List.replicate (2 - (lg_sl ([.long a1])).length) Slot.unset).toArray = ls at hl ⊢
  have hl : lv_has ls 2 [(0, .long a1)] := hl
  refine lv_ldc2 (v := 1103515245) hx hb hown (hts (.constantLong RX9 362 (1103515245)) (List.mem_of_getElem? (i := 1) rfl)) dX9_stirred_0 ?_
  refine lv_lload_n hx hb dX9_stirred_3 rfl (lv_at hl 0 rfl) ?_
  refine lv_lmul hx hb dX9_stirred_4 ?_
  refine lv_topl (fun z_4 e_z_4 => ?_)
  refine lv_ldc2 (v := 12345) hx hb hown (hts (.constantLong RX9 364 (12345)) (List.mem_of_getElem? (i := 2) rfl)) dX9_stirred_5 ?_
  refine lv_ladd hx hb dX9_stirred_8 ?_
  refine lv_topl (fun z_5 e_z_5 => ?_)
  refine lv_ldc2 (v := 2147483647) hx hb hown (hts (.constantLong RX9 366 (2147483647)) (List.mem_of_getElem? (i := 3) rfl)) dX9_stirred_9 ?_
  refine lv_land hx hb dX9_stirred_12 ?_
  refine lv_topl (fun z_6 e_z_6 => ?_)
  exact W.lret (v := z_6) hx hb hr (fun t ht hW => ⟨z_6, rfl, trivial, ht⟩) t_nil dX9_stirred_13
theorem dX9_drawOf_0 : decode cX9_drawOf 0 = .ok (.iload_n 2, 1) := by decide +kernel
theorem dX9_drawOf_1 : decode cX9_drawOf 1 = .ok (.iconst 1, 1) := by decide +kernel
theorem dX9_drawOf_2 : decode cX9_drawOf 2 = .ok (.if_icmp .ge 7, 3) := by decide +kernel
theorem dX9_drawOf_5 : decode cX9_drawOf 5 = .ok (.iconst 0, 1) := by decide +kernel
theorem dX9_drawOf_6 : decode cX9_drawOf 6 = .ok (.goto 12, 3) := by decide +kernel
theorem dX9_drawOf_9 : decode cX9_drawOf 9 = .ok (.lload_n 0, 1) := by decide +kernel
theorem dX9_drawOf_10 : decode cX9_drawOf 10 = .ok (.ldc2_w 368, 3) := by decide +kernel
theorem dX9_drawOf_13 : decode cX9_drawOf 13 = .ok (.ldiv, 1) := by decide +kernel
theorem dX9_drawOf_14 : decode cX9_drawOf 14 = .ok (.iload_n 2, 1) := by decide +kernel
theorem dX9_drawOf_15 : decode cX9_drawOf 15 = .ok (.i2l, 1) := by decide +kernel
theorem dX9_drawOf_16 : decode cX9_drawOf 16 = .ok (.lrem, 1) := by decide +kernel
theorem dX9_drawOf_17 : decode cX9_drawOf 17 = .ok (.l2i, 1) := by decide +kernel
theorem dX9_drawOf_18 : decode cX9_drawOf 18 = .ok (.ireturn, 1) := by decide +kernel
theorem hd_yX9_drawOf : yX9_drawOf.cls = RX9 ∧ yX9_drawOf.cls ≠ "java/lang/invoke/MethodHandle" ∧ yX9_drawOf.cls ≠ "java/lang/invoke/VarHandle" ∧ (parseMethodDescriptor yX9_drawOf.desc).map (fun d => d.parameters.length) = some 2 := by decide +kernel
def uX9_drawOf : List Cond := List.cons (.code yX9_drawOf cX9_drawOf 3 (some .int)) ([.constantLong RX9 368 (65536)] : List Cond)
theorem guX9_drawOf : GU uX9_drawOf := gu_cons (gu_all (by decide +kernel))
set_option maxHeartbeats 4000000 in
set_option maxRecDepth 100000 in
theorem kX9_drawOf (l : Launch) (dC : Nat → ClassId) (dI : Nat → Nat → Nat) (a1 : Int64) (a2 : Int32) : Met l yX9_drawOf uX9_drawOf ({ frames := 0, cells := 0, slots := 0, locals := 0 }) (va_Pc [.long a1, .int a2] (fun _ => True)) (vp_Si (fun r => True)) 0 0 (fun _ => False) := by
  refine Met.ofW (cc := cX9_drawOf) (maxL := 3) (ret := (some .int)) pn_X9 rfl ?_
  intro p e s m args below meth c s₁ B hml hv
  obtain ⟨rfl, _⟩ := hv
  have hx := B.exec
  have hb := B.bytes
  have hr := B.returns
  have hts := atoms_spec (ws := uX9_drawOf) B.pre
  have hown : s.vm.findClass RX9 = some m.cls := hown_of B.named rfl
  have hlocks := B.notSynchronized
  have hl := lv_entry ([.long a1, .int a2]) (n := 3) (Nat.le_of_ble_eq_true rfl)
  rw [lg_entry_eq]
  generalize (lg_sl ([.long a1, .int a2]) ++ List.replicate (3 - (lg_sl ([.long a1, .int a2])).length) Slot.unset).toArray = ls at hl ⊢
  have hl : lv_has ls 3 [(0, .long a1), (2, .int a2)] := hl
  refine lv_iload_n hx hb dX9_drawOf_0 rfl (lv_at hl 1 rfl) ?_
  refine lv_iconst (v := 1) hx hb dX9_drawOf_1 (by decide) ?_
  refine lv_icmp_ge (tgt := 9) hx hb dX9_drawOf_2 (by decide) (fun c_6 => ?_) (fun c_6 => ?_)
  ·
    have n_c_6 : (1 : Int) ≤ a2.toInt := c_ge rfl (by decide) c_6
    have b_a2 : (1 : Int) ≤ a2.toInt ∧ a2.toInt ≤ 2147483647 := r_le2 (by decide : (1 : Int) ≤ (1 : Int32).toInt ∧ (1 : Int32).toInt ≤ 1) (ti_rng a2) n_c_6 (by decide)
    refine lv_lload_n hx hb dX9_drawOf_9 rfl (lv_at hl 0 rfl) ?_
    refine lv_ldc2 (v := 65536) hx hb hown (hts (.constantLong RX9 368 (65536)) (List.mem_of_getElem? (i := 1) rfl)) dX9_drawOf_10 ?_
    refine lv_ldiv hx hb dX9_drawOf_13 (by decide) ?_
    refine lv_topl (fun z_7 e_z_7 => ?_)
    refine lv_iload_n hx hb dX9_drawOf_14 rfl (lv_at hl 1 rfl) ?_
    obtain ⟨z_8, e_z_8⟩ : ∃ y : Int64, y = a2.toInt64 := ⟨_, rfl⟩
    refine lv_i2l (v := z_8) hx hb dX9_drawOf_15 e_z_8.symm ?_
    obtain ⟨q_z_8, b_z_8⟩ := ti_i2l e_z_8 b_a2
    refine lv_lrem hx hb dX9_drawOf_16 (tl_ne b_z_8 (by decide)) ?_
    refine lv_topl (fun z_9 e_z_9 => ?_)
    obtain ⟨z_10, e_z_10⟩ : ∃ y : Int32, y = z_9.toInt32 := ⟨_, rfl⟩
    refine lv_l2i (v := z_10) hx hb dX9_drawOf_17 e_z_10.symm ?_
    exact W.iret (v := z_10) hx hb hr (fun t ht hW => ⟨z_10, rfl, trivial, ht⟩) t_nil dX9_drawOf_18
  ·
    have n_c_6 : (a2.toInt : Int) < 1 := c_nge rfl (by decide) c_6
    have b_a2 : (-2147483648 : Int) ≤ a2.toInt ∧ a2.toInt ≤ 0 := r_lt1 (ti_rng a2) (by decide : (1 : Int) ≤ (1 : Int32).toInt ∧ (1 : Int32).toInt ≤ 1) n_c_6 (by decide)
    refine lv_iconst (v := 0) hx hb dX9_drawOf_5 (by decide) ?_
    refine lv_goto (tgt := 18) hx hb dX9_drawOf_6 (by decide) ?_
    exact W.iret (v := 0) hx hb hr (fun t ht hW => ⟨0, rfl, trivial, ht⟩) t_nil dX9_drawOf_18
