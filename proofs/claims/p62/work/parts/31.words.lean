theorem dJ0_coder_7d493_0 : decode cJ0_coder_7d493 0 = .ok (.getstatic 38, 3) := by decide +kernel
theorem dJ0_coder_7d493_3 : decode cJ0_coder_7d493 3 = .ok (.ifCond .eq 10, 3) := by decide +kernel
theorem dJ0_coder_7d493_6 : decode cJ0_coder_7d493 6 = .ok (.aload_n 0, 1) := by decide +kernel
theorem dJ0_coder_7d493_7 : decode cJ0_coder_7d493 7 = .ok (.getfield 15, 3) := by decide +kernel
theorem dJ0_coder_7d493_10 : decode cJ0_coder_7d493 10 = .ok (.goto 4, 3) := by decide +kernel
theorem dJ0_coder_7d493_14 : decode cJ0_coder_7d493 14 = .ok (.ireturn, 1) := by decide +kernel
theorem hd_yJ0_coder_7d493 : yJ0_coder_7d493.cls = RJ0 ∧ yJ0_coder_7d493.cls ≠ "java/lang/invoke/MethodHandle" ∧ yJ0_coder_7d493.cls ≠ "java/lang/invoke/VarHandle" ∧ (parseMethodDescriptor yJ0_coder_7d493.desc).map (fun d => d.parameters.length) = some 0 := by decide +kernel
def uJ0_coder_7d493 : List Cond := List.cons (.code yJ0_coder_7d493 cJ0_coder_7d493 1 (some .byte)) ([.fieldLink RJ0 38 "java/lang/String" "COMPACT_STRINGS" "Z", .fieldLink RJ0 15 "java/lang/String" "coder" "B"] : List Cond)
theorem guJ0_coder_7d493 : GU uJ0_coder_7d493 := gu_cons (gu_all (by decide +kernel))
set_option maxHeartbeats 4000000 in
set_option maxRecDepth 100000 in
theorem kJ0_coder_7d493 (l : Launch) (dC : Nat → ClassId) (dI : Nat → Nat → Nat) (tq : Nat) (tn : Nat) (tf : Nat → Int32) (n0 : Nat) (htn : tn ≤ 6) : Met l yJ0_coder_7d493 uJ0_coder_7d493 ({ frames := 0, cells := 0, slots := 0, locals := 0 }) (va_Pc [.ref tq] (px (dC, dI) vwCl [] [] n0 [(tq, tn, tf)] [])) (vp_Si (fun r => ((0 : Int) ≤ r.toInt ∧ r.toInt ≤ 0))) 0 0 (fun _ => False) := by
  refine Met.ofW (cc := cJ0_coder_7d493) (maxL := 1) (ret := (some .byte)) pn_J0 rfl ?_
  intro p e s m args below meth c s₁ B hml hv
  obtain ⟨rfl, ⟨hP, hK, hN⟩, hX, hTx, hBx⟩ := hv
  have hx := B.exec
  have hb := B.bytes
  have hr := B.returns
  have hts := atoms_spec (ws := uJ0_coder_7d493) B.pre
  have hown : s.vm.findClass RJ0 = some m.cls := hown_of B.named rfl
  have hlocks := B.notSynchronized
  have hS0 : va_S (fun a => n0 ≤ a) s.heap s.heap [] := va_S.rf
  have ht_tq : txt n0 tq tn tf s := hTx _ (List.mem_of_getElem? (i := 0) rfl)
  obtain ⟨tb_, hTO, hTC, hTV, hTB⟩ := id ht_tq
  have hl := lv_entry ([.ref tq]) (n := 1) (Nat.le_of_ble_eq_true rfl)
  rw [lg_entry_eq]
  generalize (lg_sl ([.ref tq]) ++ List.replicate (1 - (lg_sl ([.ref tq])).length) Slot.unset).toArray = ls at hl ⊢
  have hl : lv_has ls 1 [(0, .ref tq)] := hl
  refine va_gets hx hb hX.1 hS0 hown (hts (.fieldLink RJ0 38 "java/lang/String" "COMPACT_STRINGS" "Z") (List.mem_of_getElem? (i := 1) rfl)) (fun _ h9 => h9) dJ0_coder_7d493_0 ?_
  refine lv_if_eq (tgt := 13) hx hb dJ0_coder_7d493_3 (by decide) (fun c_2 => absurd c_2 (by decide)) (fun c_2 => ?_)
  refine lv_aload_n hx hb dJ0_coder_7d493_6 rfl (lv_at hl 0 rfl) ?_
  refine vk_getf (o := "java/lang/String") (n := "coder") (d := "B") (v := .int 0) hx hb hTC hS0 hown (hts (.fieldLink RJ0 15 "java/lang/String" "coder" "B") (List.mem_of_getElem? (i := 2) rfl)) (fun _ h9 => h9) dJ0_coder_7d493_7 ?_
  refine lv_goto (tgt := 14) hx hb dJ0_coder_7d493_10 (by decide) ?_
  exact W.zret (v := 0) hx hb hr rfl (fun t ht hW => ⟨0, rfl, (by decide : (0 : Int) ≤ (0 : Int32).toInt ∧ (0 : Int32).toInt ≤ 0), ht⟩) t_nil dJ0_coder_7d493_14
theorem dJ0_isLatin1_aae02_0 : decode cJ0_isLatin1_aae02 0 = .ok (.getstatic 38, 3) := by decide +kernel
theorem dJ0_isLatin1_aae02_3 : decode cJ0_isLatin1_aae02 3 = .ok (.ifCond .eq 14, 3) := by decide +kernel
theorem dJ0_isLatin1_aae02_6 : decode cJ0_isLatin1_aae02 6 = .ok (.aload_n 0, 1) := by decide +kernel
theorem dJ0_isLatin1_aae02_7 : decode cJ0_isLatin1_aae02 7 = .ok (.getfield 15, 3) := by decide +kernel
theorem dJ0_isLatin1_aae02_10 : decode cJ0_isLatin1_aae02 10 = .ok (.ifCond .ne 7, 3) := by decide +kernel
theorem dJ0_isLatin1_aae02_13 : decode cJ0_isLatin1_aae02 13 = .ok (.iconst 1, 1) := by decide +kernel
theorem dJ0_isLatin1_aae02_14 : decode cJ0_isLatin1_aae02 14 = .ok (.goto 4, 3) := by decide +kernel
theorem dJ0_isLatin1_aae02_18 : decode cJ0_isLatin1_aae02 18 = .ok (.ireturn, 1) := by decide +kernel
theorem hd_yJ0_isLatin1_aae02 : yJ0_isLatin1_aae02.cls = RJ0 ∧ yJ0_isLatin1_aae02.cls ≠ "java/lang/invoke/MethodHandle" ∧ yJ0_isLatin1_aae02.cls ≠ "java/lang/invoke/VarHandle" ∧ (parseMethodDescriptor yJ0_isLatin1_aae02.desc).map (fun d => d.parameters.length) = some 0 := by decide +kernel
def uJ0_isLatin1_aae02 : List Cond := List.cons (.code yJ0_isLatin1_aae02 cJ0_isLatin1_aae02 1 (some .boolean)) ([.fieldLink RJ0 38 "java/lang/String" "COMPACT_STRINGS" "Z", .fieldLink RJ0 15 "java/lang/String" "coder" "B"] : List Cond)
theorem guJ0_isLatin1_aae02 : GU uJ0_isLatin1_aae02 := gu_cons (gu_all (by decide +kernel))
set_option maxHeartbeats 4000000 in
set_option maxRecDepth 100000 in
theorem kJ0_isLatin1_aae02 (l : Launch) (dC : Nat → ClassId) (dI : Nat → Nat → Nat) (tq : Nat) (tn : Nat) (tf : Nat → Int32) (n0 : Nat) (htn : tn ≤ 6) : Met l yJ0_isLatin1_aae02 uJ0_isLatin1_aae02 ({ frames := 0, cells := 0, slots := 0, locals := 0 }) (va_Pc [.ref tq] (px (dC, dI) vwCl [] [] n0 [(tq, tn, tf)] [])) (vp_Si (fun r => ((1 : Int) ≤ r.toInt ∧ r.toInt ≤ 1))) 0 0 (fun _ => False) := by
  refine Met.ofW (cc := cJ0_isLatin1_aae02) (maxL := 1) (ret := (some .boolean)) pn_J0 rfl ?_
  intro p e s m args below meth c s₁ B hml hv
  obtain ⟨rfl, ⟨hP, hK, hN⟩, hX, hTx, hBx⟩ := hv
  have hx := B.exec
  have hb := B.bytes
  have hr := B.returns
  have hts := atoms_spec (ws := uJ0_isLatin1_aae02) B.pre
  have hown : s.vm.findClass RJ0 = some m.cls := hown_of B.named rfl
  have hlocks := B.notSynchronized
  have hS0 : va_S (fun a => n0 ≤ a) s.heap s.heap [] := va_S.rf
  have ht_tq : txt n0 tq tn tf s := hTx _ (List.mem_of_getElem? (i := 0) rfl)
  obtain ⟨tb_, hTO, hTC, hTV, hTB⟩ := id ht_tq
  have hl := lv_entry ([.ref tq]) (n := 1) (Nat.le_of_ble_eq_true rfl)
  rw [lg_entry_eq]
  generalize (lg_sl ([.ref tq]) ++ List.replicate (1 - (lg_sl ([.ref tq])).length) Slot.unset).toArray = ls at hl ⊢
  have hl : lv_has ls 1 [(0, .ref tq)] := hl
  refine va_gets hx hb hX.1 hS0 hown (hts (.fieldLink RJ0 38 "java/lang/String" "COMPACT_STRINGS" "Z") (List.mem_of_getElem? (i := 1) rfl)) (fun _ h9 => h9) dJ0_isLatin1_aae02_0 ?_
  refine lv_if_eq (tgt := 17) hx hb dJ0_isLatin1_aae02_3 (by decide) (fun c_3 => absurd c_3 (by decide)) (fun c_3 => ?_)
  refine lv_aload_n hx hb dJ0_isLatin1_aae02_6 rfl (lv_at hl 0 rfl) ?_
  refine vk_getf (o := "java/lang/String") (n := "coder") (d := "B") (v := .int 0) hx hb hTC hS0 hown (hts (.fieldLink RJ0 15 "java/lang/String" "coder" "B") (List.mem_of_getElem? (i := 2) rfl)) (fun _ h9 => h9) dJ0_isLatin1_aae02_7 ?_
  refine lv_if_ne (tgt := 17) hx hb dJ0_isLatin1_aae02_10 (by decide) (fun c_4 => absurd c_4 (by decide)) (fun c_4 => ?_)
  refine lv_iconst (v := 1) hx hb dJ0_isLatin1_aae02_13 (by decide) ?_
  refine lv_goto (tgt := 18) hx hb dJ0_isLatin1_aae02_14 (by decide) ?_
  exact W.zret (v := 1) hx hb hr rfl (fun t ht hW => ⟨1, rfl, (by decide : (1 : Int) ≤ (1 : Int32).toInt ∧ (1 : Int32).toInt ≤ 1), ht⟩) t_nil dJ0_isLatin1_aae02_18
theorem dJ0_length_8abf5_0 : decode cJ0_length_8abf5 0 = .ok (.aload_n 0, 1) := by decide +kernel
theorem dJ0_length_8abf5_1 : decode cJ0_length_8abf5 1 = .ok (.getfield 9, 3) := by decide +kernel
theorem dJ0_length_8abf5_4 : decode cJ0_length_8abf5 4 = .ok (.arraylength, 1) := by decide +kernel
theorem dJ0_length_8abf5_5 : decode cJ0_length_8abf5 5 = .ok (.aload_n 0, 1) := by decide +kernel
theorem dJ0_length_8abf5_6 : decode cJ0_length_8abf5 6 = .ok (.invokevirtual 335, 3) := by decide +kernel
theorem dJ0_length_8abf5_9 : decode cJ0_length_8abf5 9 = .ok (.ishr, 1) := by decide +kernel
theorem dJ0_length_8abf5_10 : decode cJ0_length_8abf5 10 = .ok (.ireturn, 1) := by decide +kernel
theorem hd_yJ0_length_8abf5 : yJ0_length_8abf5.cls = RJ0 ∧ yJ0_length_8abf5.cls ≠ "java/lang/invoke/MethodHandle" ∧ yJ0_length_8abf5.cls ≠ "java/lang/invoke/VarHandle" ∧ (parseMethodDescriptor yJ0_length_8abf5.desc).map (fun d => d.parameters.length) = some 0 := by decide +kernel
def uJ0_length_8abf5 : List Cond := List.cons (.code yJ0_length_8abf5 cJ0_length_8abf5 1 (some .int)) (HAppend.hAppend ([.fieldLink RJ0 9 "java/lang/String" "value" "[B", .methodLink RJ0 335 yJ0_coder_7d493, .instanceMethod yJ0_coder_7d493, .selects RJ0 yJ0_coder_7d493 yJ0_coder_7d493, .initialized RJ0] : List Cond) uJ0_coder_7d493)
theorem guJ0_length_8abf5 : GU uJ0_length_8abf5 := gu_cons (gu_app (by decide +kernel) guJ0_coder_7d493)
theorem gJ0_length_8abf5__J0_coder_7d493_V335 : GoodIn uJ0_length_8abf5 (wsV RJ0 335 RJ0 yJ0_coder_7d493 uJ0_coder_7d493) := gin_V (List.mem_of_getElem? (i := 2) rfl) (List.mem_of_getElem? (i := 3) rfl) (List.mem_of_getElem? (i := 4) rfl) (List.mem_of_getElem? (i := 5) rfl) (fun _ h => (List.mem_cons_of_mem _ (List.mem_append_right _ h))) guJ0_coder_7d493
set_option maxHeartbeats 4000000 in
set_option maxRecDepth 100000 in
theorem kJ0_length_8abf5 (l : Launch) (dC : Nat → ClassId) (dI : Nat → Nat → Nat) (tq : Nat) (tn : Nat) (tf : Nat → Int32) (n0 : Nat) (htn : tn ≤ 6) : Met l yJ0_length_8abf5 uJ0_length_8abf5 ({ frames := 1, cells := 0, slots := 0, locals := 20 }) (va_Pc [.ref tq] (px (dC, dI) vwCl [] [] n0 [(tq, tn, tf)] [])) (vp_Si (fun r => ((0 : Int) ≤ r.toInt ∧ r.toInt ≤ 6) ∧ (r.toInt = (tn : Int)))) 0 0 (fun _ => False) := by
  refine Met.ofW (cc := cJ0_length_8abf5) (maxL := 1) (ret := (some .int)) pn_J0 rfl ?_
  intro p e s m args below meth c s₁ B hml hv
  obtain ⟨rfl, ⟨hP, hK, hN⟩, hX, hTx, hBx⟩ := hv
  have hx := B.exec
  have hb := B.bytes
  have hr := B.returns
  have hts := atoms_spec (ws := uJ0_length_8abf5) B.pre
  have hown : s.vm.findClass RJ0 = some m.cls := hown_of B.named rfl
  have hlocks := B.notSynchronized
  have hS0 : va_S (fun a => n0 ≤ a) s.heap s.heap [] := va_S.rf
  have ht_tq : txt n0 tq tn tf s := hTx _ (List.mem_of_getElem? (i := 0) rfl)
  obtain ⟨tb_, hTO, hTC, hTV, hTB⟩ := id ht_tq
  have hl := lv_entry ([.ref tq]) (n := 1) (Nat.le_of_ble_eq_true rfl)
  rw [lg_entry_eq]
  generalize (lg_sl ([.ref tq]) ++ List.replicate (1 - (lg_sl ([.ref tq])).length) Slot.unset).toArray = ls at hl ⊢
  have hl : lv_has ls 1 [(0, .ref tq)] := hl
  refine lv_aload_n hx hb dJ0_length_8abf5_0 rfl (lv_at hl 0 rfl) ?_
  refine vk_getf (o := "java/lang/String") (n := "value") (d := "[B") (v := .ref tb_) hx hb hTV hS0 hown (hts (.fieldLink RJ0 9 "java/lang/String" "value" "[B") (List.mem_of_getElem? (i := 1) rfl)) (fun _ h9 => h9) dJ0_length_8abf5_1 ?_
  obtain ⟨z_4, e_z_4⟩ : ∃ y : Int32, y = Int32.ofNat tn := ⟨_, rfl⟩
  refine va_tlen (v := z_4) hx hb hTB hS0 e_z_4.symm dJ0_length_8abf5_4 ?_
  obtain ⟨q_z_4, b_z_4⟩ := ti_len (hi := 6) e_z_4 (by omega) (by decide)
  refine lv_aload_n hx hb dJ0_length_8abf5_5 rfl (lv_at hl 0 rfl) ?_
  refine vp_callSi (W.runV (As := []) (rest := [.int z_4]) ⟨hx, hb, hml, hown, hts⟩ (kJ0_coder_7d493 l dC dI tq tn tf n0 (by omega)) (cwV 0 hts gJ0_length_8abf5__J0_coder_7d493_V335 rfl rfl rfl hd_yJ0_coder_7d493 ⟨lel 1 1 rfl, lel 20 20 rfl⟩) ⟨px_fb, txt.recv ht_tq hS0, (px_use hP hK hN hX hS0 [] rfl [] rfl (tts_1 ht_tq) tbs_0)⟩ rfl rfl hl.1 rfl (lv_room (Nat.le_of_ble_eq_true rfl)) dJ0_length_8abf5_6 ⟨lel 0 0 rfl, lel 0 0 rfl⟩) (fun r_5 h_r_5 => ?_)
  have b_r_5 := h_r_5
  have b_r_5 : (0 : Int) ≤ r_5.toInt ∧ r_5.toInt ≤ 0 := b_r_5
  obtain rfl : r_5 = 0 := ti_z b_r_5
  refine W.eq (g2 := F0 m 9 ls (.int 0 :: .int z_4 :: [])) rfl ?_
  refine lv_ishr hx hb dJ0_length_8abf5_9 ?_
  refine lv_topi (fun z_6 e_z_6 => ?_)
  obtain rfl : z_4 = z_6 := (e_z_6.trans (shr_0 _)).symm
  exact W.iret (v := z_4) hx hb hr (fun t ht hW => ⟨z_4, rfl, ⟨b_z_4, (by omega)⟩, ht⟩) t_nil dJ0_length_8abf5_10
theorem dJ3_checkIndex_8e157_0 : decode cJ3_checkIndex_8e157 0 = .ok (.iload_n 0, 1) := by decide +kernel
theorem dJ3_checkIndex_8e157_1 : decode cJ3_checkIndex_8e157 1 = .ok (.ifCond .lt 8, 3) := by decide +kernel
theorem dJ3_checkIndex_8e157_4 : decode cJ3_checkIndex_8e157 4 = .ok (.iload_n 0, 1) := by decide +kernel
theorem dJ3_checkIndex_8e157_5 : decode cJ3_checkIndex_8e157 5 = .ok (.iload_n 1, 1) := by decide +kernel
theorem dJ3_checkIndex_8e157_6 : decode cJ3_checkIndex_8e157 6 = .ok (.if_icmp .lt 10, 3) := by decide +kernel
theorem dJ3_checkIndex_8e157_16 : decode cJ3_checkIndex_8e157 16 = .ok (.iload_n 0, 1) := by decide +kernel
theorem dJ3_checkIndex_8e157_17 : decode cJ3_checkIndex_8e157 17 = .ok (.ireturn, 1) := by decide +kernel
theorem hd_yJ3_checkIndex_8e157 : yJ3_checkIndex_8e157.cls = RJ3 ∧ yJ3_checkIndex_8e157.cls ≠ "java/lang/invoke/MethodHandle" ∧ yJ3_checkIndex_8e157.cls ≠ "java/lang/invoke/VarHandle" ∧ (parseMethodDescriptor yJ3_checkIndex_8e157.desc).map (fun d => d.parameters.length) = some 3 := by decide +kernel
def uJ3_checkIndexN : List Cond := List.cons (.code yJ3_checkIndex_8e157 cJ3_checkIndex_8e157 3 (some .int)) ([] : List Cond)
theorem guJ3_checkIndexN : GU uJ3_checkIndexN := gu_cons (gu_all (by decide +kernel))
set_option maxHeartbeats 4000000 in
set_option maxRecDepth 100000 in
theorem kJ3_checkIndexN (l : Launch) (dC : Nat → ClassId) (dI : Nat → Nat → Nat) (a1 : Int32) (a2 : Int32) (hi0 : 0 ≤ a1.toInt ∧ a1.toInt < a2.toInt) : Met l yJ3_checkIndex_8e157 uJ3_checkIndexN ({ frames := 0, cells := 0, slots := 0, locals := 0 }) (va_Pc [.int a1, .int a2, .null] (fun _ => True)) (vp_Si (fun r => ((0 : Int) ≤ r.toInt ∧ r.toInt ≤ 2147483646))) 0 0 (fun _ => False) := by
  refine Met.ofW (cc := cJ3_checkIndex_8e157) (maxL := 3) (ret := (some .int)) pn_J3 rfl ?_
  intro p e s m args below meth c s₁ B hml hv
  obtain ⟨rfl, _⟩ := hv
  have hx := B.exec
  have hb := B.bytes
  have hr := B.returns
  have hts := atoms_spec (ws := uJ3_checkIndexN) B.pre
  have hown : s.vm.findClass RJ3 = some m.cls := hown_of B.named rfl
  have hlocks := B.notSynchronized
  have hl := lv_entry ([.int a1, .int a2, .null]) (n := 3) (Nat.le_of_ble_eq_true rfl)
  rw [lg_entry_eq]
  generalize (lg_sl ([.int a1, .int a2, .null]) ++ List.replicate (3 - (lg_sl ([.int a1, .int a2, .null])).length) Slot.unset).toArray = ls at hl ⊢
  have hl : lv_has ls 3 [(0, .int a1), (1, .int a2), (2, .null)] := hl
  refine lv_iload_n hx hb dJ3_checkIndex_8e157_0 rfl (lv_at hl 0 rfl) ?_
  refine lv_if_lt (tgt := 9) hx hb dJ3_checkIndex_8e157_1 (by decide) (fun c_3 => ?_) (fun c_3 => ?_)
  ·
    have n_c_3 : (a1.toInt : Int) < 0 := c_lt rfl (by decide) c_3
    have b_a1 : (-2147483648 : Int) ≤ a1.toInt ∧ a1.toInt ≤ -1 := r_lt1 (ti_rng a1) (by decide : (0 : Int) ≤ (0 : Int32).toInt ∧ (0 : Int32).toInt ≤ 0) n_c_3 (by decide)
    exact False.elim (by omega)
  ·
    have n_c_3 : (0 : Int) ≤ a1.toInt := c_nlt rfl (by decide) c_3
    have b_a1 : (0 : Int) ≤ a1.toInt ∧ a1.toInt ≤ 2147483647 := r_le2 (by decide : (0 : Int) ≤ (0 : Int32).toInt ∧ (0 : Int32).toInt ≤ 0) (ti_rng a1) n_c_3 (by decide)
    refine lv_iload_n hx hb dJ3_checkIndex_8e157_4 rfl (lv_at hl 0 rfl) ?_
    refine lv_iload_n hx hb dJ3_checkIndex_8e157_5 rfl (lv_at hl 1 rfl) ?_
    refine lv_icmp_lt (tgt := 16) hx hb dJ3_checkIndex_8e157_6 (by decide) (fun c_4 => ?_) (fun c_4 => ?_)
    ·
      have n_c_4 : (a1.toInt : Int) < a2.toInt := c_lt rfl rfl c_4
      have b_a1 : (0 : Int) ≤ a1.toInt ∧ a1.toInt ≤ 2147483646 := r_lt1 b_a1 (ti_rng a2) n_c_4 (by decide)
      have b_a2 : (1 : Int) ≤ a2.toInt ∧ a2.toInt ≤ 2147483647 := r_lt2 b_a1 (ti_rng a2) n_c_4 (by decide)
      refine lv_iload_n hx hb dJ3_checkIndex_8e157_16 rfl (lv_at hl 0 rfl) ?_
      exact W.iret (v := a1) hx hb hr (fun t ht hW => ⟨a1, rfl, b_a1, ht⟩) t_nil dJ3_checkIndex_8e157_17
    ·
      have n_c_4 : (a2.toInt : Int) ≤ a1.toInt := c_nlt rfl rfl c_4
      exact False.elim (by omega)
def uJ3_checkIndexR : List Cond := List.cons (.code yJ3_checkIndex_8e157 cJ3_checkIndex_8e157 3 (some .int)) ([] : List Cond)
theorem guJ3_checkIndexR : GU uJ3_checkIndexR := gu_cons (gu_all (by decide +kernel))
set_option maxHeartbeats 4000000 in
set_option maxRecDepth 100000 in
theorem kJ3_checkIndexR (l : Launch) (dC : Nat → ClassId) (dI : Nat → Nat → Nat) (a1 : Int32) (a2 : Int32) (a3 : Nat) (hi0 : 0 ≤ a1.toInt ∧ a1.toInt < a2.toInt) : Met l yJ3_checkIndex_8e157 uJ3_checkIndexR ({ frames := 0, cells := 0, slots := 0, locals := 0 }) (va_Pc [.int a1, .int a2, .ref a3] (fun _ => True)) (vp_Si (fun r => ((0 : Int) ≤ r.toInt ∧ r.toInt ≤ 2147483646))) 0 0 (fun _ => False) := by
  refine Met.ofW (cc := cJ3_checkIndex_8e157) (maxL := 3) (ret := (some .int)) pn_J3 rfl ?_
  intro p e s m args below meth c s₁ B hml hv
  obtain ⟨rfl, _⟩ := hv
  have hx := B.exec
  have hb := B.bytes
  have hr := B.returns
  have hts := atoms_spec (ws := uJ3_checkIndexR) B.pre
  have hown : s.vm.findClass RJ3 = some m.cls := hown_of B.named rfl
  have hlocks := B.notSynchronized
  have hl := lv_entry ([.int a1, .int a2, .ref a3]) (n := 3) (Nat.le_of_ble_eq_true rfl)
  rw [lg_entry_eq]
  generalize (lg_sl ([.int a1, .int a2, .ref a3]) ++ List.replicate (3 - (lg_sl ([.int a1, .int a2, .ref a3])).length) Slot.unset).toArray = ls at hl ⊢
  have hl : lv_has ls 3 [(0, .int a1), (1, .int a2), (2, .ref a3)] := hl
  refine lv_iload_n hx hb dJ3_checkIndex_8e157_0 rfl (lv_at hl 0 rfl) ?_
  refine lv_if_lt (tgt := 9) hx hb dJ3_checkIndex_8e157_1 (by decide) (fun c_3 => ?_) (fun c_3 => ?_)
  ·
    have n_c_3 : (a1.toInt : Int) < 0 := c_lt rfl (by decide) c_3
    have b_a1 : (-2147483648 : Int) ≤ a1.toInt ∧ a1.toInt ≤ -1 := r_lt1 (ti_rng a1) (by decide : (0 : Int) ≤ (0 : Int32).toInt ∧ (0 : Int32).toInt ≤ 0) n_c_3 (by decide)
    exact False.elim (by omega)
  ·
    have n_c_3 : (0 : Int) ≤ a1.toInt := c_nlt rfl (by decide) c_3
    have b_a1 : (0 : Int) ≤ a1.toInt ∧ a1.toInt ≤ 2147483647 := r_le2 (by decide : (0 : Int) ≤ (0 : Int32).toInt ∧ (0 : Int32).toInt ≤ 0) (ti_rng a1) n_c_3 (by decide)
    refine lv_iload_n hx hb dJ3_checkIndex_8e157_4 rfl (lv_at hl 0 rfl) ?_
    refine lv_iload_n hx hb dJ3_checkIndex_8e157_5 rfl (lv_at hl 1 rfl) ?_
    refine lv_icmp_lt (tgt := 16) hx hb dJ3_checkIndex_8e157_6 (by decide) (fun c_4 => ?_) (fun c_4 => ?_)
    ·
      have n_c_4 : (a1.toInt : Int) < a2.toInt := c_lt rfl rfl c_4
      have b_a1 : (0 : Int) ≤ a1.toInt ∧ a1.toInt ≤ 2147483646 := r_lt1 b_a1 (ti_rng a2) n_c_4 (by decide)
      have b_a2 : (1 : Int) ≤ a2.toInt ∧ a2.toInt ≤ 2147483647 := r_lt2 b_a1 (ti_rng a2) n_c_4 (by decide)
      refine lv_iload_n hx hb dJ3_checkIndex_8e157_16 rfl (lv_at hl 0 rfl) ?_
      exact W.iret (v := a1) hx hb hr (fun t ht hW => ⟨a1, rfl, b_a1, ht⟩) t_nil dJ3_checkIndex_8e157_17
    ·
      have n_c_4 : (a2.toInt : Int) ≤ a1.toInt := c_nlt rfl rfl c_4
      exact False.elim (by omega)
theorem dJ0_checkIndex_df160_0 : decode cJ0_checkIndex_df160 0 = .ok (.iload_n 0, 1) := by decide +kernel
theorem dJ0_checkIndex_df160_1 : decode cJ0_checkIndex_df160 1 = .ok (.iload_n 1, 1) := by decide +kernel
theorem dJ0_checkIndex_df160_2 : decode cJ0_checkIndex_df160 2 = .ok (.getstatic 1053, 3) := by decide +kernel
theorem dJ0_checkIndex_df160_5 : decode cJ0_checkIndex_df160 5 = .ok (.invokestatic 1059, 3) := by decide +kernel
theorem dJ0_checkIndex_df160_8 : decode cJ0_checkIndex_df160 8 = .ok (.pop, 1) := by decide +kernel
theorem dJ0_checkIndex_df160_9 : decode cJ0_checkIndex_df160 9 = .ok (.return_, 1) := by decide +kernel
theorem hd_yJ0_checkIndex_df160 : yJ0_checkIndex_df160.cls = RJ0 ∧ yJ0_checkIndex_df160.cls ≠ "java/lang/invoke/MethodHandle" ∧ yJ0_checkIndex_df160.cls ≠ "java/lang/invoke/VarHandle" ∧ (parseMethodDescriptor yJ0_checkIndex_df160.desc).map (fun d => d.parameters.length) = some 2 := by decide +kernel
def uJ0_checkIndex_df160 : List Cond := List.cons (.code yJ0_checkIndex_df160 cJ0_checkIndex_df160 2 none) (HAppend.hAppend ([.fieldLink RJ0 1053 "jdk/internal/util/Preconditions" "SIOOBE_FORMATTER" "Ljava/util/function/BiFunction;", .methodLink RJ0 1059 yJ3_checkIndex_8e157, .static yJ3_checkIndex_8e157, .initialized RJ3] : List Cond) (HAppend.hAppend uJ3_checkIndexN uJ3_checkIndexR))
theorem guJ0_checkIndex_df160 : GU uJ0_checkIndex_df160 := gu_cons (gu_app (by decide +kernel) (gu_ap guJ3_checkIndexN guJ3_checkIndexR))
theorem gJ0_checkIndex_df160__J3_checkIndexN_S1059 : GoodIn uJ0_checkIndex_df160 (va_wsS RJ0 1059 yJ3_checkIndex_8e157 uJ3_checkIndexN) := gin_S (List.mem_of_getElem? (i := 2) rfl) (List.mem_of_getElem? (i := 3) rfl) (List.mem_of_getElem? (i := 4) rfl) (fun _ h => (List.mem_cons_of_mem _ (List.mem_append_right _ (List.mem_append_left _ h)))) guJ3_checkIndexN
theorem gJ0_checkIndex_df160__J3_checkIndexR_S1059 : GoodIn uJ0_checkIndex_df160 (va_wsS RJ0 1059 yJ3_checkIndex_8e157 uJ3_checkIndexR) := gin_S (List.mem_of_getElem? (i := 2) rfl) (List.mem_of_getElem? (i := 3) rfl) (List.mem_of_getElem? (i := 4) rfl) (fun _ h => (List.mem_cons_of_mem _ (List.mem_append_right _ (List.mem_append_right _ h)))) guJ3_checkIndexR
set_option maxHeartbeats 4000000 in
set_option maxRecDepth 100000 in
theorem kJ0_checkIndex_df160 (l : Launch) (dC : Nat → ClassId) (dI : Nat → Nat → Nat) (a1 : Int32) (a2 : Int32) (n0 : Nat) (hi0 : 0 ≤ a1.toInt ∧ a1.toInt < a2.toInt) : Met l yJ0_checkIndex_df160 uJ0_checkIndex_df160 ({ frames := 1, cells := 0, slots := 0, locals := 22 }) (va_Pc [.int a1, .int a2] (px (dC, dI) vwCl [] [] n0 [] [])) (vq_S) 0 0 (fun _ => False) := by
  refine Met.ofW (cc := cJ0_checkIndex_df160) (maxL := 2) (ret := none) pn_J0 rfl ?_
  intro p e s m args below meth c s₁ B hml hv
  obtain ⟨rfl, ⟨hP, hK, hN⟩, hX, hTx, hBx⟩ := hv
  have hx := B.exec
  have hb := B.bytes
  have hr := B.returns
  have hts := atoms_spec (ws := uJ0_checkIndex_df160) B.pre
  have hown : s.vm.findClass RJ0 = some m.cls := hown_of B.named rfl
  have hlocks := B.notSynchronized
  have hS0 : va_S (fun a => n0 ≤ a) s.heap s.heap [] := va_S.rf
  have hl := lv_entry ([.int a1, .int a2]) (n := 2) (Nat.le_of_ble_eq_true rfl)
  rw [lg_entry_eq]
  generalize (lg_sl ([.int a1, .int a2]) ++ List.replicate (2 - (lg_sl ([.int a1, .int a2])).length) Slot.unset).toArray = ls at hl ⊢
  have hl : lv_has ls 2 [(0, .int a1), (1, .int a2)] := hl
  refine lv_iload_n hx hb dJ0_checkIndex_df160_0 rfl (lv_at hl 0 rfl) ?_
  refine lv_iload_n hx hb dJ0_checkIndex_df160_1 rfl (lv_at hl 1 rfl) ?_
  rcases id hX.2.1 with hZq | ⟨zt, hZq⟩
  ·
    refine va_gets hx hb hZq hS0 hown (hts (.fieldLink RJ0 1053 "jdk/internal/util/Preconditions" "SIOOBE_FORMATTER" "Ljava/util/function/BiFunction;") (List.mem_of_getElem? (i := 1) rfl)) (fun _ h9 => h9) dJ0_checkIndex_df160_2 ?_
    refine vp_callSi (W.runS (As := [.int a1, .int a2, .null]) (rest := []) ⟨hx, hb, hml, hown, hts⟩ (kJ3_checkIndexN l dC dI a1 a2 (by omega)) (va_cwS 3 hts gJ0_checkIndex_df160__J3_checkIndexN_S1059 rfl rfl rfl hd_yJ3_checkIndex_8e157.2 ⟨lel 1 1 rfl, lel 22 22 rfl⟩) ⟨pn_fb, pn_use⟩ rfl rfl hl.1 rfl (lv_room (Nat.le_of_ble_eq_true rfl)) dJ0_checkIndex_df160_5 ⟨lel 0 0 rfl, lel 0 0 rfl⟩) (fun r_3 h_r_3 => ?_)
    have b_r_3 := h_r_3
    have b_r_3 : (0 : Int) ≤ r_3.toInt ∧ r_3.toInt ≤ 2147483646 := b_r_3
    refine lv_pop hx hb dJ0_checkIndex_df160_8 rfl ?_
    exact W.vret hx hb hr (fun t ht hW => ⟨rfl, ht⟩) t_nil dJ0_checkIndex_df160_9
  ·
    refine va_gets hx hb hZq hS0 hown (hts (.fieldLink RJ0 1053 "jdk/internal/util/Preconditions" "SIOOBE_FORMATTER" "Ljava/util/function/BiFunction;") (List.mem_of_getElem? (i := 1) rfl)) (fun _ h9 => h9) dJ0_checkIndex_df160_2 ?_
    refine vp_callSi (W.runS (As := [.int a1, .int a2, .ref zt]) (rest := []) ⟨hx, hb, hml, hown, hts⟩ (kJ3_checkIndexR l dC dI a1 a2 zt (by omega)) (va_cwS 3 hts gJ0_checkIndex_df160__J3_checkIndexR_S1059 rfl rfl rfl hd_yJ3_checkIndex_8e157.2 ⟨lel 1 1 rfl, lel 22 22 rfl⟩) ⟨pn_fb, pn_use⟩ rfl rfl hl.1 rfl (lv_room (Nat.le_of_ble_eq_true rfl)) dJ0_checkIndex_df160_5 ⟨lel 0 0 rfl, lel 0 0 rfl⟩) (fun r_4 h_r_4 => ?_)
    have b_r_4 := h_r_4
    have b_r_4 : (0 : Int) ≤ r_4.toInt ∧ r_4.toInt ≤ 2147483646 := b_r_4
    refine lv_pop hx hb dJ0_checkIndex_df160_8 rfl ?_
    exact W.vret hx hb hr (fun t ht hW => ⟨rfl, ht⟩) t_nil dJ0_checkIndex_df160_9
theorem dJ1_charAt_3b067_0 : decode cJ1_charAt_3b067 0 = .ok (.iload_n 1, 1) := by decide +kernel
theorem dJ1_charAt_3b067_1 : decode cJ1_charAt_3b067 1 = .ok (.aload_n 0, 1) := by decide +kernel
theorem dJ1_charAt_3b067_2 : decode cJ1_charAt_3b067 2 = .ok (.arraylength, 1) := by decide +kernel
theorem dJ1_charAt_3b067_3 : decode cJ1_charAt_3b067 3 = .ok (.invokestatic 9, 3) := by decide +kernel
theorem dJ1_charAt_3b067_6 : decode cJ1_charAt_3b067 6 = .ok (.aload_n 0, 1) := by decide +kernel
theorem dJ1_charAt_3b067_7 : decode cJ1_charAt_3b067 7 = .ok (.iload_n 1, 1) := by decide +kernel
theorem dJ1_charAt_3b067_8 : decode cJ1_charAt_3b067 8 = .ok (.baload, 1) := by decide +kernel
theorem dJ1_charAt_3b067_9 : decode cJ1_charAt_3b067 9 = .ok (.sipush 255, 3) := by decide +kernel
theorem dJ1_charAt_3b067_12 : decode cJ1_charAt_3b067 12 = .ok (.iand, 1) := by decide +kernel
theorem dJ1_charAt_3b067_13 : decode cJ1_charAt_3b067 13 = .ok (.i2c, 1) := by decide +kernel
theorem dJ1_charAt_3b067_14 : decode cJ1_charAt_3b067 14 = .ok (.ireturn, 1) := by decide +kernel
theorem hd_yJ1_charAt_3b067 : yJ1_charAt_3b067.cls = RJ1 ∧ yJ1_charAt_3b067.cls ≠ "java/lang/invoke/MethodHandle" ∧ yJ1_charAt_3b067.cls ≠ "java/lang/invoke/VarHandle" ∧ (parseMethodDescriptor yJ1_charAt_3b067.desc).map (fun d => d.parameters.length) = some 2 := by decide +kernel
def uJ1_charAt_3b067 : List Cond := List.cons (.code yJ1_charAt_3b067 cJ1_charAt_3b067 2 (some .char)) (HAppend.hAppend ([.methodLink RJ1 9 yJ0_checkIndex_df160, .static yJ0_checkIndex_df160, .initialized RJ0] : List Cond) uJ0_checkIndex_df160)
theorem guJ1_charAt_3b067 : GU uJ1_charAt_3b067 := gu_cons (gu_app (by decide +kernel) guJ0_checkIndex_df160)
theorem gJ1_charAt_3b067__J0_checkIndex_df160_S9 : GoodIn uJ1_charAt_3b067 (va_wsS RJ1 9 yJ0_checkIndex_df160 uJ0_checkIndex_df160) := gin_S (List.mem_of_getElem? (i := 1) rfl) (List.mem_of_getElem? (i := 2) rfl) (List.mem_of_getElem? (i := 3) rfl) (fun _ h => (List.mem_cons_of_mem _ (List.mem_append_right _ h))) guJ0_checkIndex_df160
set_option maxHeartbeats 4000000 in
set_option maxRecDepth 100000 in
theorem kJ1_charAt_3b067 (l : Launch) (dC : Nat → ClassId) (dI : Nat → Nat → Nat) (tq : Nat) (tn : Nat) (tf : Nat → Int32) (a2 : Int32) (n0 : Nat) (hi0 : tn ≤ 6 ∧ 0 ≤ a2.toInt ∧ a2.toInt < (tn : Int)) : Met l yJ1_charAt_3b067 uJ1_charAt_3b067 ({ frames := 2, cells := 0, slots := 0, locals := 43 }) (va_Pc [.ref tq, .int a2] (px (dC, dI) vwCl [] [] n0 [] [(tq, tn, tf)])) (vp_Si (fun r => (r = chr8 (tf a2.toNatClampNeg)))) 0 0 (fun _ => False) := by
  refine Met.ofW (cc := cJ1_charAt_3b067) (maxL := 2) (ret := (some .char)) pn_J1 rfl ?_
  intro p e s m args below meth c s₁ B hml hv
  obtain ⟨rfl, ⟨hP, hK, hN⟩, hX, hTx, hBx⟩ := hv
  have hx := B.exec
  have hb := B.bytes
  have hr := B.returns
  have hts := atoms_spec (ws := uJ1_charAt_3b067) B.pre
  have hown : s.vm.findClass RJ1 = some m.cls := hown_of B.named rfl
  have hlocks := B.notSynchronized
  have hS0 : va_S (fun a => n0 ≤ a) s.heap s.heap [] := va_S.rf
  have hb_tq : va_T .byte tq tn (fun j => .int (tf j)) (fun a => n0 ≤ a) s s.heap := hBx _ (List.mem_of_getElem? (i := 0) rfl)
  have hl := lv_entry ([.ref tq, .int a2]) (n := 2) (Nat.le_of_ble_eq_true rfl)
  rw [lg_entry_eq]
  generalize (lg_sl ([.ref tq, .int a2]) ++ List.replicate (2 - (lg_sl ([.ref tq, .int a2])).length) Slot.unset).toArray = ls at hl ⊢
  have hl : lv_has ls 2 [(0, .ref tq), (1, .int a2)] := hl
  refine lv_iload_n hx hb dJ1_charAt_3b067_0 rfl (lv_at hl 1 rfl) ?_
  refine lv_aload_n hx hb dJ1_charAt_3b067_1 rfl (lv_at hl 0 rfl) ?_
  obtain ⟨z_5, e_z_5⟩ : ∃ y : Int32, y = Int32.ofNat tn := ⟨_, rfl⟩
  refine va_tlen (v := z_5) hx hb hb_tq hS0 e_z_5.symm dJ1_charAt_3b067_2 ?_
  obtain ⟨q_z_5, b_z_5⟩ := ti_len (hi := 6) e_z_5 (by omega) (by decide)
  refine vq_callS (W.runS (As := [.int a2, .int z_5]) (rest := []) ⟨hx, hb, hml, hown, hts⟩ (kJ0_checkIndex_df160 l dC dI a2 z_5 n0 (by omega)) (va_cwS 2 hts gJ1_charAt_3b067__J0_checkIndex_df160_S9 rfl rfl rfl hd_yJ0_checkIndex_df160.2 ⟨lel 2 2 rfl, lel 43 43 rfl⟩) ⟨px_fb, (px_use hP hK hN hX hS0 [] rfl [] rfl tts_0 tbs_0)⟩ rfl rfl hl.1 rfl (lv_room (Nat.le_of_ble_eq_true rfl)) dJ1_charAt_3b067_3 ⟨lel 0 0 rfl, lel 0 0 rfl⟩) ?_
  refine lv_aload_n hx hb dJ1_charAt_3b067_6 rfl (lv_at hl 0 rfl) ?_
  refine lv_iload_n hx hb dJ1_charAt_3b067_7 rfl (lv_at hl 1 rfl) ?_
  refine va_tb (v := .int (tf (a2 : Int32).toNatClampNeg)) hx hb hb_tq hS0 (vp_in_iff.mpr ⟨by omega, by omega⟩) rfl dJ1_charAt_3b067_8 ?_
  refine lv_topi (fun z_6 e_z_6 => ?_)
  refine lv_sipush (v := 255) hx hb dJ1_charAt_3b067_9 (by decide) ?_
  refine lv_iand hx hb dJ1_charAt_3b067_12 ?_
  refine lv_topi (fun z_7 e_z_7 => ?_)
  have b_z_7 : (0 : Int) ≤ z_7.toInt ∧ z_7.toInt ≤ 255 := ti_and (k := 8) e_z_7 (by decide) (by decide) (by decide)
  obtain ⟨z_8, e_z_8⟩ : ∃ y : Int32, y = z_7.toUInt32.toUInt16.toUInt32.toInt32 := ⟨_, rfl⟩
  refine lv_i2c (v := z_8) hx hb dJ1_charAt_3b067_13 e_z_8.symm ?_
  exact W.zret (v := z_8) hx hb hr (by subst_vars; exact chr_n _) (fun t ht hW => ⟨z_8, rfl, (by subst_vars; rfl), ht⟩) t_nil dJ1_charAt_3b067_14
theorem dJ0_charAt_5068e_0 : decode cJ0_charAt_5068e 0 = .ok (.aload_n 0, 1) := by decide +kernel
theorem dJ0_charAt_5068e_1 : decode cJ0_charAt_5068e 1 = .ok (.invokevirtual 492, 3) := by decide +kernel
theorem dJ0_charAt_5068e_4 : decode cJ0_charAt_5068e 4 = .ok (.ifCond .eq 12, 3) := by decide +kernel
theorem dJ0_charAt_5068e_7 : decode cJ0_charAt_5068e 7 = .ok (.aload_n 0, 1) := by decide +kernel
theorem dJ0_charAt_5068e_8 : decode cJ0_charAt_5068e 8 = .ok (.getfield 9, 3) := by decide +kernel
theorem dJ0_charAt_5068e_11 : decode cJ0_charAt_5068e 11 = .ok (.iload_n 1, 1) := by decide +kernel
theorem dJ0_charAt_5068e_12 : decode cJ0_charAt_5068e 12 = .ok (.invokestatic 495, 3) := by decide +kernel
theorem dJ0_charAt_5068e_15 : decode cJ0_charAt_5068e 15 = .ok (.ireturn, 1) := by decide +kernel
theorem hd_yJ0_charAt_5068e : yJ0_charAt_5068e.cls = RJ0 ∧ yJ0_charAt_5068e.cls ≠ "java/lang/invoke/MethodHandle" ∧ yJ0_charAt_5068e.cls ≠ "java/lang/invoke/VarHandle" ∧ (parseMethodDescriptor yJ0_charAt_5068e.desc).map (fun d => d.parameters.length) = some 1 := by decide +kernel
def uJ0_charAt_5068e : List Cond := List.cons (.code yJ0_charAt_5068e cJ0_charAt_5068e 2 (some .char)) (HAppend.hAppend ([.methodLink RJ0 492 yJ0_isLatin1_aae02, .instanceMethod yJ0_isLatin1_aae02, .selects RJ0 yJ0_isLatin1_aae02 yJ0_isLatin1_aae02, .initialized RJ0, .fieldLink RJ0 9 "java/lang/String" "value" "[B", .methodLink RJ0 495 yJ1_charAt_3b067, .static yJ1_charAt_3b067, .initialized RJ1] : List Cond) (HAppend.hAppend uJ0_isLatin1_aae02 uJ1_charAt_3b067))
theorem guJ0_charAt_5068e : GU uJ0_charAt_5068e := gu_cons (gu_app (by decide +kernel) (gu_ap guJ0_isLatin1_aae02 guJ1_charAt_3b067))
theorem gJ0_charAt_5068e__J0_isLatin1_aae02_V492 : GoodIn uJ0_charAt_5068e (wsV RJ0 492 RJ0 yJ0_isLatin1_aae02 uJ0_isLatin1_aae02) := gin_V (List.mem_of_getElem? (i := 1) rfl) (List.mem_of_getElem? (i := 2) rfl) (List.mem_of_getElem? (i := 3) rfl) (List.mem_of_getElem? (i := 4) rfl) (fun _ h => (List.mem_cons_of_mem _ (List.mem_append_right _ (List.mem_append_left _ h)))) guJ0_isLatin1_aae02
theorem gJ0_charAt_5068e__J1_charAt_3b067_S495 : GoodIn uJ0_charAt_5068e (va_wsS RJ0 495 yJ1_charAt_3b067 uJ1_charAt_3b067) := gin_S (List.mem_of_getElem? (i := 6) rfl) (List.mem_of_getElem? (i := 7) rfl) (List.mem_of_getElem? (i := 8) rfl) (fun _ h => (List.mem_cons_of_mem _ (List.mem_append_right _ (List.mem_append_right _ h)))) guJ1_charAt_3b067
set_option maxHeartbeats 4000000 in
set_option maxRecDepth 100000 in
theorem kJ0_charAt_5068e (l : Launch) (dC : Nat → ClassId) (dI : Nat → Nat → Nat) (tq : Nat) (tn : Nat) (tf : Nat → Int32) (a1 : Int32) (n0 : Nat) (hi0 : tn ≤ 6 ∧ 0 ≤ a1.toInt ∧ a1.toInt < (tn : Int)) : Met l yJ0_charAt_5068e uJ0_charAt_5068e ({ frames := 3, cells := 0, slots := 0, locals := 64 }) (va_Pc [.ref tq, .int a1] (px (dC, dI) vwCl [] [] n0 [(tq, tn, tf)] [])) (vp_Si (fun r => (r = chr8 (tf a1.toNatClampNeg)))) 0 0 (fun _ => False) := by
  refine Met.ofW (cc := cJ0_charAt_5068e) (maxL := 2) (ret := (some .char)) pn_J0 rfl ?_
  intro p e s m args below meth c s₁ B hml hv
  obtain ⟨rfl, ⟨hP, hK, hN⟩, hX, hTx, hBx⟩ := hv
  have hx := B.exec
  have hb := B.bytes
  have hr := B.returns
  have hts := atoms_spec (ws := uJ0_charAt_5068e) B.pre
  have hown : s.vm.findClass RJ0 = some m.cls := hown_of B.named rfl
  have hlocks := B.notSynchronized
  have hS0 : va_S (fun a => n0 ≤ a) s.heap s.heap [] := va_S.rf
  have ht_tq : txt n0 tq tn tf s := hTx _ (List.mem_of_getElem? (i := 0) rfl)
  obtain ⟨tb_, hTO, hTC, hTV, hTB⟩ := id ht_tq
  have hl := lv_entry ([.ref tq, .int a1]) (n := 2) (Nat.le_of_ble_eq_true rfl)
  rw [lg_entry_eq]
  generalize (lg_sl ([.ref tq, .int a1]) ++ List.replicate (2 - (lg_sl ([.ref tq, .int a1])).length) Slot.unset).toArray = ls at hl ⊢
  have hl : lv_has ls 2 [(0, .ref tq), (1, .int a1)] := hl
  refine lv_aload_n hx hb dJ0_charAt_5068e_0 rfl (lv_at hl 0 rfl) ?_
  refine vp_callSi (W.runV (As := []) (rest := []) ⟨hx, hb, hml, hown, hts⟩ (kJ0_isLatin1_aae02 l dC dI tq tn tf n0 (by omega)) (cwV 0 hts gJ0_charAt_5068e__J0_isLatin1_aae02_V492 rfl rfl rfl hd_yJ0_isLatin1_aae02 ⟨lel 1 3 rfl, lel 20 64 rfl⟩) ⟨px_fb, txt.recv ht_tq hS0, (px_use hP hK hN hX hS0 [] rfl [] rfl (tts_1 ht_tq) tbs_0)⟩ rfl rfl hl.1 rfl (lv_room (Nat.le_of_ble_eq_true rfl)) dJ0_charAt_5068e_1 ⟨lel 0 0 rfl, lel 0 0 rfl⟩) (fun r_4 h_r_4 => ?_)
  have b_r_4 := h_r_4
  have b_r_4 : (1 : Int) ≤ r_4.toInt ∧ r_4.toInt ≤ 1 := b_r_4
  refine lv_if_eq (tgt := 16) hx hb dJ0_charAt_5068e_4 (by decide) (fun c_5 => absurd (show (r_4.toInt : Int) = 0 from c_eq rfl (by decide) c_5) (by have q1 := b_r_4; have q2 := (by decide : (0 : Int) ≤ (0 : Int32).toInt ∧ (0 : Int32).toInt ≤ 0); omega)) (fun c_5 => ?_)
  refine lv_aload_n hx hb dJ0_charAt_5068e_7 rfl (lv_at hl 0 rfl) ?_
  refine vk_getf (o := "java/lang/String") (n := "value") (d := "[B") (v := .ref tb_) hx hb hTV hS0 hown (hts (.fieldLink RJ0 9 "java/lang/String" "value" "[B") (List.mem_of_getElem? (i := 5) rfl)) (fun _ h9 => h9) dJ0_charAt_5068e_8 ?_
  refine lv_iload_n hx hb dJ0_charAt_5068e_11 rfl (lv_at hl 1 rfl) ?_
  refine vp_callSi (W.runS (As := [.ref tb_, .int a1]) (rest := []) ⟨hx, hb, hml, hown, hts⟩ (kJ1_charAt_3b067 l dC dI tb_ tn tf a1 n0 (by omega)) (va_cwS 2 hts gJ0_charAt_5068e__J1_charAt_3b067_S495 rfl rfl rfl hd_yJ1_charAt_3b067.2 ⟨lel 3 3 rfl, lel 64 64 rfl⟩) ⟨px_fb, (px_use hP hK hN hX hS0 [] rfl [] rfl tts_0 (tbs_1 hTB))⟩ rfl rfl hl.1 rfl (lv_room (Nat.le_of_ble_eq_true rfl)) dJ0_charAt_5068e_12 ⟨lel 0 0 rfl, lel 0 0 rfl⟩) (fun r_6 h_r_6 => ?_)
  have pr_r_6 := h_r_6
  exact W.zret (v := r_6) hx hb hr (by rw [pr_r_6]; exact chr_n _) (fun t ht hW => ⟨r_6, rfl, (pr_r_6), ht⟩) t_nil dJ0_charAt_5068e_15
theorem dX1_isWord_0 : decode cX1_isWord 0 = .ok (.aload_n 0, 1) := by decide +kernel
theorem dX1_isWord_1 : decode cX1_isWord 1 = .ok (.getfield 39, 3) := by decide +kernel
theorem dX1_isWord_4 : decode cX1_isWord 4 = .ok (.iconst 1, 1) := by decide +kernel
theorem dX1_isWord_5 : decode cX1_isWord 5 = .ok (.if_icmp .ne 19, 3) := by decide +kernel
theorem dX1_isWord_8 : decode cX1_isWord 8 = .ok (.aload_n 0, 1) := by decide +kernel
theorem dX1_isWord_9 : decode cX1_isWord 9 = .ok (.getfield 26, 3) := by decide +kernel
theorem dX1_isWord_12 : decode cX1_isWord 12 = .ok (.aload_n 0, 1) := by decide +kernel
theorem dX1_isWord_13 : decode cX1_isWord 13 = .ok (.getfield 178, 3) := by decide +kernel
theorem dX1_isWord_16 : decode cX1_isWord 16 = .ok (.isub, 1) := by decide +kernel
theorem dX1_isWord_17 : decode cX1_isWord 17 = .ok (.aload_n 1, 1) := by decide +kernel
theorem dX1_isWord_18 : decode cX1_isWord 18 = .ok (.invokevirtual 181, 3) := by decide +kernel
theorem dX1_isWord_21 : decode cX1_isWord 21 = .ok (.if_icmp .eq 5, 3) := by decide +kernel
theorem dX1_isWord_24 : decode cX1_isWord 24 = .ok (.iconst 0, 1) := by decide +kernel
theorem dX1_isWord_25 : decode cX1_isWord 25 = .ok (.ireturn, 1) := by decide +kernel
theorem dX1_isWord_26 : decode cX1_isWord 26 = .ok (.iconst 0, 1) := by decide +kernel
theorem dX1_isWord_27 : decode cX1_isWord 27 = .ok (.istore_n 2, 1) := by decide +kernel
theorem dX1_isWord_28 : decode cX1_isWord 28 = .ok (.iload_n 2, 1) := by decide +kernel
theorem dX1_isWord_29 : decode cX1_isWord 29 = .ok (.aload_n 1, 1) := by decide +kernel
theorem dX1_isWord_30 : decode cX1_isWord 30 = .ok (.invokevirtual 181, 3) := by decide +kernel
theorem dX1_isWord_33 : decode cX1_isWord 33 = .ok (.if_icmp .ge 33, 3) := by decide +kernel
theorem dX1_isWord_36 : decode cX1_isWord 36 = .ok (.aload_n 0, 1) := by decide +kernel
theorem dX1_isWord_37 : decode cX1_isWord 37 = .ok (.getfield 15, 3) := by decide +kernel
theorem dX1_isWord_40 : decode cX1_isWord 40 = .ok (.getfield 186, 3) := by decide +kernel
theorem dX1_isWord_43 : decode cX1_isWord 43 = .ok (.aload_n 0, 1) := by decide +kernel
theorem dX1_isWord_44 : decode cX1_isWord 44 = .ok (.getfield 178, 3) := by decide +kernel
theorem dX1_isWord_47 : decode cX1_isWord 47 = .ok (.iload_n 2, 1) := by decide +kernel
theorem dX1_isWord_48 : decode cX1_isWord 48 = .ok (.iadd, 1) := by decide +kernel
theorem dX1_isWord_49 : decode cX1_isWord 49 = .ok (.baload, 1) := by decide +kernel
theorem dX1_isWord_50 : decode cX1_isWord 50 = .ok (.aload_n 1, 1) := by decide +kernel
theorem dX1_isWord_51 : decode cX1_isWord 51 = .ok (.iload_n 2, 1) := by decide +kernel
theorem dX1_isWord_52 : decode cX1_isWord 52 = .ok (.invokevirtual 190, 3) := by decide +kernel
theorem dX1_isWord_55 : decode cX1_isWord 55 = .ok (.if_icmp .eq 5, 3) := by decide +kernel
theorem dX1_isWord_58 : decode cX1_isWord 58 = .ok (.iconst 0, 1) := by decide +kernel
theorem dX1_isWord_59 : decode cX1_isWord 59 = .ok (.ireturn, 1) := by decide +kernel
theorem dX1_isWord_60 : decode cX1_isWord 60 = .ok (.iinc 2 1, 3) := by decide +kernel
theorem dX1_isWord_63 : decode cX1_isWord 63 = .ok (.goto (-35), 3) := by decide +kernel
theorem dX1_isWord_66 : decode cX1_isWord 66 = .ok (.iconst 1, 1) := by decide +kernel
theorem dX1_isWord_67 : decode cX1_isWord 67 = .ok (.ireturn, 1) := by decide +kernel
theorem hd_yX1_isWord : yX1_isWord.cls = RX1 ∧ yX1_isWord.cls ≠ "java/lang/invoke/MethodHandle" ∧ yX1_isWord.cls ≠ "java/lang/invoke/VarHandle" ∧ (parseMethodDescriptor yX1_isWord.desc).map (fun d => d.parameters.length) = some 1 := by decide +kernel
def uX1_isWord : List Cond := List.cons (.code yX1_isWord cX1_isWord 3 (some .boolean)) (HAppend.hAppend ([.fieldLink RX1 39 "LuckyTicket$Reader" "token" "I", .fieldLink RX1 26 "LuckyTicket$Reader" "stop" "I", .fieldLink RX1 178 "LuckyTicket$Reader" "start" "I", .methodLink RX1 181 yJ0_length_8abf5, .instanceMethod yJ0_length_8abf5, .selects RJ0 yJ0_length_8abf5 yJ0_length_8abf5, .initialized RJ0, .fieldLink RX1 15 "LuckyTicket$Reader" "tape" "LLuckyTicket$Tape;", .methodLink RX1 190 yJ0_charAt_5068e, .instanceMethod yJ0_charAt_5068e, .selects RJ0 yJ0_charAt_5068e yJ0_charAt_5068e] : List Cond) (HAppend.hAppend uJ0_length_8abf5 (HAppend.hAppend uJ0_charAt_5068e (HAppend.hAppend wsX10 wsX70))))
theorem iX1_isWord_X1 : ∀ w ∈ wsX10, w ∈ uX1_isWord := fun _ h => (List.mem_cons_of_mem _ (List.mem_append_right _ (List.mem_append_right _ (List.mem_append_right _ (List.mem_append_left _ h)))))
theorem iX1_isWord_X7 : ∀ w ∈ wsX70, w ∈ uX1_isWord := fun _ h => (List.mem_cons_of_mem _ (List.mem_append_right _ (List.mem_append_right _ (List.mem_append_right _ (List.mem_append_right _ h)))))
theorem guX1_isWord : GU uX1_isWord := gu_cons (gu_app (by decide +kernel) (gu_ap guJ0_length_8abf5 (gu_ap guJ0_charAt_5068e (gu_ap gws_X1 gws_X7))))
theorem gX1_isWord__J0_length_8abf5_V181 : GoodIn uX1_isWord (wsV RX1 181 RJ0 yJ0_length_8abf5 uJ0_length_8abf5) := gin_V (List.mem_of_getElem? (i := 4) rfl) (List.mem_of_getElem? (i := 5) rfl) (List.mem_of_getElem? (i := 6) rfl) (List.mem_of_getElem? (i := 7) rfl) (fun _ h => (List.mem_cons_of_mem _ (List.mem_append_right _ (List.mem_append_left _ h)))) guJ0_length_8abf5
theorem gX1_isWord__J0_charAt_5068e_V190 : GoodIn uX1_isWord (wsV RX1 190 RJ0 yJ0_charAt_5068e uJ0_charAt_5068e) := gin_V (List.mem_of_getElem? (i := 9) rfl) (List.mem_of_getElem? (i := 10) rfl) (List.mem_of_getElem? (i := 11) rfl) (List.mem_of_getElem? (i := 7) rfl) (fun _ h => (List.mem_cons_of_mem _ (List.mem_append_right _ (List.mem_append_right _ (List.mem_append_left _ h))))) guJ0_charAt_5068e
set_option maxHeartbeats 4000000 in
set_option maxRecDepth 100000 in
theorem kX1_isWord (l : Launch) (dC : Nat → ClassId) (dI : Nat → Nat → Nat) (rd : Nat) (xf : Int32) (xp : Int32) (xt : Int32) (xa : Int32) (xo : Int32) (xv : Int32) (xj : Int32) (tp : Nat) (tb : Nat) (ts : Int32) (cB : ClassId) (fb : Nat → Int32) (sc : Nat) (tq : Nat) (tn : Nat) (tf : Nat → Int32) (n0 : Nat) (b_xf : (0 : Int) ≤ xf.toInt ∧ xf.toInt ≤ 3) (b_xp : (-1 : Int) ≤ xp.toInt ∧ xp.toInt ≤ 1200) (b_xt : (0 : Int) ≤ xt.toInt ∧ xt.toInt ≤ 4) (b_xa : (0 : Int) ≤ xa.toInt ∧ xa.toInt ≤ 1200) (b_xo : (0 : Int) ≤ xo.toInt ∧ xo.toInt ≤ 1200) (b_ts : (0 : Int) ≤ ts.toInt ∧ ts.toInt ≤ 1200) (hrd : xa.toInt ≤ xo.toInt) (htn : 2 ≤ tn ∧ tn ≤ 6) : Met l yX1_isWord uX1_isWord ({ frames := 4, cells := 0, slots := 0, locals := 85 }) (va_Pc [.ref rd, .ref tq] (px (dC, dI) vwCl [(rd, .inr (0, [.ref tp, .ref sc, .int xf, .int xp, .int xt, .int xa, .int xo, .int xv, .int xj])), (tp, .inr (6, [.ref tb, .int ts])), (tb, .inl (cB, 1200, .inl fb))] [(cB, .byte)] n0 [(tq, tn, tf)] [])) (vp_Si (fun r => ((0 : Int) ≤ r.toInt ∧ r.toInt ≤ 1) ∧ (r ≠ 0 → (WD fb xt xa xo tn tf)) ∧ (r = 0 → (¬ WD fb xt xa xo tn tf)))) 0 0 (fun _ => False) := by
  refine Met.ofW (cc := cX1_isWord) (maxL := 3) (ret := (some .boolean)) pn_X1 rfl ?_
  intro p e s m args below meth c s₁ B hml hv
  obtain ⟨rfl, ⟨hP, hK, hN⟩, hX, hTx, hBx⟩ := hv
  have hx := B.exec
  have hb := B.bytes
  have hr := B.returns
  have hts := atoms_spec (ws := uX1_isWord) B.pre
  have hown : s.vm.findClass RX1 = some m.cls := hown_of B.named rfl
  have hlocks := B.notSynchronized
  have hS0 : va_S (fun a => n0 ≤ a) s.heap s.heap [] := va_S.rf
  have ht_tq : txt n0 tq tn tf s := hTx _ (List.mem_of_getElem? (i := 0) rfl)
  have hl := lv_entry ([.ref rd, .ref tq]) (n := 3) (Nat.le_of_ble_eq_true rfl)
  rw [lg_entry_eq]
  generalize (lg_sl ([.ref rd, .ref tq]) ++ List.replicate (3 - (lg_sl ([.ref rd, .ref tq])).length) Slot.unset).toArray = ls at hl ⊢
  have hl : lv_has ls 3 [(0, .ref rd), (1, .ref tq)] := hl
  refine lv_aload_n hx hb dX1_isWord_0 rfl (lv_at hl 0 rfl) ?_
  refine va_get (D := (dC, dI)) (ci := 0) (v := .int xt) (C := RX1) (T := TX1) (N := 9) hx hb hts iX1_isWord_X1 hown hK hP 0 rfl rfl 4 (by decide) (hts (.fieldLink RX1 39 "LuckyTicket$Reader" "token" "I") (List.mem_of_getElem? (i := 1) rfl)) (fun _ h9 => h9) rfl dX1_isWord_1 ?_
  refine lv_iconst (v := 1) hx hb dX1_isWord_4 (by decide) ?_
  refine lv_icmp_ne (tgt := 24) hx hb dX1_isWord_5 (by decide) (fun c_34 => ?_) (fun c_34 => ?_)
  ·
    have n_c_34 : (xt.toInt : Int) ≠ 1 := c_ne rfl (by decide) c_34
    refine lv_iconst (v := 0) hx hb dX1_isWord_24 (by decide) ?_
    exact W.zret (v := 0) hx hb hr rfl (fun t ht hW => ⟨0, rfl, ⟨(rg_w (by decide : (0 : Int) ≤ (0 : Int32).toInt ∧ (0 : Int32).toInt ≤ 0) (by decide) (by decide)), (fun h9 => absurd rfl h9), (fun _ => fun hq => by first | (have h1 := hq.1; omega) | (have h1 := hq.2.1; omega) | exact absurd (hq.2.2 xa.toInt.toNat (by omega)) (wd_ne (by omega) (by omega) (by omega) e_0 pr_0 0))⟩, ht⟩) t_nil dX1_isWord_25
  ·
    have n_c_34 : (xt.toInt : Int) = 1 := c_eq rfl (by decide) c_34
    have b_xt : (1 : Int) ≤ xt.toInt ∧ xt.toInt ≤ 1 := r_eq1 b_xt (by decide : (1 : Int) ≤ (1 : Int32).toInt ∧ (1 : Int32).toInt ≤ 1) n_c_34 (by decide)
    refine lv_aload_n hx hb dX1_isWord_8 rfl (lv_at hl 0 rfl) ?_
    refine va_get (D := (dC, dI)) (ci := 0) (v := .int xo) (C := RX1) (T := TX1) (N := 9) hx hb hts iX1_isWord_X1 hown hK hP 0 rfl rfl 6 (by decide) (hts (.fieldLink RX1 26 "LuckyTicket$Reader" "stop" "I") (List.mem_of_getElem? (i := 2) rfl)) (fun _ h9 => h9) rfl dX1_isWord_9 ?_
    refine lv_aload_n hx hb dX1_isWord_12 rfl (lv_at hl 0 rfl) ?_
    refine va_get (D := (dC, dI)) (ci := 0) (v := .int xa) (C := RX1) (T := TX1) (N := 9) hx hb hts iX1_isWord_X1 hown hK hP 0 rfl rfl 5 (by decide) (hts (.fieldLink RX1 178 "LuckyTicket$Reader" "start" "I") (List.mem_of_getElem? (i := 3) rfl)) (fun _ h9 => h9) rfl dX1_isWord_13 ?_
    refine lv_isub hx hb dX1_isWord_16 ?_
    refine lv_topi (fun z_35 e_z_35 => ?_)
    obtain ⟨q_z_35, b_z_35⟩ := ti_sub (lo := -1200) (hi := 1200) e_z_35 rfl rfl b_xo b_xa (by decide)
    refine lv_aload_n hx hb dX1_isWord_17 rfl (lv_at hl 1 rfl) ?_
    refine vp_callSi (W.runV (As := []) (rest := [.int z_35]) ⟨hx, hb, hml, hown, hts⟩ (kJ0_length_8abf5 l dC dI tq tn tf n0 (by omega)) (cwV 0 hts gX1_isWord__J0_length_8abf5_V181 rfl rfl rfl hd_yJ0_length_8abf5 ⟨lel 2 4 rfl, lel 40 85 rfl⟩) ⟨px_fb, txt.recv ht_tq hS0, (px_use hP hK hN hX hS0 [] rfl [] rfl (tts_1 ht_tq) tbs_0)⟩ rfl rfl hl.1 rfl (lv_room (Nat.le_of_ble_eq_true rfl)) dX1_isWord_18 ⟨lel 0 0 rfl, lel 0 0 rfl⟩) (fun r_36 h_r_36 => ?_)
    obtain ⟨b_r_36, pr_r_36⟩ := h_r_36
    have b_r_36 : (0 : Int) ≤ r_36.toInt ∧ r_36.toInt ≤ 6 := b_r_36
    refine lv_icmp_eq (tgt := 26) hx hb dX1_isWord_21 (by decide) (fun c_37 => ?_) (fun c_37 => ?_)
    ·
      have n_c_37 : (z_35.toInt : Int) = r_36.toInt := c_eq rfl rfl c_37
      have b_z_35 : (0 : Int) ≤ z_35.toInt ∧ z_35.toInt ≤ 6 := r_eq1 b_z_35 b_r_36 n_c_37 (by decide)
      refine lv_iconst (v := 0) hx hb dX1_isWord_26 (by decide) ?_
      refine lv_istore_n (lv' := [(2, .int 0), (0, .ref rd), (1, .ref tq)]) hx hb dX1_isWord_27 rfl hl (by decide) rfl (fun ls hl => ?_)
      refine loopP (σ := Int32) (fun v => (6 - v.toInt).toNat) (fun v ls => ((0 : Int) ≤ v.toInt ∧ v.toInt ≤ 6) ∧ (∀ j : Nat, j < v.toInt.toNat → fb (xa.toInt.toNat + j) = chr8 (tf j)) ∧ (v.toInt ≤ (tn : Int)) ∧ (xo.toInt - xa.toInt = (tn : Int) ∧ xt.toInt = 1) ∧ lv_has ls 3 [(2, .int v), (0, .ref rd), (1, .ref tq)]) (fun v ls hI ih_28_59 => ?_) (0 : Int32) ⟨(show (0 : Int) ≤ (0 : Int32).toInt ∧ (0 : Int32).toInt ≤ 6 from (rg_w (by decide : (0 : Int) ≤ (0 : Int32).toInt ∧ (0 : Int32).toInt ≤ 0) (by decide) (by decide))), (show ∀ j : Nat, j < (0 : Int32).toInt.toNat → fb (xa.toInt.toNat + j) = chr8 (tf j) from (nil_lt)), (show (0 : Int32).toInt ≤ (tn : Int) from (by have zl : (0 : Int32).toInt = 0 := (by decide); omega)), (show xo.toInt - xa.toInt = (tn : Int) ∧ xt.toInt = 1 from (by have zl : (0 : Int32).toInt = 0 := (by decide); omega)), lv_sub hl [0, 1, 2] rfl⟩
      obtain ⟨y_45, rfl⟩ : ∃ z, z = v := ⟨_, rfl⟩
      obtain ⟨b_y_45, hwd, hw6, hwe, hl⟩ := hI
      have b_y_45 : (0 : Int) ≤ y_45.toInt ∧ y_45.toInt ≤ 6 := b_y_45
      have hwd : ∀ j : Nat, j < y_45.toInt.toNat → fb (xa.toInt.toNat + j) = chr8 (tf j) := hwd
      have hw6 : y_45.toInt ≤ (tn : Int) := hw6
      have hwe : xo.toInt - xa.toInt = (tn : Int) ∧ xt.toInt = 1 := hwe
      have hl : lv_has ls 3 [(2, .int y_45), (0, .ref rd), (1, .ref tq)] := hl
      refine lv_iload_n hx hb dX1_isWord_28 rfl (lv_at hl 0 rfl) ?_
      refine lv_aload_n hx hb dX1_isWord_29 rfl (lv_at hl 2 rfl) ?_
      refine vp_callSi (W.runV (As := []) (rest := [.int y_45]) ⟨hx, hb, hml, hown, hts⟩ (kJ0_length_8abf5 l dC dI tq tn tf n0 (by omega)) (cwV 0 hts gX1_isWord__J0_length_8abf5_V181 rfl rfl rfl hd_yJ0_length_8abf5 ⟨lel 2 4 rfl, lel 40 85 rfl⟩) ⟨px_fb, txt.recv ht_tq hS0, (px_use hP hK hN hX hS0 [] rfl [] rfl (tts_1 ht_tq) tbs_0)⟩ rfl rfl hl.1 rfl (lv_room (Nat.le_of_ble_eq_true rfl)) dX1_isWord_30 ⟨lel 0 0 rfl, lel 0 0 rfl⟩) (fun r_60 h_r_60 => ?_)
      obtain ⟨b_r_60, pr_r_60⟩ := h_r_60
      have b_r_60 : (0 : Int) ≤ r_60.toInt ∧ r_60.toInt ≤ 6 := b_r_60
      refine lv_icmp_ge (tgt := 66) hx hb dX1_isWord_33 (by decide) (fun c_61 => ?_) (fun c_61 => ?_)
      ·
        have n_c_61 : (r_60.toInt : Int) ≤ y_45.toInt := c_ge rfl rfl c_61
        refine lv_iconst (v := 1) hx hb dX1_isWord_66 (by decide) ?_
        exact W.zret (v := 1) hx hb hr rfl (fun t ht hW => ⟨1, rfl, ⟨(rg_w (by decide : (1 : Int) ≤ (1 : Int32).toInt ∧ (1 : Int32).toInt ≤ 1) (by decide) (by decide)), (fun _ => ⟨by omega, by omega, fun j hj => hwd j (by omega)⟩), (fun h9 => absurd h9 (by decide))⟩, ht⟩) t_nil dX1_isWord_67
      ·
        have n_c_61 : (y_45.toInt : Int) < r_60.toInt := c_nge rfl rfl c_61
        have b_y_45 : (0 : Int) ≤ y_45.toInt ∧ y_45.toInt ≤ 5 := r_lt1 b_y_45 b_r_60 n_c_61 (by decide)
        have b_r_60 : (1 : Int) ≤ r_60.toInt ∧ r_60.toInt ≤ 6 := r_lt2 b_y_45 b_r_60 n_c_61 (by decide)
        refine lv_aload_n hx hb dX1_isWord_36 rfl (lv_at hl 1 rfl) ?_
        refine va_get (D := (dC, dI)) (ci := 0) (v := .ref tp) (C := RX1) (T := TX1) (N := 9) hx hb hts iX1_isWord_X1 hown hK hP 0 rfl rfl 0 (by decide) (hts (.fieldLink RX1 15 "LuckyTicket$Reader" "tape" "LLuckyTicket$Tape;") (List.mem_of_getElem? (i := 8) rfl)) (fun _ h9 => h9) rfl dX1_isWord_37 ?_
        refine va_getN (own := RX1) (index := 186) (ref := RX7) (host := RX9) (D := (dC, dI)) (ci := 6) (v := .ref tb) (C := RX7) (T := TX7) (N := 2) hx hb hts iX1_isWord_X7 hown hK hP 1 rfl rfl 0 (by decide) (va_Nw.use rfl (hN _ (List.mem_of_getElem? (i := 0) rfl))) (fun _ h9 => h9) rfl dX1_isWord_40 ?_
        refine lv_aload_n hx hb dX1_isWord_43 rfl (lv_at hl 1 rfl) ?_
        refine va_get (D := (dC, dI)) (ci := 0) (v := .int xa) (C := RX1) (T := TX1) (N := 9) hx hb hts iX1_isWord_X1 hown hK hP 0 rfl rfl 5 (by decide) (hts (.fieldLink RX1 178 "LuckyTicket$Reader" "start" "I") (List.mem_of_getElem? (i := 3) rfl)) (fun _ h9 => h9) rfl dX1_isWord_44 ?_
        refine lv_iload_n hx hb dX1_isWord_47 rfl (lv_at hl 0 rfl) ?_
        refine lv_iadd hx hb dX1_isWord_48 ?_
        refine lv_topi (fun z_62 e_z_62 => ?_)
        obtain ⟨q_z_62, b_z_62⟩ := ti_add (lo := 0) (hi := 1205) e_z_62 rfl rfl b_xa b_y_45 (by decide)
        refine va_bald hx hb hK hP 2 0 rfl rfl (vp_in_iff.mpr ⟨by omega, by omega⟩) dX1_isWord_49 ?_
        refine lv_topi (fun z_63 e_z_63 => ?_)
        refine lv_aload_n hx hb dX1_isWord_50 rfl (lv_at hl 2 rfl) ?_
        refine lv_iload_n hx hb dX1_isWord_51 rfl (lv_at hl 0 rfl) ?_
        refine vp_callSi (W.runV (As := [.int y_45]) (rest := [.int z_63]) ⟨hx, hb, hml, hown, hts⟩ (kJ0_charAt_5068e l dC dI tq tn tf y_45 n0 (by omega)) (cwV 1 hts gX1_isWord__J0_charAt_5068e_V190 rfl rfl rfl hd_yJ0_charAt_5068e ⟨lel 4 4 rfl, lel 85 85 rfl⟩) ⟨px_fb, txt.recv ht_tq hS0, (px_use hP hK hN hX hS0 [] rfl [] rfl (tts_1 ht_tq) tbs_0)⟩ rfl rfl hl.1 rfl (lv_room (Nat.le_of_ble_eq_true rfl)) dX1_isWord_52 ⟨lel 0 0 rfl, lel 0 0 rfl⟩) (fun r_64 h_r_64 => ?_)
        have pr_r_64 := h_r_64
        refine lv_icmp_eq (tgt := 60) hx hb dX1_isWord_55 (by decide) (fun c_65 => ?_) (fun c_65 => ?_)
        ·
          have n_c_65 : (z_63.toInt : Int) = r_64.toInt := c_eq rfl rfl c_65
          obtain ⟨z_66, e_z_66⟩ : ∃ y : Int32, y = y_45 + 1 := ⟨_, rfl⟩
          refine lv_iinc (v := z_66) (lv' := [(2, .int z_66), (0, .ref rd), (1, .ref tq)]) hx hb dX1_isWord_60 hl (k := 0) rfl (by rw [e_z_66]; rfl) (by decide) rfl (fun ls hl => ?_)
          obtain ⟨q_z_66, b_z_66⟩ := ti_add (lo := 1) (hi := 6) e_z_66 rfl (by decide : (1 : Int32).toInt = 1) b_y_45 (by decide : (1 : Int) ≤ (1 : Int32).toInt ∧ (1 : Int32).toInt ≤ 1) (by decide)
          refine lv_goto (tgt := 28) hx hb dX1_isWord_63 (by decide) ?_
          exact ih_28_59 z_66 _ ⟨(show (0 : Int) ≤ z_66.toInt ∧ z_66.toInt ≤ 6 from (rg_w b_z_66 (by decide) (by decide))), (show ∀ j : Nat, j < z_66.toInt.toNat → fb (xa.toInt.toNat + j) = chr8 (tf j) from (wd_next hwd (by omega) q_z_66 (by omega) (by omega) e_z_63 pr_r_64 c_65)), (show z_66.toInt ≤ (tn : Int) from (by omega)), (show xo.toInt - xa.toInt = (tn : Int) ∧ xt.toInt = 1 from (by omega)), lv_sub hl [0, 1, 2] rfl⟩ (show (6 - z_66.toInt).toNat < (6 - y_45.toInt).toNat by omega)
        ·
          have n_c_65 : (z_63.toInt : Int) ≠ r_64.toInt := c_ne rfl rfl c_65
          refine lv_iconst (v := 0) hx hb dX1_isWord_58 (by decide) ?_
          exact W.zret (v := 0) hx hb hr rfl (fun t ht hW => ⟨0, rfl, ⟨(rg_w (by decide : (0 : Int) ≤ (0 : Int32).toInt ∧ (0 : Int32).toInt ≤ 0) (by decide) (by decide)), (fun h9 => absurd rfl h9), (fun _ => fun hq => by first | (have h1 := hq.1; omega) | (have h1 := hq.2.1; omega) | exact absurd (hq.2.2 y_45.toInt.toNat (by omega)) (wd_ne (by omega) (by omega) (by omega) e_z_63 pr_r_64 c_65))⟩, ht⟩) t_nil dX1_isWord_59
    ·
      have n_c_37 : (z_35.toInt : Int) ≠ r_36.toInt := c_ne rfl rfl c_37
      refine lv_iconst (v := 0) hx hb dX1_isWord_24 (by decide) ?_
      exact W.zret (v := 0) hx hb hr rfl (fun t ht hW => ⟨0, rfl, ⟨(rg_w (by decide : (0 : Int) ≤ (0 : Int32).toInt ∧ (0 : Int32).toInt ≤ 0) (by decide) (by decide)), (fun h9 => absurd rfl h9), (fun _ => fun hq => by first | (have h1 := hq.1; omega) | (have h1 := hq.2.1; omega) | exact absurd (hq.2.2 xa.toInt.toNat (by omega)) (wd_ne (by omega) (by omega) (by omega) e_0 pr_0 0))⟩, ht⟩) t_nil dX1_isWord_25
theorem dX1_isSign_0 : decode cX1_isSign 0 = .ok (.aload_n 0, 1) := by decide +kernel
theorem dX1_isSign_1 : decode cX1_isSign 1 = .ok (.getfield 39, 3) := by decide +kernel
theorem dX1_isSign_4 : decode cX1_isSign 4 = .ok (.iconst 3, 1) := by decide +kernel
theorem dX1_isSign_5 : decode cX1_isSign 5 = .ok (.if_icmp .ne 15, 3) := by decide +kernel
theorem dX1_isSign_8 : decode cX1_isSign 8 = .ok (.aload_n 0, 1) := by decide +kernel
theorem dX1_isSign_9 : decode cX1_isSign 9 = .ok (.getfield 172, 3) := by decide +kernel
theorem dX1_isSign_12 : decode cX1_isSign 12 = .ok (.iload_n 1, 1) := by decide +kernel
theorem dX1_isSign_13 : decode cX1_isSign 13 = .ok (.if_icmp .ne 7, 3) := by decide +kernel
theorem dX1_isSign_16 : decode cX1_isSign 16 = .ok (.iconst 1, 1) := by decide +kernel
theorem dX1_isSign_17 : decode cX1_isSign 17 = .ok (.goto 4, 3) := by decide +kernel
theorem dX1_isSign_20 : decode cX1_isSign 20 = .ok (.iconst 0, 1) := by decide +kernel
theorem dX1_isSign_21 : decode cX1_isSign 21 = .ok (.ireturn, 1) := by decide +kernel
theorem hd_yX1_isSign : yX1_isSign.cls = RX1 ∧ yX1_isSign.cls ≠ "java/lang/invoke/MethodHandle" ∧ yX1_isSign.cls ≠ "java/lang/invoke/VarHandle" ∧ (parseMethodDescriptor yX1_isSign.desc).map (fun d => d.parameters.length) = some 1 := by decide +kernel
def uX1_isSign : List Cond := List.cons (.code yX1_isSign cX1_isSign 2 (some .boolean)) (HAppend.hAppend ([.fieldLink RX1 39 "LuckyTicket$Reader" "token" "I", .fieldLink RX1 172 "LuckyTicket$Reader" "value" "I"] : List Cond) wsX10)
theorem iX1_isSign_X1 : ∀ w ∈ wsX10, w ∈ uX1_isSign := fun _ h => (List.mem_cons_of_mem _ (List.mem_append_right _ h))
theorem guX1_isSign : GU uX1_isSign := gu_cons (gu_app (by decide +kernel) gws_X1)
set_option maxHeartbeats 4000000 in
set_option maxRecDepth 100000 in
theorem kX1_isSign (l : Launch) (dC : Nat → ClassId) (dI : Nat → Nat → Nat) (rd : Nat) (xf : Int32) (xp : Int32) (xt : Int32) (xa : Int32) (xo : Int32) (xv : Int32) (xj : Int32) (tp : Nat) (sc : Nat) (a1 : Int32) (b_xf : (0 : Int) ≤ xf.toInt ∧ xf.toInt ≤ 3) (b_xp : (-1 : Int) ≤ xp.toInt ∧ xp.toInt ≤ 1200) (b_xt : (0 : Int) ≤ xt.toInt ∧ xt.toInt ≤ 4) (b_xa : (0 : Int) ≤ xa.toInt ∧ xa.toInt ≤ 1200) (b_xo : (0 : Int) ≤ xo.toInt ∧ xo.toInt ≤ 1200) : Met l yX1_isSign uX1_isSign ({ frames := 0, cells := 0, slots := 0, locals := 0 }) (va_Pc [.ref rd, .int a1] (pw (dC, dI) vwCl [(rd, .inr (0, [.ref tp, .ref sc, .int xf, .int xp, .int xt, .int xa, .int xo, .int xv, .int xj]))] [])) (vp_Si (fun r => ((0 : Int) ≤ r.toInt ∧ r.toInt ≤ 1) ∧ (r ≠ 0 → (xt.toInt = 3 ∧ xv.toInt = a1.toInt)) ∧ (r = 0 → (xt.toInt ≠ 3 ∨ xv.toInt ≠ a1.toInt)))) 0 0 (fun _ => False) := by
  refine Met.ofW (cc := cX1_isSign) (maxL := 2) (ret := (some .boolean)) pn_X1 rfl ?_
  intro p e s m args below meth c s₁ B hml hv
  obtain ⟨rfl, hP, hK, hN⟩ := hv
  have hx := B.exec
  have hb := B.bytes
  have hr := B.returns
  have hts := atoms_spec (ws := uX1_isSign) B.pre
  have hown : s.vm.findClass RX1 = some m.cls := hown_of B.named rfl
  have hlocks := B.notSynchronized
  have hl := lv_entry ([.ref rd, .int a1]) (n := 2) (Nat.le_of_ble_eq_true rfl)
  rw [lg_entry_eq]
  generalize (lg_sl ([.ref rd, .int a1]) ++ List.replicate (2 - (lg_sl ([.ref rd, .int a1])).length) Slot.unset).toArray = ls at hl ⊢
  have hl : lv_has ls 2 [(0, .ref rd), (1, .int a1)] := hl
  refine lv_aload_n hx hb dX1_isSign_0 rfl (lv_at hl 0 rfl) ?_
  refine va_get (D := (dC, dI)) (ci := 0) (v := .int xt) (C := RX1) (T := TX1) (N := 9) hx hb hts iX1_isSign_X1 hown hK hP 0 rfl rfl 4 (by decide) (hts (.fieldLink RX1 39 "LuckyTicket$Reader" "token" "I") (List.mem_of_getElem? (i := 1) rfl)) (fun _ h9 => h9) rfl dX1_isSign_1 ?_
  refine lv_iconst (v := 3) hx hb dX1_isSign_4 (by decide) ?_
  refine lv_icmp_ne (tgt := 20) hx hb dX1_isSign_5 (by decide) (fun c_3 => ?_) (fun c_3 => ?_)
  ·
    have n_c_3 : (xt.toInt : Int) ≠ 3 := c_ne rfl (by decide) c_3
    refine lv_iconst (v := 0) hx hb dX1_isSign_20 (by decide) ?_
    exact W.zret (v := 0) hx hb hr rfl (fun t ht hW => ⟨0, rfl, ⟨(rg_w (by decide : (0 : Int) ≤ (0 : Int32).toInt ∧ (0 : Int32).toInt ≤ 0) (by decide) (by decide)), (fun h9 => absurd rfl h9), (fun _ => (by omega))⟩, ht⟩) t_nil dX1_isSign_21
  ·
    have n_c_3 : (xt.toInt : Int) = 3 := c_eq rfl (by decide) c_3
    have b_xt : (3 : Int) ≤ xt.toInt ∧ xt.toInt ≤ 3 := r_eq1 b_xt (by decide : (3 : Int) ≤ (3 : Int32).toInt ∧ (3 : Int32).toInt ≤ 3) n_c_3 (by decide)
    refine lv_aload_n hx hb dX1_isSign_8 rfl (lv_at hl 0 rfl) ?_
    refine va_get (D := (dC, dI)) (ci := 0) (v := .int xv) (C := RX1) (T := TX1) (N := 9) hx hb hts iX1_isSign_X1 hown hK hP 0 rfl rfl 7 (by decide) (hts (.fieldLink RX1 172 "LuckyTicket$Reader" "value" "I") (List.mem_of_getElem? (i := 2) rfl)) (fun _ h9 => h9) rfl dX1_isSign_9 ?_
    refine lv_iload_n hx hb dX1_isSign_12 rfl (lv_at hl 1 rfl) ?_
    refine lv_icmp_ne (tgt := 20) hx hb dX1_isSign_13 (by decide) (fun c_4 => ?_) (fun c_4 => ?_)
    ·
      have n_c_4 : (xv.toInt : Int) ≠ a1.toInt := c_ne rfl rfl c_4
      refine lv_iconst (v := 0) hx hb dX1_isSign_20 (by decide) ?_
      exact W.zret (v := 0) hx hb hr rfl (fun t ht hW => ⟨0, rfl, ⟨(rg_w (by decide : (0 : Int) ≤ (0 : Int32).toInt ∧ (0 : Int32).toInt ≤ 0) (by decide) (by decide)), (fun h9 => absurd rfl h9), (fun _ => (by omega))⟩, ht⟩) t_nil dX1_isSign_21
    ·
      have n_c_4 : (xv.toInt : Int) = a1.toInt := c_eq rfl rfl c_4
      refine lv_iconst (v := 1) hx hb dX1_isSign_16 (by decide) ?_
      refine lv_goto (tgt := 21) hx hb dX1_isSign_17 (by decide) ?_
      exact W.zret (v := 1) hx hb hr rfl (fun t ht hW => ⟨1, rfl, ⟨(rg_w (by decide : (1 : Int) ≤ (1 : Int32).toInt ∧ (1 : Int32).toInt ≤ 1) (by decide) (by decide)), (fun _ => (by omega)), (fun h9 => absurd h9 (by decide))⟩, ht⟩) t_nil dX1_isSign_21
theorem dX1_refuse_0 : decode cX1_refuse 0 = .ok (.aload_n 0, 1) := by decide +kernel
theorem dX1_refuse_1 : decode cX1_refuse 1 = .ok (.getfield 23, 3) := by decide +kernel
theorem dX1_refuse_4 : decode cX1_refuse 4 = .ok (.ifCond .ne 16, 3) := by decide +kernel
theorem dX1_refuse_7 : decode cX1_refuse 7 = .ok (.aload_n 0, 1) := by decide +kernel
theorem dX1_refuse_8 : decode cX1_refuse 8 = .ok (.iload_n 1, 1) := by decide +kernel
theorem dX1_refuse_9 : decode cX1_refuse 9 = .ok (.putfield 23, 3) := by decide +kernel
theorem dX1_refuse_12 : decode cX1_refuse 12 = .ok (.aload_n 0, 1) := by decide +kernel
theorem dX1_refuse_13 : decode cX1_refuse 13 = .ok (.aload_n 0, 1) := by decide +kernel
theorem dX1_refuse_14 : decode cX1_refuse 14 = .ok (.getfield 178, 3) := by decide +kernel
theorem dX1_refuse_17 : decode cX1_refuse 17 = .ok (.putfield 9, 3) := by decide +kernel
theorem dX1_refuse_20 : decode cX1_refuse 20 = .ok (.return_, 1) := by decide +kernel
theorem hd_yX1_refuse : yX1_refuse.cls = RX1 ∧ yX1_refuse.cls ≠ "java/lang/invoke/MethodHandle" ∧ yX1_refuse.cls ≠ "java/lang/invoke/VarHandle" ∧ (parseMethodDescriptor yX1_refuse.desc).map (fun d => d.parameters.length) = some 1 := by decide +kernel
def uX1_refuse : List Cond := List.cons (.code yX1_refuse cX1_refuse 2 none) (HAppend.hAppend ([.fieldLink RX1 23 "LuckyTicket$Reader" "fault" "I", .fieldLink RX1 178 "LuckyTicket$Reader" "start" "I", .fieldLink RX1 9 "LuckyTicket$Reader" "faultPlace" "I"] : List Cond) wsX10)
theorem iX1_refuse_X1 : ∀ w ∈ wsX10, w ∈ uX1_refuse := fun _ h => (List.mem_cons_of_mem _ (List.mem_append_right _ h))
theorem guX1_refuse : GU uX1_refuse := gu_cons (gu_app (by decide +kernel) gws_X1)
set_option maxHeartbeats 4000000 in
set_option maxRecDepth 100000 in
theorem kX1_refuse (l : Launch) (dC : Nat → ClassId) (dI : Nat → Nat → Nat) (rd : Nat) (xf : Int32) (xp : Int32) (xt : Int32) (xa : Int32) (xo : Int32) (xv : Int32) (xj : Int32) (tp : Nat) (sc : Nat) (a1 : Int32) (sz : Nat) (b_xf : (0 : Int) ≤ xf.toInt ∧ xf.toInt ≤ 3) (b_xp : (-1 : Int) ≤ xp.toInt ∧ xp.toInt ≤ 1200) (b_xt : (0 : Int) ≤ xt.toInt ∧ xt.toInt ≤ 4) (b_xa : (0 : Int) ≤ xa.toInt ∧ xa.toInt ≤ 1200) (b_xo : (0 : Int) ≤ xo.toInt ∧ xo.toInt ≤ 1200) (b_a1 : (1 : Int) ≤ a1.toInt ∧ a1.toInt ≤ 3) : Met l yX1_refuse uX1_refuse ({ frames := 0, cells := 0, slots := 0, locals := 0 }) (va_Pc [.ref rd, .int a1] (hw (dC, dI) vwCl [(rd, .inr (0, [.ref tp, .ref sc, .int xf, .int xp, .int xt, .int xa, .int xo, .int xv, .int xj]))] [] sz)) (va_Qv (fun (_ : Unit) => True) (fun (_ : Unit) t => ∃ (o0_ : Int32) (o1_ : Int32), ((1 : Int) ≤ o0_.toInt ∧ o0_.toInt ≤ 3) ∧ ((-1 : Int) ≤ o1_.toInt ∧ o1_.toInt ≤ 1200) ∧ (o0_.toInt = 0 → xf.toInt = 0) ∧ (o0_.toInt ≠ 0) ∧ va_P (dC, dI) vwCl [(rd, .inr (0, [.ref tp, .ref sc, .int o0_, .int o1_, .int xt, .int xa, .int xo, .int xv, .int xj]))] t.heap ∧ va_K (dC, dI) vwCl [] t ∧ va_D (va_A [(rd, .inr (0, [.ref tp, .ref sc, .int xf, .int xp, .int xt, .int xa, .int xo, .int xv, .int xj]))] sz) [(rd, .inr (0, [.ref tp, .ref sc, .int o0_, .int o1_, .int xt, .int xa, .int xo, .int xv, .int xj]))]) (va_A [(rd, .inr (0, [.ref tp, .ref sc, .int xf, .int xp, .int xt, .int xa, .int xo, .int xv, .int xj]))] sz)) 0 0 (va_A [(rd, .inr (0, [.ref tp, .ref sc, .int xf, .int xp, .int xt, .int xa, .int xo, .int xv, .int xj]))] sz) := by
  refine Met.ofW (cc := cX1_refuse) (maxL := 2) (ret := none) pn_X1 rfl ?_
  intro p e s m args below meth c s₁ B hml hv
  obtain ⟨rfl, hsz, hP, hK, hD0, hN⟩ := hv
  have hx := B.exec
  have hb := B.bytes
  have hr := B.returns
  have hts := atoms_spec (ws := uX1_refuse) B.pre
  have hown : s.vm.findClass RX1 = some m.cls := hown_of B.named rfl
  have hlocks := B.notSynchronized
  subst hsz
  have hD := hD0.self (sz := s.heap.size)
  generalize hAe : va_A [(rd, .inr (0, [.ref tp, .ref sc, .int xf, .int xp, .int xt, .int xa, .int xo, .int xv, .int xj]))] s.heap.size = A at hD ⊢
  have hA : ∀ q : Nat, s.heap.size ≤ q → A q := fun q h => by rw [← hAe]; exact Or.inr h
  have hS : va_S A s.heap s.heap [] := va_S.rf
  have hP : va_P (dC, dI) vwCl [(rd, .inr (0, [.ref tp, .ref sc, .int xf, .int xp, .int xt, .int xa, .int xo, .int xv, .int xj]))] s.heap := hP
  have hl := lv_entry ([.ref rd, .int a1]) (n := 2) (Nat.le_of_ble_eq_true rfl)
  rw [lg_entry_eq]
  generalize (lg_sl ([.ref rd, .int a1]) ++ List.replicate (2 - (lg_sl ([.ref rd, .int a1])).length) Slot.unset).toArray = ls at hl ⊢
  have hl : lv_has ls 2 [(0, .ref rd), (1, .int a1)] := hl
  refine lv_aload_n hx hb dX1_refuse_0 rfl (lv_at hl 0 rfl) ?_
  refine va_get (D := (dC, dI)) (ci := 0) (v := .int xf) (C := RX1) (T := TX1) (N := 9) hx hb hts iX1_refuse_X1 hown hK hP 0 rfl rfl 2 (by decide) (hts (.fieldLink RX1 23 "LuckyTicket$Reader" "fault" "I") (List.mem_of_getElem? (i := 1) rfl)) (fun _ h9 => h9) rfl dX1_refuse_1 ?_
  refine lv_if_ne (tgt := 20) hx hb dX1_refuse_4 (by decide) (fun c_2 => ?_) (fun c_2 => ?_)
  ·
    have n_c_2 : (xf.toInt : Int) ≠ 0 := c_ne rfl (by decide) c_2
    have b_xf : (1 : Int) ≤ xf.toInt ∧ xf.toInt ≤ 3 := r_ne1 b_xf (by decide : (0 : Int) ≤ (0 : Int32).toInt ∧ (0 : Int32).toInt ≤ 0) n_c_2 (by decide)
    have hP9 := hP.sub (ws' := [(rd, .inr (0, [.ref tp, .ref sc, .int xf, .int xp, .int xt, .int xa, .int xo, .int xv, .int xj]))]) [0] rfl
    have hD9 := hD.sub (ws' := [(rd, .inr (0, [.ref tp, .ref sc, .int xf, .int xp, .int xt, .int xa, .int xo, .int xv, .int xj]))]) [0] (by decide) rfl
    have hK9 := hK.sub (tys' := []) [] rfl
    exact W.vret hx hb hr (fun t ht hW => ⟨⟨(), rfl, trivial, xf, xp, b_xf, b_xp, (by omega), (by omega), by rw [ht]; exact hP9, va_K.moved hW.alike hK9, hD9⟩, hS.F ht⟩) hS.2.2 dX1_refuse_20
  ·
    have n_c_2 : (xf.toInt : Int) = 0 := c_eq rfl (by decide) c_2
    have b_xf : (0 : Int) ≤ xf.toInt ∧ xf.toInt ≤ 0 := r_eq1 b_xf (by decide : (0 : Int) ≤ (0 : Int32).toInt ∧ (0 : Int32).toInt ≤ 0) n_c_2 (by decide)
    refine lv_aload_n hx hb dX1_refuse_7 rfl (lv_at hl 0 rfl) ?_
    refine lv_iload_n hx hb dX1_refuse_8 rfl (lv_at hl 1 rfl) ?_
    refine va_put (D := (dC, dI)) (ci := 0) (v := .int a1) (ty := .int) (C := RX1) (T := TX1) (N := 9) hx hb hts iX1_refuse_X1 tyX1 tyX1_ok nmX1 hown hK hP hD hS 0 rfl rfl 2 (by decide) (hts (.fieldLink RX1 23 "LuckyTicket$Reader" "fault" "I") (List.mem_of_getElem? (i := 1) rfl)) (fun _ h9 => h9) rfl (by decide +kernel) rfl rfl (Nat.le_of_ble_eq_true rfl) dX1_refuse_9 (fun H locs hP hD hS => ?_)
    have hP : va_P (dC, dI) vwCl [(rd, .inr (0, [.ref tp, .ref sc, .int a1, .int xp, .int xt, .int xa, .int xo, .int xv, .int xj]))] H := hP
    have hD : va_D A [(rd, .inr (0, [.ref tp, .ref sc, .int a1, .int xp, .int xt, .int xa, .int xo, .int xv, .int xj]))] := hD
    refine lv_aload_n hx hb dX1_refuse_12 rfl (lv_at hl 0 rfl) ?_
    refine lv_aload_n hx hb dX1_refuse_13 rfl (lv_at hl 0 rfl) ?_
    refine va_get (D := (dC, dI)) (ci := 0) (v := .int xa) (C := RX1) (T := TX1) (N := 9) hx hb hts iX1_refuse_X1 hown hK hP 0 rfl rfl 5 (by decide) (hts (.fieldLink RX1 178 "LuckyTicket$Reader" "start" "I") (List.mem_of_getElem? (i := 2) rfl)) (fun _ h9 => h9) rfl dX1_refuse_14 ?_
    refine va_put (D := (dC, dI)) (ci := 0) (v := .int xa) (ty := .int) (C := RX1) (T := TX1) (N := 9) hx hb hts iX1_refuse_X1 tyX1 tyX1_ok nmX1 hown hK hP hD hS 0 rfl rfl 3 (by decide) (hts (.fieldLink RX1 9 "LuckyTicket$Reader" "faultPlace" "I") (List.mem_of_getElem? (i := 3) rfl)) (fun _ h9 => h9) rfl (by decide +kernel) rfl rfl (Nat.le_of_ble_eq_true rfl) dX1_refuse_17 (fun H locs hP hD hS => ?_)
    have hP : va_P (dC, dI) vwCl [(rd, .inr (0, [.ref tp, .ref sc, .int a1, .int xa, .int xt, .int xa, .int xo, .int xv, .int xj]))] H := hP
    have hD : va_D A [(rd, .inr (0, [.ref tp, .ref sc, .int a1, .int xa, .int xt, .int xa, .int xo, .int xv, .int xj]))] := hD
    have hP9 := hP.sub (ws' := [(rd, .inr (0, [.ref tp, .ref sc, .int a1, .int xa, .int xt, .int xa, .int xo, .int xv, .int xj]))]) [0] rfl
    have hD9 := hD.sub (ws' := [(rd, .inr (0, [.ref tp, .ref sc, .int a1, .int xa, .int xt, .int xa, .int xo, .int xv, .int xj]))]) [0] (by decide) rfl
    have hK9 := hK.sub (tys' := []) [] rfl
    exact W.vret hx hb hr (fun t ht hW => ⟨⟨(), rfl, trivial, a1, xa, b_a1, (rg_w b_xa (by decide) (by decide)), (by omega), (by omega), by rw [ht]; exact hP9, va_K.moved hW.alike hK9, hD9⟩, hS.F ht⟩) hS.2.2 dX1_refuse_20
theorem dX1_advance_0 : decode cX1_advance 0 = .ok (.aload_n 0, 1) := by decide +kernel
theorem dX1_advance_1 : decode cX1_advance 1 = .ok (.getfield 15, 3) := by decide +kernel
theorem dX1_advance_4 : decode cX1_advance 4 = .ok (.getfield 186, 3) := by decide +kernel
theorem dX1_advance_7 : decode cX1_advance 7 = .ok (.astore_n 1, 1) := by decide +kernel
theorem dX1_advance_8 : decode cX1_advance 8 = .ok (.aload_n 0, 1) := by decide +kernel
theorem dX1_advance_9 : decode cX1_advance 9 = .ok (.getfield 15, 3) := by decide +kernel
theorem dX1_advance_12 : decode cX1_advance 12 = .ok (.getfield 194, 3) := by decide +kernel
theorem dX1_advance_15 : decode cX1_advance 15 = .ok (.istore_n 2, 1) := by decide +kernel
theorem dX1_advance_16 : decode cX1_advance 16 = .ok (.aload_n 0, 1) := by decide +kernel
theorem dX1_advance_17 : decode cX1_advance 17 = .ok (.getfield 26, 3) := by decide +kernel
theorem dX1_advance_20 : decode cX1_advance 20 = .ok (.iload_n 2, 1) := by decide +kernel
theorem dX1_advance_21 : decode cX1_advance 21 = .ok (.if_icmp .ge 38, 3) := by decide +kernel
theorem dX1_advance_24 : decode cX1_advance 24 = .ok (.aload_n 1, 1) := by decide +kernel
theorem dX1_advance_25 : decode cX1_advance 25 = .ok (.aload_n 0, 1) := by decide +kernel
theorem dX1_advance_26 : decode cX1_advance 26 = .ok (.getfield 26, 3) := by decide +kernel
theorem dX1_advance_29 : decode cX1_advance 29 = .ok (.baload, 1) := by decide +kernel
theorem dX1_advance_30 : decode cX1_advance 30 = .ok (.bipush 32, 2) := by decide +kernel
theorem dX1_advance_32 : decode cX1_advance 32 = .ok (.if_icmp .eq 14, 3) := by decide +kernel
theorem dX1_advance_35 : decode cX1_advance 35 = .ok (.aload_n 1, 1) := by decide +kernel
theorem dX1_advance_36 : decode cX1_advance 36 = .ok (.aload_n 0, 1) := by decide +kernel
theorem dX1_advance_37 : decode cX1_advance 37 = .ok (.getfield 26, 3) := by decide +kernel
theorem dX1_advance_40 : decode cX1_advance 40 = .ok (.baload, 1) := by decide +kernel
theorem dX1_advance_41 : decode cX1_advance 41 = .ok (.bipush 10, 2) := by decide +kernel
theorem dX1_advance_43 : decode cX1_advance 43 = .ok (.if_icmp .ne 16, 3) := by decide +kernel
theorem dX1_advance_46 : decode cX1_advance 46 = .ok (.aload_n 0, 1) := by decide +kernel
theorem dX1_advance_47 : decode cX1_advance 47 = .ok (.dup, 1) := by decide +kernel
theorem dX1_advance_48 : decode cX1_advance 48 = .ok (.getfield 26, 3) := by decide +kernel
theorem dX1_advance_51 : decode cX1_advance 51 = .ok (.iconst 1, 1) := by decide +kernel
theorem dX1_advance_52 : decode cX1_advance 52 = .ok (.iadd, 1) := by decide +kernel
theorem dX1_advance_53 : decode cX1_advance 53 = .ok (.putfield 26, 3) := by decide +kernel
theorem dX1_advance_56 : decode cX1_advance 56 = .ok (.goto (-40), 3) := by decide +kernel
theorem dX1_advance_59 : decode cX1_advance 59 = .ok (.aload_n 0, 1) := by decide +kernel
theorem dX1_advance_60 : decode cX1_advance 60 = .ok (.aload_n 0, 1) := by decide +kernel
theorem dX1_advance_61 : decode cX1_advance 61 = .ok (.getfield 26, 3) := by decide +kernel
theorem dX1_advance_64 : decode cX1_advance 64 = .ok (.putfield 178, 3) := by decide +kernel
theorem dX1_advance_67 : decode cX1_advance 67 = .ok (.aload_n 0, 1) := by decide +kernel
theorem dX1_advance_68 : decode cX1_advance 68 = .ok (.iconst 0, 1) := by decide +kernel
theorem dX1_advance_69 : decode cX1_advance 69 = .ok (.putfield 172, 3) := by decide +kernel
theorem dX1_advance_72 : decode cX1_advance 72 = .ok (.aload_n 0, 1) := by decide +kernel
theorem dX1_advance_73 : decode cX1_advance 73 = .ok (.getfield 178, 3) := by decide +kernel
theorem dX1_advance_76 : decode cX1_advance 76 = .ok (.iload_n 2, 1) := by decide +kernel
theorem dX1_advance_77 : decode cX1_advance 77 = .ok (.if_icmp .lt 11, 3) := by decide +kernel
theorem dX1_advance_80 : decode cX1_advance 80 = .ok (.aload_n 0, 1) := by decide +kernel
theorem dX1_advance_81 : decode cX1_advance 81 = .ok (.iconst 0, 1) := by decide +kernel
theorem dX1_advance_82 : decode cX1_advance 82 = .ok (.putfield 39, 3) := by decide +kernel
theorem dX1_advance_85 : decode cX1_advance 85 = .ok (.goto 237, 3) := by decide +kernel
theorem dX1_advance_88 : decode cX1_advance 88 = .ok (.aload_n 1, 1) := by decide +kernel
theorem dX1_advance_89 : decode cX1_advance 89 = .ok (.aload_n 0, 1) := by decide +kernel
theorem dX1_advance_90 : decode cX1_advance 90 = .ok (.getfield 178, 3) := by decide +kernel
theorem dX1_advance_93 : decode cX1_advance 93 = .ok (.baload, 1) := by decide +kernel
theorem dX1_advance_94 : decode cX1_advance 94 = .ok (.bipush 97, 2) := by decide +kernel
theorem dX1_advance_96 : decode cX1_advance 96 = .ok (.if_icmp .lt 62, 3) := by decide +kernel
theorem dX1_advance_99 : decode cX1_advance 99 = .ok (.aload_n 1, 1) := by decide +kernel
theorem dX1_advance_100 : decode cX1_advance 100 = .ok (.aload_n 0, 1) := by decide +kernel
theorem dX1_advance_101 : decode cX1_advance 101 = .ok (.getfield 178, 3) := by decide +kernel
theorem dX1_advance_104 : decode cX1_advance 104 = .ok (.baload, 1) := by decide +kernel
theorem dX1_advance_105 : decode cX1_advance 105 = .ok (.bipush 122, 2) := by decide +kernel
theorem dX1_advance_107 : decode cX1_advance 107 = .ok (.if_icmp .gt 51, 3) := by decide +kernel
theorem dX1_advance_110 : decode cX1_advance 110 = .ok (.aload_n 0, 1) := by decide +kernel
theorem dX1_advance_111 : decode cX1_advance 111 = .ok (.iconst 1, 1) := by decide +kernel
theorem dX1_advance_112 : decode cX1_advance 112 = .ok (.putfield 39, 3) := by decide +kernel
theorem dX1_advance_115 : decode cX1_advance 115 = .ok (.aload_n 0, 1) := by decide +kernel
theorem dX1_advance_116 : decode cX1_advance 116 = .ok (.getfield 26, 3) := by decide +kernel
theorem dX1_advance_119 : decode cX1_advance 119 = .ok (.iload_n 2, 1) := by decide +kernel
theorem dX1_advance_120 : decode cX1_advance 120 = .ok (.if_icmp .ge 202, 3) := by decide +kernel
theorem dX1_advance_123 : decode cX1_advance 123 = .ok (.aload_n 1, 1) := by decide +kernel
theorem dX1_advance_124 : decode cX1_advance 124 = .ok (.aload_n 0, 1) := by decide +kernel
theorem dX1_advance_125 : decode cX1_advance 125 = .ok (.getfield 26, 3) := by decide +kernel
theorem dX1_advance_128 : decode cX1_advance 128 = .ok (.baload, 1) := by decide +kernel
theorem dX1_advance_129 : decode cX1_advance 129 = .ok (.bipush 97, 2) := by decide +kernel
theorem dX1_advance_131 : decode cX1_advance 131 = .ok (.if_icmp .lt 191, 3) := by decide +kernel
theorem dX1_advance_134 : decode cX1_advance 134 = .ok (.aload_n 1, 1) := by decide +kernel
theorem dX1_advance_135 : decode cX1_advance 135 = .ok (.aload_n 0, 1) := by decide +kernel
theorem dX1_advance_136 : decode cX1_advance 136 = .ok (.getfield 26, 3) := by decide +kernel
theorem dX1_advance_139 : decode cX1_advance 139 = .ok (.baload, 1) := by decide +kernel
theorem dX1_advance_140 : decode cX1_advance 140 = .ok (.bipush 122, 2) := by decide +kernel
theorem dX1_advance_142 : decode cX1_advance 142 = .ok (.if_icmp .gt 180, 3) := by decide +kernel
theorem dX1_advance_145 : decode cX1_advance 145 = .ok (.aload_n 0, 1) := by decide +kernel
theorem dX1_advance_146 : decode cX1_advance 146 = .ok (.dup, 1) := by decide +kernel
theorem dX1_advance_147 : decode cX1_advance 147 = .ok (.getfield 26, 3) := by decide +kernel
theorem dX1_advance_150 : decode cX1_advance 150 = .ok (.iconst 1, 1) := by decide +kernel
theorem dX1_advance_151 : decode cX1_advance 151 = .ok (.iadd, 1) := by decide +kernel
theorem dX1_advance_152 : decode cX1_advance 152 = .ok (.putfield 26, 3) := by decide +kernel
theorem dX1_advance_155 : decode cX1_advance 155 = .ok (.goto (-40), 3) := by decide +kernel
theorem dX1_advance_158 : decode cX1_advance 158 = .ok (.aload_n 1, 1) := by decide +kernel
theorem dX1_advance_159 : decode cX1_advance 159 = .ok (.aload_n 0, 1) := by decide +kernel
theorem dX1_advance_160 : decode cX1_advance 160 = .ok (.getfield 178, 3) := by decide +kernel
theorem dX1_advance_163 : decode cX1_advance 163 = .ok (.baload, 1) := by decide +kernel
theorem dX1_advance_164 : decode cX1_advance 164 = .ok (.bipush 48, 2) := by decide +kernel
theorem dX1_advance_166 : decode cX1_advance 166 = .ok (.if_icmp .lt 100, 3) := by decide +kernel
theorem dX1_advance_169 : decode cX1_advance 169 = .ok (.aload_n 1, 1) := by decide +kernel
theorem dX1_advance_170 : decode cX1_advance 170 = .ok (.aload_n 0, 1) := by decide +kernel
theorem dX1_advance_171 : decode cX1_advance 171 = .ok (.getfield 178, 3) := by decide +kernel
theorem dX1_advance_174 : decode cX1_advance 174 = .ok (.baload, 1) := by decide +kernel
theorem dX1_advance_175 : decode cX1_advance 175 = .ok (.bipush 57, 2) := by decide +kernel
theorem dX1_advance_177 : decode cX1_advance 177 = .ok (.if_icmp .gt 89, 3) := by decide +kernel
theorem dX1_advance_180 : decode cX1_advance 180 = .ok (.aload_n 0, 1) := by decide +kernel
theorem dX1_advance_181 : decode cX1_advance 181 = .ok (.iconst 2, 1) := by decide +kernel
theorem dX1_advance_182 : decode cX1_advance 182 = .ok (.putfield 39, 3) := by decide +kernel
theorem dX1_advance_185 : decode cX1_advance 185 = .ok (.aload_n 0, 1) := by decide +kernel
theorem dX1_advance_186 : decode cX1_advance 186 = .ok (.getfield 26, 3) := by decide +kernel
theorem dX1_advance_189 : decode cX1_advance 189 = .ok (.iload_n 2, 1) := by decide +kernel
theorem dX1_advance_190 : decode cX1_advance 190 = .ok (.if_icmp .ge 132, 3) := by decide +kernel
theorem dX1_advance_193 : decode cX1_advance 193 = .ok (.aload_n 1, 1) := by decide +kernel
theorem dX1_advance_194 : decode cX1_advance 194 = .ok (.aload_n 0, 1) := by decide +kernel
theorem dX1_advance_195 : decode cX1_advance 195 = .ok (.getfield 26, 3) := by decide +kernel
theorem dX1_advance_198 : decode cX1_advance 198 = .ok (.baload, 1) := by decide +kernel
theorem dX1_advance_199 : decode cX1_advance 199 = .ok (.bipush 48, 2) := by decide +kernel
theorem dX1_advance_201 : decode cX1_advance 201 = .ok (.if_icmp .lt 121, 3) := by decide +kernel
theorem dX1_advance_204 : decode cX1_advance 204 = .ok (.aload_n 1, 1) := by decide +kernel
theorem dX1_advance_205 : decode cX1_advance 205 = .ok (.aload_n 0, 1) := by decide +kernel
theorem dX1_advance_206 : decode cX1_advance 206 = .ok (.getfield 26, 3) := by decide +kernel
theorem dX1_advance_209 : decode cX1_advance 209 = .ok (.baload, 1) := by decide +kernel
theorem dX1_advance_210 : decode cX1_advance 210 = .ok (.bipush 57, 2) := by decide +kernel
theorem dX1_advance_212 : decode cX1_advance 212 = .ok (.if_icmp .gt 110, 3) := by decide +kernel
theorem dX1_advance_215 : decode cX1_advance 215 = .ok (.aload_n 0, 1) := by decide +kernel
theorem dX1_advance_216 : decode cX1_advance 216 = .ok (.aload_n 0, 1) := by decide +kernel
theorem dX1_advance_217 : decode cX1_advance 217 = .ok (.getfield 172, 3) := by decide +kernel
theorem dX1_advance_220 : decode cX1_advance 220 = .ok (.sipush 1000, 3) := by decide +kernel
theorem dX1_advance_223 : decode cX1_advance 223 = .ok (.if_icmp .le 10, 3) := by decide +kernel
theorem dX1_advance_226 : decode cX1_advance 226 = .ok (.aload_n 0, 1) := by decide +kernel
theorem dX1_advance_227 : decode cX1_advance 227 = .ok (.getfield 172, 3) := by decide +kernel
theorem dX1_advance_230 : decode cX1_advance 230 = .ok (.goto 20, 3) := by decide +kernel
theorem dX1_advance_233 : decode cX1_advance 233 = .ok (.aload_n 0, 1) := by decide +kernel
theorem dX1_advance_234 : decode cX1_advance 234 = .ok (.getfield 172, 3) := by decide +kernel
theorem dX1_advance_237 : decode cX1_advance 237 = .ok (.bipush 10, 2) := by decide +kernel
theorem dX1_advance_239 : decode cX1_advance 239 = .ok (.imul, 1) := by decide +kernel
theorem dX1_advance_240 : decode cX1_advance 240 = .ok (.aload_n 1, 1) := by decide +kernel
theorem dX1_advance_241 : decode cX1_advance 241 = .ok (.aload_n 0, 1) := by decide +kernel
theorem dX1_advance_242 : decode cX1_advance 242 = .ok (.getfield 26, 3) := by decide +kernel
theorem dX1_advance_245 : decode cX1_advance 245 = .ok (.baload, 1) := by decide +kernel
theorem dX1_advance_246 : decode cX1_advance 246 = .ok (.iadd, 1) := by decide +kernel
theorem dX1_advance_247 : decode cX1_advance 247 = .ok (.bipush 48, 2) := by decide +kernel
theorem dX1_advance_249 : decode cX1_advance 249 = .ok (.isub, 1) := by decide +kernel
theorem dX1_advance_250 : decode cX1_advance 250 = .ok (.putfield 172, 3) := by decide +kernel
theorem dX1_advance_253 : decode cX1_advance 253 = .ok (.aload_n 0, 1) := by decide +kernel
theorem dX1_advance_254 : decode cX1_advance 254 = .ok (.dup, 1) := by decide +kernel
theorem dX1_advance_255 : decode cX1_advance 255 = .ok (.getfield 26, 3) := by decide +kernel
theorem dX1_advance_258 : decode cX1_advance 258 = .ok (.iconst 1, 1) := by decide +kernel
theorem dX1_advance_259 : decode cX1_advance 259 = .ok (.iadd, 1) := by decide +kernel
theorem dX1_advance_260 : decode cX1_advance 260 = .ok (.putfield 26, 3) := by decide +kernel
theorem dX1_advance_263 : decode cX1_advance 263 = .ok (.goto (-78), 3) := by decide +kernel
theorem dX1_advance_266 : decode cX1_advance 266 = .ok (.aload_n 0, 1) := by decide +kernel
theorem dX1_advance_267 : decode cX1_advance 267 = .ok (.aload_n 1, 1) := by decide +kernel
theorem dX1_advance_268 : decode cX1_advance 268 = .ok (.aload_n 0, 1) := by decide +kernel
theorem dX1_advance_269 : decode cX1_advance 269 = .ok (.getfield 178, 3) := by decide +kernel
theorem dX1_advance_272 : decode cX1_advance 272 = .ok (.baload, 1) := by decide +kernel
theorem dX1_advance_273 : decode cX1_advance 273 = .ok (.putfield 172, 3) := by decide +kernel
theorem dX1_advance_276 : decode cX1_advance 276 = .ok (.aload_n 0, 1) := by decide +kernel
theorem dX1_advance_277 : decode cX1_advance 277 = .ok (.aload_n 0, 1) := by decide +kernel
theorem dX1_advance_278 : decode cX1_advance 278 = .ok (.getfield 172, 3) := by decide +kernel
theorem dX1_advance_281 : decode cX1_advance 281 = .ok (.bipush 59, 2) := by decide +kernel
theorem dX1_advance_283 : decode cX1_advance 283 = .ok (.if_icmp .eq 21, 3) := by decide +kernel
theorem dX1_advance_286 : decode cX1_advance 286 = .ok (.aload_n 0, 1) := by decide +kernel
theorem dX1_advance_287 : decode cX1_advance 287 = .ok (.getfield 172, 3) := by decide +kernel
theorem dX1_advance_290 : decode cX1_advance 290 = .ok (.bipush 40, 2) := by decide +kernel
theorem dX1_advance_292 : decode cX1_advance 292 = .ok (.if_icmp .eq 12, 3) := by decide +kernel
theorem dX1_advance_295 : decode cX1_advance 295 = .ok (.aload_n 0, 1) := by decide +kernel
theorem dX1_advance_296 : decode cX1_advance 296 = .ok (.getfield 172, 3) := by decide +kernel
theorem dX1_advance_299 : decode cX1_advance 299 = .ok (.bipush 41, 2) := by decide +kernel
theorem dX1_advance_301 : decode cX1_advance 301 = .ok (.if_icmp .ne 7, 3) := by decide +kernel
theorem dX1_advance_304 : decode cX1_advance 304 = .ok (.iconst 3, 1) := by decide +kernel
theorem dX1_advance_305 : decode cX1_advance 305 = .ok (.goto 4, 3) := by decide +kernel
theorem dX1_advance_308 : decode cX1_advance 308 = .ok (.iconst 4, 1) := by decide +kernel
theorem dX1_advance_309 : decode cX1_advance 309 = .ok (.putfield 39, 3) := by decide +kernel
theorem dX1_advance_312 : decode cX1_advance 312 = .ok (.aload_n 0, 1) := by decide +kernel
theorem dX1_advance_313 : decode cX1_advance 313 = .ok (.dup, 1) := by decide +kernel
theorem dX1_advance_314 : decode cX1_advance 314 = .ok (.getfield 26, 3) := by decide +kernel
theorem dX1_advance_317 : decode cX1_advance 317 = .ok (.iconst 1, 1) := by decide +kernel
theorem dX1_advance_318 : decode cX1_advance 318 = .ok (.iadd, 1) := by decide +kernel
theorem dX1_advance_319 : decode cX1_advance 319 = .ok (.putfield 26, 3) := by decide +kernel
theorem dX1_advance_322 : decode cX1_advance 322 = .ok (.return_, 1) := by decide +kernel
theorem hd_yX1_advance : yX1_advance.cls = RX1 ∧ yX1_advance.cls ≠ "java/lang/invoke/MethodHandle" ∧ yX1_advance.cls ≠ "java/lang/invoke/VarHandle" ∧ (parseMethodDescriptor yX1_advance.desc).map (fun d => d.parameters.length) = some 0 := by decide +kernel
def uX1_advance : List Cond := List.cons (.code yX1_advance cX1_advance 3 none) (HAppend.hAppend ([.fieldLink RX1 15 "LuckyTicket$Reader" "tape" "LLuckyTicket$Tape;", .fieldLink RX1 26 "LuckyTicket$Reader" "stop" "I", .fieldLink RX1 178 "LuckyTicket$Reader" "start" "I", .fieldLink RX1 172 "LuckyTicket$Reader" "value" "I", .fieldLink RX1 39 "LuckyTicket$Reader" "token" "I"] : List Cond) (HAppend.hAppend wsX10 wsX70))
theorem iX1_advance_X1 : ∀ w ∈ wsX10, w ∈ uX1_advance := fun _ h => (List.mem_cons_of_mem _ (List.mem_append_right _ (List.mem_append_left _ h)))
theorem iX1_advance_X7 : ∀ w ∈ wsX70, w ∈ uX1_advance := fun _ h => (List.mem_cons_of_mem _ (List.mem_append_right _ (List.mem_append_right _ h)))
theorem guX1_advance : GU uX1_advance := gu_cons (gu_app (by decide +kernel) (gu_ap gws_X1 gws_X7))
set_option maxHeartbeats 4000000 in
set_option maxRecDepth 100000 in
theorem kX1_advance (l : Launch) (dC : Nat → ClassId) (dI : Nat → Nat → Nat) (rd : Nat) (xf : Int32) (xp : Int32) (xt : Int32) (xa : Int32) (xo : Int32) (xv : Int32) (xj : Int32) (tp : Nat) (tb : Nat) (ts : Int32) (cB : ClassId) (fb : Nat → Int32) (sc : Nat) (sz : Nat) (b_xf : (0 : Int) ≤ xf.toInt ∧ xf.toInt ≤ 3) (b_xp : (-1 : Int) ≤ xp.toInt ∧ xp.toInt ≤ 1200) (b_xt : (0 : Int) ≤ xt.toInt ∧ xt.toInt ≤ 4) (b_xa : (0 : Int) ≤ xa.toInt ∧ xa.toInt ≤ 1200) (b_xo : (0 : Int) ≤ xo.toInt ∧ xo.toInt ≤ 1200) (b_ts : (0 : Int) ≤ ts.toInt ∧ ts.toInt ≤ 1200) (hrd : xa.toInt ≤ xo.toInt) : Met l yX1_advance uX1_advance ({ frames := 0, cells := 0, slots := 0, locals := 0 }) (va_Pc [.ref rd] (hw (dC, dI) vwCl [(rd, .inr (0, [.ref tp, .ref sc, .int xf, .int xp, .int xt, .int xa, .int xo, .int xv, .int xj])), (tp, .inr (6, [.ref tb, .int ts])), (tb, .inl (cB, 1200, .inl fb))] [(cB, .byte)] sz)) (va_Qv (fun (_ : Unit) => True) (fun (_ : Unit) t => ∃ (o0_ : Int32) (o1_ : Int32) (o2_ : Int32) (o3_ : Int32), ((0 : Int) ≤ o0_.toInt ∧ o0_.toInt ≤ 4) ∧ ((0 : Int) ≤ o1_.toInt ∧ o1_.toInt ≤ 1200) ∧ ((0 : Int) ≤ o2_.toInt ∧ o2_.toInt ≤ 1200) ∧ (o1_.toInt ≤ o2_.toInt) ∧ va_P (dC, dI) vwCl [(rd, .inr (0, [.ref tp, .ref sc, .int xf, .int xp, .int o0_, .int o1_, .int o2_, .int o3_, .int xj])), (tp, .inr (6, [.ref tb, .int ts])), (tb, .inl (cB, 1200, .inl fb))] t.heap ∧ va_K (dC, dI) vwCl [(cB, .byte)] t ∧ va_D (va_A [(rd, .inr (0, [.ref tp, .ref sc, .int xf, .int xp, .int xt, .int xa, .int xo, .int xv, .int xj])), (tp, .inr (6, [.ref tb, .int ts])), (tb, .inl (cB, 1200, .inl fb))] sz) [(rd, .inr (0, [.ref tp, .ref sc, .int xf, .int xp, .int o0_, .int o1_, .int o2_, .int o3_, .int xj])), (tp, .inr (6, [.ref tb, .int ts])), (tb, .inl (cB, 1200, .inl fb))]) (va_A [(rd, .inr (0, [.ref tp, .ref sc, .int xf, .int xp, .int xt, .int xa, .int xo, .int xv, .int xj])), (tp, .inr (6, [.ref tb, .int ts])), (tb, .inl (cB, 1200, .inl fb))] sz)) 0 0 (va_A [(rd, .inr (0, [.ref tp, .ref sc, .int xf, .int xp, .int xt, .int xa, .int xo, .int xv, .int xj])), (tp, .inr (6, [.ref tb, .int ts])), (tb, .inl (cB, 1200, .inl fb))] sz) := by
  refine Met.ofW (cc := cX1_advance) (maxL := 3) (ret := none) pn_X1 rfl ?_
  intro p e s m args below meth c s₁ B hml hv
  obtain ⟨rfl, hsz, hP, hK, hD0, hN⟩ := hv
  have hx := B.exec
  have hb := B.bytes
  have hr := B.returns
  have hts := atoms_spec (ws := uX1_advance) B.pre
  have hown : s.vm.findClass RX1 = some m.cls := hown_of B.named rfl
  have hlocks := B.notSynchronized
  subst hsz
  have hD := hD0.self (sz := s.heap.size)
  generalize hAe : va_A [(rd, .inr (0, [.ref tp, .ref sc, .int xf, .int xp, .int xt, .int xa, .int xo, .int xv, .int xj])), (tp, .inr (6, [.ref tb, .int ts])), (tb, .inl (cB, 1200, .inl fb))] s.heap.size = A at hD ⊢
  have hA : ∀ q : Nat, s.heap.size ≤ q → A q := fun q h => by rw [← hAe]; exact Or.inr h
  have hS : va_S A s.heap s.heap [] := va_S.rf
  have hP : va_P (dC, dI) vwCl [(rd, .inr (0, [.ref tp, .ref sc, .int xf, .int xp, .int xt, .int xa, .int xo, .int xv, .int xj])), (tp, .inr (6, [.ref tb, .int ts])), (tb, .inl (cB, 1200, .inl fb))] s.heap := hP
  have hl := lv_entry ([.ref rd]) (n := 3) (Nat.le_of_ble_eq_true rfl)
  rw [lg_entry_eq]
  generalize (lg_sl ([.ref rd]) ++ List.replicate (3 - (lg_sl ([.ref rd])).length) Slot.unset).toArray = ls at hl ⊢
  have hl : lv_has ls 3 [(0, .ref rd)] := hl
  refine lv_aload_n hx hb dX1_advance_0 rfl (lv_at hl 0 rfl) ?_
  refine va_get (D := (dC, dI)) (ci := 0) (v := .ref tp) (C := RX1) (T := TX1) (N := 9) hx hb hts iX1_advance_X1 hown hK hP 0 rfl rfl 0 (by decide) (hts (.fieldLink RX1 15 "LuckyTicket$Reader" "tape" "LLuckyTicket$Tape;") (List.mem_of_getElem? (i := 1) rfl)) (fun _ h9 => h9) rfl dX1_advance_1 ?_
  refine va_getN (own := RX1) (index := 186) (ref := RX7) (host := RX9) (D := (dC, dI)) (ci := 6) (v := .ref tb) (C := RX7) (T := TX7) (N := 2) hx hb hts iX1_advance_X7 hown hK hP 1 rfl rfl 0 (by decide) (va_Nw.use rfl (hN _ (List.mem_of_getElem? (i := 0) rfl))) (fun _ h9 => h9) rfl dX1_advance_4 ?_
  refine lv_astore_n (lv' := [(1, .ref tb), (0, .ref rd)]) hx hb dX1_advance_7 rfl hl (by decide) rfl (fun ls hl => ?_)
  refine lv_aload_n hx hb dX1_advance_8 rfl (lv_at hl 1 rfl) ?_
  refine va_get (D := (dC, dI)) (ci := 0) (v := .ref tp) (C := RX1) (T := TX1) (N := 9) hx hb hts iX1_advance_X1 hown hK hP 0 rfl rfl 0 (by decide) (hts (.fieldLink RX1 15 "LuckyTicket$Reader" "tape" "LLuckyTicket$Tape;") (List.mem_of_getElem? (i := 1) rfl)) (fun _ h9 => h9) rfl dX1_advance_9 ?_
  refine va_getN (own := RX1) (index := 194) (ref := RX7) (host := RX9) (D := (dC, dI)) (ci := 6) (v := .int ts) (C := RX7) (T := TX7) (N := 2) hx hb hts iX1_advance_X7 hown hK hP 1 rfl rfl 1 (by decide) (va_Nw.use rfl (hN _ (List.mem_of_getElem? (i := 2) rfl))) (fun _ h9 => h9) rfl dX1_advance_12 ?_
  refine lv_istore_n (lv' := [(2, .int ts), (1, .ref tb), (0, .ref rd)]) hx hb dX1_advance_15 rfl hl (by decide) rfl (fun ls hl => ?_)
  refine loopW (σ := Int32) (fun v => (1200 - v.toInt).toNat) (fun v H locs ls => ((0 : Int) ≤ v.toInt ∧ v.toInt ≤ 1200) ∧ va_P (dC, dI) vwCl [(rd, .inr (0, [.ref tp, .ref sc, .int xf, .int xp, .int xt, .int xa, .int v, .int xv, .int xj])), (tp, .inr (6, [.ref tb, .int ts])), (tb, .inl (cB, 1200, .inl fb))] H ∧ va_D A [(rd, .inr (0, [.ref tp, .ref sc, .int xf, .int xp, .int xt, .int xa, .int v, .int xv, .int xj])), (tp, .inr (6, [.ref tb, .int ts])), (tb, .inl (cB, 1200, .inl fb))] ∧ va_S A s.heap H locs ∧ lv_has ls 3 [(2, .int ts), (1, .ref tb), (0, .ref rd)]) (fun v H locs ls hI ih_16_837 => ?_) xo ⟨(show (0 : Int) ≤ xo.toInt ∧ xo.toInt ≤ 1200 from b_xo), hP, hD, hS, lv_sub hl [0, 1, 2] rfl⟩
  obtain ⟨y_670, rfl⟩ : ∃ z, z = v := ⟨_, rfl⟩
  obtain ⟨b_y_670, hP, hD, hS, hl⟩ := hI
  have b_y_670 : (0 : Int) ≤ y_670.toInt ∧ y_670.toInt ≤ 1200 := b_y_670
  have hP : va_P (dC, dI) vwCl [(rd, .inr (0, [.ref tp, .ref sc, .int xf, .int xp, .int xt, .int xa, .int y_670, .int xv, .int xj])), (tp, .inr (6, [.ref tb, .int ts])), (tb, .inl (cB, 1200, .inl fb))] H := hP
  have hD : va_D A [(rd, .inr (0, [.ref tp, .ref sc, .int xf, .int xp, .int xt, .int xa, .int y_670, .int xv, .int xj])), (tp, .inr (6, [.ref tb, .int ts])), (tb, .inl (cB, 1200, .inl fb))] := hD
  have hl : lv_has ls 3 [(2, .int ts), (1, .ref tb), (0, .ref rd)] := hl
  refine lv_aload_n hx hb dX1_advance_16 rfl (lv_at hl 2 rfl) ?_
  refine va_get (D := (dC, dI)) (ci := 0) (v := .int y_670) (C := RX1) (T := TX1) (N := 9) hx hb hts iX1_advance_X1 hown hK hP 0 rfl rfl 6 (by decide) (hts (.fieldLink RX1 26 "LuckyTicket$Reader" "stop" "I") (List.mem_of_getElem? (i := 2) rfl)) (fun _ h9 => h9) rfl dX1_advance_17 ?_
  refine lv_iload_n hx hb dX1_advance_20 rfl (lv_at hl 0 rfl) ?_
  refine cutW (σ := Unit) (pc2 := 59) (st2 := fun v => []) (cells2 := 0) (slots2 := 0) (fun v H locs ls => va_P (dC, dI) vwCl [(rd, .inr (0, [.ref tp, .ref sc, .int xf, .int xp, .int xt, .int xa, .int y_670, .int xv, .int xj])), (tp, .inr (6, [.ref tb, .int ts])), (tb, .inl (cB, 1200, .inl fb))] H ∧ va_D A [(rd, .inr (0, [.ref tp, .ref sc, .int xf, .int xp, .int xt, .int xa, .int y_670, .int xv, .int xj])), (tp, .inr (6, [.ref tb, .int ts])), (tb, .inl (cB, 1200, .inl fb))] ∧ va_S A s.heap H locs ∧ lv_has ls 3 [(2, .int ts), (1, .ref tb), (0, .ref rd)]) (fun v H locs ls hI => ?_) (fun hj_59_844 => ?_)
  ·
    obtain ⟨hP, hD, hS, hl⟩ := hI
    have hP : va_P (dC, dI) vwCl [(rd, .inr (0, [.ref tp, .ref sc, .int xf, .int xp, .int xt, .int xa, .int y_670, .int xv, .int xj])), (tp, .inr (6, [.ref tb, .int ts])), (tb, .inl (cB, 1200, .inl fb))] H := hP
    have hD : va_D A [(rd, .inr (0, [.ref tp, .ref sc, .int xf, .int xp, .int xt, .int xa, .int y_670, .int xv, .int xj])), (tp, .inr (6, [.ref tb, .int ts])), (tb, .inl (cB, 1200, .inl fb))] := hD
    have hl : lv_has ls 3 [(2, .int ts), (1, .ref tb), (0, .ref rd)] := hl
    refine lv_aload_n hx hb dX1_advance_59 rfl (lv_at hl 2 rfl) ?_
    refine lv_aload_n hx hb dX1_advance_60 rfl (lv_at hl 2 rfl) ?_
    refine va_get (D := (dC, dI)) (ci := 0) (v := .int y_670) (C := RX1) (T := TX1) (N := 9) hx hb hts iX1_advance_X1 hown hK hP 0 rfl rfl 6 (by decide) (hts (.fieldLink RX1 26 "LuckyTicket$Reader" "stop" "I") (List.mem_of_getElem? (i := 2) rfl)) (fun _ h9 => h9) rfl dX1_advance_61 ?_
    refine va_put (D := (dC, dI)) (ci := 0) (v := .int y_670) (ty := .int) (C := RX1) (T := TX1) (N := 9) hx hb hts iX1_advance_X1 tyX1 tyX1_ok nmX1 hown hK hP hD hS 0 rfl rfl 5 (by decide) (hts (.fieldLink RX1 178 "LuckyTicket$Reader" "start" "I") (List.mem_of_getElem? (i := 3) rfl)) (fun _ h9 => h9) rfl (by decide +kernel) rfl rfl (Nat.le_of_ble_eq_true rfl) dX1_advance_64 (fun H locs hP hD hS => ?_)
    have hP : va_P (dC, dI) vwCl [(rd, .inr (0, [.ref tp, .ref sc, .int xf, .int xp, .int xt, .int y_670, .int y_670, .int xv, .int xj])), (tp, .inr (6, [.ref tb, .int ts])), (tb, .inl (cB, 1200, .inl fb))] H := hP
    have hD : va_D A [(rd, .inr (0, [.ref tp, .ref sc, .int xf, .int xp, .int xt, .int y_670, .int y_670, .int xv, .int xj])), (tp, .inr (6, [.ref tb, .int ts])), (tb, .inl (cB, 1200, .inl fb))] := hD
    refine lv_aload_n hx hb dX1_advance_67 rfl (lv_at hl 2 rfl) ?_
    refine lv_iconst (v := 0) hx hb dX1_advance_68 (by decide) ?_
    refine va_put (D := (dC, dI)) (ci := 0) (v := .int 0) (ty := .int) (C := RX1) (T := TX1) (N := 9) hx hb hts iX1_advance_X1 tyX1 tyX1_ok nmX1 hown hK hP hD hS 0 rfl rfl 7 (by decide) (hts (.fieldLink RX1 172 "LuckyTicket$Reader" "value" "I") (List.mem_of_getElem? (i := 4) rfl)) (fun _ h9 => h9) rfl (by decide +kernel) rfl rfl (Nat.le_of_ble_eq_true rfl) dX1_advance_69 (fun H locs hP hD hS => ?_)
    have hP : va_P (dC, dI) vwCl [(rd, .inr (0, [.ref tp, .ref sc, .int xf, .int xp, .int xt, .int y_670, .int y_670, .int 0, .int xj])), (tp, .inr (6, [.ref tb, .int ts])), (tb, .inl (cB, 1200, .inl fb))] H := hP
    have hD : va_D A [(rd, .inr (0, [.ref tp, .ref sc, .int xf, .int xp, .int xt, .int y_670, .int y_670, .int 0, .int xj])), (tp, .inr (6, [.ref tb, .int ts])), (tb, .inl (cB, 1200, .inl fb))] := hD
    refine lv_aload_n hx hb dX1_advance_72 rfl (lv_at hl 2 rfl) ?_
    refine va_get (D := (dC, dI)) (ci := 0) (v := .int y_670) (C := RX1) (T := TX1) (N := 9) hx hb hts iX1_advance_X1 hown hK hP 0 rfl rfl 5 (by decide) (hts (.fieldLink RX1 178 "LuckyTicket$Reader" "start" "I") (List.mem_of_getElem? (i := 3) rfl)) (fun _ h9 => h9) rfl dX1_advance_73 ?_
    refine lv_iload_n hx hb dX1_advance_76 rfl (lv_at hl 0 rfl) ?_
    refine lv_icmp_lt (tgt := 88) hx hb dX1_advance_77 (by decide) (fun c_845 => ?_) (fun c_845 => ?_)
    ·
      have n_c_845 : (y_670.toInt : Int) < ts.toInt := c_lt rfl rfl c_845
      have b_y_670 : (0 : Int) ≤ y_670.toInt ∧ y_670.toInt ≤ 1199 := r_lt1 b_y_670 b_ts n_c_845 (by decide)
      have b_ts : (1 : Int) ≤ ts.toInt ∧ ts.toInt ≤ 1200 := r_lt2 b_y_670 b_ts n_c_845 (by decide)
      refine lv_aload_n hx hb dX1_advance_88 rfl (lv_at hl 1 rfl) ?_
      refine lv_aload_n hx hb dX1_advance_89 rfl (lv_at hl 2 rfl) ?_
      refine va_get (D := (dC, dI)) (ci := 0) (v := .int y_670) (C := RX1) (T := TX1) (N := 9) hx hb hts iX1_advance_X1 hown hK hP 0 rfl rfl 5 (by decide) (hts (.fieldLink RX1 178 "LuckyTicket$Reader" "start" "I") (List.mem_of_getElem? (i := 3) rfl)) (fun _ h9 => h9) rfl dX1_advance_90 ?_
      refine va_bald hx hb hK hP 2 0 rfl rfl (vp_in_b b_y_670 (by decide) (by decide)) dX1_advance_93 ?_
      refine lv_topi (fun z_846 e_z_846 => ?_)
      refine lv_bipush (v := 97) hx hb dX1_advance_94 (by decide) ?_
      refine lv_icmp_lt (tgt := 158) hx hb dX1_advance_96 (by decide) (fun c_847 => ?_) (fun c_847 => ?_)
      ·
        have n_c_847 : (z_846.toInt : Int) < 97 := c_lt rfl (by decide) c_847
        have b_z_846 : (-2147483648 : Int) ≤ z_846.toInt ∧ z_846.toInt ≤ 96 := r_lt1 (ti_rng z_846) (by decide : (97 : Int) ≤ (97 : Int32).toInt ∧ (97 : Int32).toInt ≤ 97) n_c_847 (by decide)
        refine lv_aload_n hx hb dX1_advance_158 rfl (lv_at hl 1 rfl) ?_
        refine lv_aload_n hx hb dX1_advance_159 rfl (lv_at hl 2 rfl) ?_
        refine va_get (D := (dC, dI)) (ci := 0) (v := .int y_670) (C := RX1) (T := TX1) (N := 9) hx hb hts iX1_advance_X1 hown hK hP 0 rfl rfl 5 (by decide) (hts (.fieldLink RX1 178 "LuckyTicket$Reader" "start" "I") (List.mem_of_getElem? (i := 3) rfl)) (fun _ h9 => h9) rfl dX1_advance_160 ?_
        refine va_bald hx hb hK hP 2 0 rfl rfl (vp_in_b b_y_670 (by decide) (by decide)) dX1_advance_163 ?_
        refine lv_topi (fun z_848 e_z_848 => ?_)
        refine lv_bipush (v := 48) hx hb dX1_advance_164 (by decide) ?_
        refine lv_icmp_lt (tgt := 266) hx hb dX1_advance_166 (by decide) (fun c_849 => ?_) (fun c_849 => ?_)
        ·
          have n_c_849 : (z_848.toInt : Int) < 48 := c_lt rfl (by decide) c_849
          have b_z_848 : (-2147483648 : Int) ≤ z_848.toInt ∧ z_848.toInt ≤ 47 := r_lt1 (ti_rng z_848) (by decide : (48 : Int) ≤ (48 : Int32).toInt ∧ (48 : Int32).toInt ≤ 48) n_c_849 (by decide)
          refine lv_aload_n hx hb dX1_advance_266 rfl (lv_at hl 2 rfl) ?_
          refine lv_aload_n hx hb dX1_advance_267 rfl (lv_at hl 1 rfl) ?_
          refine lv_aload_n hx hb dX1_advance_268 rfl (lv_at hl 2 rfl) ?_
          refine va_get (D := (dC, dI)) (ci := 0) (v := .int y_670) (C := RX1) (T := TX1) (N := 9) hx hb hts iX1_advance_X1 hown hK hP 0 rfl rfl 5 (by decide) (hts (.fieldLink RX1 178 "LuckyTicket$Reader" "start" "I") (List.mem_of_getElem? (i := 3) rfl)) (fun _ h9 => h9) rfl dX1_advance_269 ?_
          refine va_bald hx hb hK hP 2 0 rfl rfl (vp_in_b b_y_670 (by decide) (by decide)) dX1_advance_272 ?_
          refine lv_topi (fun z_850 e_z_850 => ?_)
          refine va_put (D := (dC, dI)) (ci := 0) (v := .int z_850) (ty := .int) (C := RX1) (T := TX1) (N := 9) hx hb hts iX1_advance_X1 tyX1 tyX1_ok nmX1 hown hK hP hD hS 0 rfl rfl 7 (by decide) (hts (.fieldLink RX1 172 "LuckyTicket$Reader" "value" "I") (List.mem_of_getElem? (i := 4) rfl)) (fun _ h9 => h9) rfl (by decide +kernel) rfl rfl (Nat.le_of_ble_eq_true rfl) dX1_advance_273 (fun H locs hP hD hS => ?_)
          have hP : va_P (dC, dI) vwCl [(rd, .inr (0, [.ref tp, .ref sc, .int xf, .int xp, .int xt, .int y_670, .int y_670, .int z_850, .int xj])), (tp, .inr (6, [.ref tb, .int ts])), (tb, .inl (cB, 1200, .inl fb))] H := hP
          have hD : va_D A [(rd, .inr (0, [.ref tp, .ref sc, .int xf, .int xp, .int xt, .int y_670, .int y_670, .int z_850, .int xj])), (tp, .inr (6, [.ref tb, .int ts])), (tb, .inl (cB, 1200, .inl fb))] := hD
          refine lv_aload_n hx hb dX1_advance_276 rfl (lv_at hl 2 rfl) ?_
          refine lv_aload_n hx hb dX1_advance_277 rfl (lv_at hl 2 rfl) ?_
          refine va_get (D := (dC, dI)) (ci := 0) (v := .int z_850) (C := RX1) (T := TX1) (N := 9) hx hb hts iX1_advance_X1 hown hK hP 0 rfl rfl 7 (by decide) (hts (.fieldLink RX1 172 "LuckyTicket$Reader" "value" "I") (List.mem_of_getElem? (i := 4) rfl)) (fun _ h9 => h9) rfl dX1_advance_278 ?_
          refine lv_bipush (v := 59) hx hb dX1_advance_281 (by decide) ?_
          refine cutW (σ := Int32) (pc2 := 309) (st2 := fun v => [.int v, .ref rd]) (cells2 := 0) (slots2 := 0) (fun v H locs ls => ((3 : Int) ≤ v.toInt ∧ v.toInt ≤ 4) ∧ va_P (dC, dI) vwCl [(rd, .inr (0, [.ref tp, .ref sc, .int xf, .int xp, .int xt, .int y_670, .int y_670, .int z_850, .int xj])), (tp, .inr (6, [.ref tb, .int ts])), (tb, .inl (cB, 1200, .inl fb))] H ∧ va_D A [(rd, .inr (0, [.ref tp, .ref sc, .int xf, .int xp, .int xt, .int y_670, .int y_670, .int z_850, .int xj])), (tp, .inr (6, [.ref tb, .int ts])), (tb, .inl (cB, 1200, .inl fb))] ∧ va_S A s.heap H locs ∧ lv_has ls 3 [(2, .int ts), (1, .ref tb), (0, .ref rd)]) (fun v H locs ls hI => ?_) (fun hj_309_854 => ?_)
          ·
            obtain ⟨y_854, rfl⟩ : ∃ z, z = v := ⟨_, rfl⟩
            obtain ⟨b_y_854, hP, hD, hS, hl⟩ := hI
            have b_y_854 : (3 : Int) ≤ y_854.toInt ∧ y_854.toInt ≤ 4 := b_y_854
            have hP : va_P (dC, dI) vwCl [(rd, .inr (0, [.ref tp, .ref sc, .int xf, .int xp, .int xt, .int y_670, .int y_670, .int z_850, .int xj])), (tp, .inr (6, [.ref tb, .int ts])), (tb, .inl (cB, 1200, .inl fb))] H := hP
            have hD : va_D A [(rd, .inr (0, [.ref tp, .ref sc, .int xf, .int xp, .int xt, .int y_670, .int y_670, .int z_850, .int xj])), (tp, .inr (6, [.ref tb, .int ts])), (tb, .inl (cB, 1200, .inl fb))] := hD
            have hl : lv_has ls 3 [(2, .int ts), (1, .ref tb), (0, .ref rd)] := hl
            refine va_put (D := (dC, dI)) (ci := 0) (v := .int y_854) (ty := .int) (C := RX1) (T := TX1) (N := 9) hx hb hts iX1_advance_X1 tyX1 tyX1_ok nmX1 hown hK hP hD hS 0 rfl rfl 4 (by decide) (hts (.fieldLink RX1 39 "LuckyTicket$Reader" "token" "I") (List.mem_of_getElem? (i := 5) rfl)) (fun _ h9 => h9) rfl (by decide +kernel) rfl rfl (Nat.le_of_ble_eq_true rfl) dX1_advance_309 (fun H locs hP hD hS => ?_)
            have hP : va_P (dC, dI) vwCl [(rd, .inr (0, [.ref tp, .ref sc, .int xf, .int xp, .int y_854, .int y_670, .int y_670, .int z_850, .int xj])), (tp, .inr (6, [.ref tb, .int ts])), (tb, .inl (cB, 1200, .inl fb))] H := hP
            have hD : va_D A [(rd, .inr (0, [.ref tp, .ref sc, .int xf, .int xp, .int y_854, .int y_670, .int y_670, .int z_850, .int xj])), (tp, .inr (6, [.ref tb, .int ts])), (tb, .inl (cB, 1200, .inl fb))] := hD
            refine lv_aload_n hx hb dX1_advance_312 rfl (lv_at hl 2 rfl) ?_
            refine lv_dup hx hb dX1_advance_313 rfl ?_
            refine va_get (D := (dC, dI)) (ci := 0) (v := .int y_670) (C := RX1) (T := TX1) (N := 9) hx hb hts iX1_advance_X1 hown hK hP 0 rfl rfl 6 (by decide) (hts (.fieldLink RX1 26 "LuckyTicket$Reader" "stop" "I") (List.mem_of_getElem? (i := 2) rfl)) (fun _ h9 => h9) rfl dX1_advance_314 ?_
            refine lv_iconst (v := 1) hx hb dX1_advance_317 (by decide) ?_
            refine lv_iadd hx hb dX1_advance_318 ?_
            refine lv_topi (fun z_855 e_z_855 => ?_)
            obtain ⟨q_z_855, b_z_855⟩ := ti_add (lo := 1) (hi := 1200) e_z_855 rfl (by decide : (1 : Int32).toInt = 1) b_y_670 (by decide : (1 : Int) ≤ (1 : Int32).toInt ∧ (1 : Int32).toInt ≤ 1) (by decide)
            refine va_put (D := (dC, dI)) (ci := 0) (v := .int z_855) (ty := .int) (C := RX1) (T := TX1) (N := 9) hx hb hts iX1_advance_X1 tyX1 tyX1_ok nmX1 hown hK hP hD hS 0 rfl rfl 6 (by decide) (hts (.fieldLink RX1 26 "LuckyTicket$Reader" "stop" "I") (List.mem_of_getElem? (i := 2) rfl)) (fun _ h9 => h9) rfl (by decide +kernel) rfl rfl (Nat.le_of_ble_eq_true rfl) dX1_advance_319 (fun H locs hP hD hS => ?_)
            have hP : va_P (dC, dI) vwCl [(rd, .inr (0, [.ref tp, .ref sc, .int xf, .int xp, .int y_854, .int y_670, .int z_855, .int z_850, .int xj])), (tp, .inr (6, [.ref tb, .int ts])), (tb, .inl (cB, 1200, .inl fb))] H := hP
            have hD : va_D A [(rd, .inr (0, [.ref tp, .ref sc, .int xf, .int xp, .int y_854, .int y_670, .int z_855, .int z_850, .int xj])), (tp, .inr (6, [.ref tb, .int ts])), (tb, .inl (cB, 1200, .inl fb))] := hD
            have hP9 := hP.sub (ws' := [(rd, .inr (0, [.ref tp, .ref sc, .int xf, .int xp, .int y_854, .int y_670, .int z_855, .int z_850, .int xj])), (tp, .inr (6, [.ref tb, .int ts])), (tb, .inl (cB, 1200, .inl fb))]) [0, 1, 2] rfl
            have hD9 := hD.sub (ws' := [(rd, .inr (0, [.ref tp, .ref sc, .int xf, .int xp, .int y_854, .int y_670, .int z_855, .int z_850, .int xj])), (tp, .inr (6, [.ref tb, .int ts])), (tb, .inl (cB, 1200, .inl fb))]) [0, 1, 2] (by decide) rfl
            have hK9 := hK.sub (tys' := [(cB, .byte)]) [0] rfl
            exact W.vret hx hb hr (fun t ht hW => ⟨⟨(), rfl, trivial, y_854, y_670, z_855, z_850, (rg_w b_y_854 (by decide) (by decide)), (rg_w b_y_670 (by decide) (by decide)), (rg_w b_z_855 (by decide) (by decide)), (by omega), by rw [ht]; exact hP9, va_K.moved hW.alike hK9, hD9⟩, hS.F ht⟩) hS.2.2 dX1_advance_322
          ·
            refine lv_icmp_eq (tgt := 304) hx hb dX1_advance_283 (by decide) (fun c_851 => ?_) (fun c_851 => ?_)
            ·
              have n_c_851 : (z_850.toInt : Int) = 59 := c_eq rfl (by decide) c_851
              have b_z_850 : (59 : Int) ≤ z_850.toInt ∧ z_850.toInt ≤ 59 := r_eq1 (ti_rng z_850) (by decide : (59 : Int) ≤ (59 : Int32).toInt ∧ (59 : Int32).toInt ≤ 59) n_c_851 (by decide)
              refine lv_iconst (v := 3) hx hb dX1_advance_304 (by decide) ?_
              refine lv_goto (tgt := 309) hx hb dX1_advance_305 (by decide) ?_
              exact hj_309_854 (3 : Int32) _ _ _ ⟨(show (3 : Int) ≤ (3 : Int32).toInt ∧ (3 : Int32).toInt ≤ 4 from (rg_w (by decide : (3 : Int) ≤ (3 : Int32).toInt ∧ (3 : Int32).toInt ≤ 3) (by decide) (by decide))), hP, hD, hS, lv_sub hl [0, 1, 2] rfl⟩
            ·
              have n_c_851 : (z_850.toInt : Int) ≠ 59 := c_ne rfl (by decide) c_851
              refine lv_aload_n hx hb dX1_advance_286 rfl (lv_at hl 2 rfl) ?_
              refine va_get (D := (dC, dI)) (ci := 0) (v := .int z_850) (C := RX1) (T := TX1) (N := 9) hx hb hts iX1_advance_X1 hown hK hP 0 rfl rfl 7 (by decide) (hts (.fieldLink RX1 172 "LuckyTicket$Reader" "value" "I") (List.mem_of_getElem? (i := 4) rfl)) (fun _ h9 => h9) rfl dX1_advance_287 ?_
              refine lv_bipush (v := 40) hx hb dX1_advance_290 (by decide) ?_
              refine lv_icmp_eq (tgt := 304) hx hb dX1_advance_292 (by decide) (fun c_856 => ?_) (fun c_856 => ?_)
              ·
                have n_c_856 : (z_850.toInt : Int) = 40 := c_eq rfl (by decide) c_856
                have b_z_850 : (40 : Int) ≤ z_850.toInt ∧ z_850.toInt ≤ 40 := r_eq1 (ti_rng z_850) (by decide : (40 : Int) ≤ (40 : Int32).toInt ∧ (40 : Int32).toInt ≤ 40) n_c_856 (by decide)
                refine lv_iconst (v := 3) hx hb dX1_advance_304 (by decide) ?_
                refine lv_goto (tgt := 309) hx hb dX1_advance_305 (by decide) ?_
                exact hj_309_854 (3 : Int32) _ _ _ ⟨(show (3 : Int) ≤ (3 : Int32).toInt ∧ (3 : Int32).toInt ≤ 4 from (rg_w (by decide : (3 : Int) ≤ (3 : Int32).toInt ∧ (3 : Int32).toInt ≤ 3) (by decide) (by decide))), hP, hD, hS, lv_sub hl [0, 1, 2] rfl⟩
              ·
                have n_c_856 : (z_850.toInt : Int) ≠ 40 := c_ne rfl (by decide) c_856
                refine lv_aload_n hx hb dX1_advance_295 rfl (lv_at hl 2 rfl) ?_
                refine va_get (D := (dC, dI)) (ci := 0) (v := .int z_850) (C := RX1) (T := TX1) (N := 9) hx hb hts iX1_advance_X1 hown hK hP 0 rfl rfl 7 (by decide) (hts (.fieldLink RX1 172 "LuckyTicket$Reader" "value" "I") (List.mem_of_getElem? (i := 4) rfl)) (fun _ h9 => h9) rfl dX1_advance_296 ?_
                refine lv_bipush (v := 41) hx hb dX1_advance_299 (by decide) ?_
                refine lv_icmp_ne (tgt := 308) hx hb dX1_advance_301 (by decide) (fun c_857 => ?_) (fun c_857 => ?_)
                ·
                  have n_c_857 : (z_850.toInt : Int) ≠ 41 := c_ne rfl (by decide) c_857
                  refine lv_iconst (v := 4) hx hb dX1_advance_308 (by decide) ?_
                  exact hj_309_854 (4 : Int32) _ _ _ ⟨(show (3 : Int) ≤ (4 : Int32).toInt ∧ (4 : Int32).toInt ≤ 4 from (rg_w (by decide : (4 : Int) ≤ (4 : Int32).toInt ∧ (4 : Int32).toInt ≤ 4) (by decide) (by decide))), hP, hD, hS, lv_sub hl [0, 1, 2] rfl⟩
                ·
                  have n_c_857 : (z_850.toInt : Int) = 41 := c_eq rfl (by decide) c_857
                  have b_z_850 : (41 : Int) ≤ z_850.toInt ∧ z_850.toInt ≤ 41 := r_eq1 (ti_rng z_850) (by decide : (41 : Int) ≤ (41 : Int32).toInt ∧ (41 : Int32).toInt ≤ 41) n_c_857 (by decide)
                  refine lv_iconst (v := 3) hx hb dX1_advance_304 (by decide) ?_
                  refine lv_goto (tgt := 309) hx hb dX1_advance_305 (by decide) ?_
                  exact hj_309_854 (3 : Int32) _ _ _ ⟨(show (3 : Int) ≤ (3 : Int32).toInt ∧ (3 : Int32).toInt ≤ 4 from (rg_w (by decide : (3 : Int) ≤ (3 : Int32).toInt ∧ (3 : Int32).toInt ≤ 3) (by decide) (by decide))), hP, hD, hS, lv_sub hl [0, 1, 2] rfl⟩
        ·
          have n_c_849 : (48 : Int) ≤ z_848.toInt := c_nlt rfl (by decide) c_849
          have b_z_848 : (48 : Int) ≤ z_848.toInt ∧ z_848.toInt ≤ 2147483647 := r_le2 (by decide : (48 : Int) ≤ (48 : Int32).toInt ∧ (48 : Int32).toInt ≤ 48) (ti_rng z_848) n_c_849 (by decide)
          refine lv_aload_n hx hb dX1_advance_169 rfl (lv_at hl 1 rfl) ?_
          refine lv_aload_n hx hb dX1_advance_170 rfl (lv_at hl 2 rfl) ?_
          refine va_get (D := (dC, dI)) (ci := 0) (v := .int y_670) (C := RX1) (T := TX1) (N := 9) hx hb hts iX1_advance_X1 hown hK hP 0 rfl rfl 5 (by decide) (hts (.fieldLink RX1 178 "LuckyTicket$Reader" "start" "I") (List.mem_of_getElem? (i := 3) rfl)) (fun _ h9 => h9) rfl dX1_advance_171 ?_
          refine va_bald hx hb hK hP 2 0 rfl rfl (vp_in_b b_y_670 (by decide) (by decide)) dX1_advance_174 ?_
          refine lv_topi (fun z_858 e_z_858 => ?_)
          refine lv_bipush (v := 57) hx hb dX1_advance_175 (by decide) ?_
          refine lv_icmp_gt (tgt := 266) hx hb dX1_advance_177 (by decide) (fun c_859 => ?_) (fun c_859 => ?_)
          ·
            have n_c_859 : (57 : Int) < z_858.toInt := c_gt rfl (by decide) c_859
            have b_z_858 : (58 : Int) ≤ z_858.toInt ∧ z_858.toInt ≤ 2147483647 := r_lt2 (by decide : (57 : Int) ≤ (57 : Int32).toInt ∧ (57 : Int32).toInt ≤ 57) (ti_rng z_858) n_c_859 (by decide)
            refine lv_aload_n hx hb dX1_advance_266 rfl (lv_at hl 2 rfl) ?_
            refine lv_aload_n hx hb dX1_advance_267 rfl (lv_at hl 1 rfl) ?_
            refine lv_aload_n hx hb dX1_advance_268 rfl (lv_at hl 2 rfl) ?_
            refine va_get (D := (dC, dI)) (ci := 0) (v := .int y_670) (C := RX1) (T := TX1) (N := 9) hx hb hts iX1_advance_X1 hown hK hP 0 rfl rfl 5 (by decide) (hts (.fieldLink RX1 178 "LuckyTicket$Reader" "start" "I") (List.mem_of_getElem? (i := 3) rfl)) (fun _ h9 => h9) rfl dX1_advance_269 ?_
            refine va_bald hx hb hK hP 2 0 rfl rfl (vp_in_b b_y_670 (by decide) (by decide)) dX1_advance_272 ?_
            refine lv_topi (fun z_860 e_z_860 => ?_)
            refine va_put (D := (dC, dI)) (ci := 0) (v := .int z_860) (ty := .int) (C := RX1) (T := TX1) (N := 9) hx hb hts iX1_advance_X1 tyX1 tyX1_ok nmX1 hown hK hP hD hS 0 rfl rfl 7 (by decide) (hts (.fieldLink RX1 172 "LuckyTicket$Reader" "value" "I") (List.mem_of_getElem? (i := 4) rfl)) (fun _ h9 => h9) rfl (by decide +kernel) rfl rfl (Nat.le_of_ble_eq_true rfl) dX1_advance_273 (fun H locs hP hD hS => ?_)
            have hP : va_P (dC, dI) vwCl [(rd, .inr (0, [.ref tp, .ref sc, .int xf, .int xp, .int xt, .int y_670, .int y_670, .int z_860, .int xj])), (tp, .inr (6, [.ref tb, .int ts])), (tb, .inl (cB, 1200, .inl fb))] H := hP
            have hD : va_D A [(rd, .inr (0, [.ref tp, .ref sc, .int xf, .int xp, .int xt, .int y_670, .int y_670, .int z_860, .int xj])), (tp, .inr (6, [.ref tb, .int ts])), (tb, .inl (cB, 1200, .inl fb))] := hD
            refine lv_aload_n hx hb dX1_advance_276 rfl (lv_at hl 2 rfl) ?_
            refine lv_aload_n hx hb dX1_advance_277 rfl (lv_at hl 2 rfl) ?_
            refine va_get (D := (dC, dI)) (ci := 0) (v := .int z_860) (C := RX1) (T := TX1) (N := 9) hx hb hts iX1_advance_X1 hown hK hP 0 rfl rfl 7 (by decide) (hts (.fieldLink RX1 172 "LuckyTicket$Reader" "value" "I") (List.mem_of_getElem? (i := 4) rfl)) (fun _ h9 => h9) rfl dX1_advance_278 ?_
            refine lv_bipush (v := 59) hx hb dX1_advance_281 (by decide) ?_
            refine cutW (σ := Int32) (pc2 := 309) (st2 := fun v => [.int v, .ref rd]) (cells2 := 0) (slots2 := 0) (fun v H locs ls => ((3 : Int) ≤ v.toInt ∧ v.toInt ≤ 4) ∧ va_P (dC, dI) vwCl [(rd, .inr (0, [.ref tp, .ref sc, .int xf, .int xp, .int xt, .int y_670, .int y_670, .int z_860, .int xj])), (tp, .inr (6, [.ref tb, .int ts])), (tb, .inl (cB, 1200, .inl fb))] H ∧ va_D A [(rd, .inr (0, [.ref tp, .ref sc, .int xf, .int xp, .int xt, .int y_670, .int y_670, .int z_860, .int xj])), (tp, .inr (6, [.ref tb, .int ts])), (tb, .inl (cB, 1200, .inl fb))] ∧ va_S A s.heap H locs ∧ lv_has ls 3 [(2, .int ts), (1, .ref tb), (0, .ref rd)]) (fun v H locs ls hI => ?_) (fun hj_309_864 => ?_)
            ·
              obtain ⟨y_864, rfl⟩ : ∃ z, z = v := ⟨_, rfl⟩
              obtain ⟨b_y_864, hP, hD, hS, hl⟩ := hI
              have b_y_864 : (3 : Int) ≤ y_864.toInt ∧ y_864.toInt ≤ 4 := b_y_864
              have hP : va_P (dC, dI) vwCl [(rd, .inr (0, [.ref tp, .ref sc, .int xf, .int xp, .int xt, .int y_670, .int y_670, .int z_860, .int xj])), (tp, .inr (6, [.ref tb, .int ts])), (tb, .inl (cB, 1200, .inl fb))] H := hP
              have hD : va_D A [(rd, .inr (0, [.ref tp, .ref sc, .int xf, .int xp, .int xt, .int y_670, .int y_670, .int z_860, .int xj])), (tp, .inr (6, [.ref tb, .int ts])), (tb, .inl (cB, 1200, .inl fb))] := hD
              have hl : lv_has ls 3 [(2, .int ts), (1, .ref tb), (0, .ref rd)] := hl
              refine va_put (D := (dC, dI)) (ci := 0) (v := .int y_864) (ty := .int) (C := RX1) (T := TX1) (N := 9) hx hb hts iX1_advance_X1 tyX1 tyX1_ok nmX1 hown hK hP hD hS 0 rfl rfl 4 (by decide) (hts (.fieldLink RX1 39 "LuckyTicket$Reader" "token" "I") (List.mem_of_getElem? (i := 5) rfl)) (fun _ h9 => h9) rfl (by decide +kernel) rfl rfl (Nat.le_of_ble_eq_true rfl) dX1_advance_309 (fun H locs hP hD hS => ?_)
              have hP : va_P (dC, dI) vwCl [(rd, .inr (0, [.ref tp, .ref sc, .int xf, .int xp, .int y_864, .int y_670, .int y_670, .int z_860, .int xj])), (tp, .inr (6, [.ref tb, .int ts])), (tb, .inl (cB, 1200, .inl fb))] H := hP
              have hD : va_D A [(rd, .inr (0, [.ref tp, .ref sc, .int xf, .int xp, .int y_864, .int y_670, .int y_670, .int z_860, .int xj])), (tp, .inr (6, [.ref tb, .int ts])), (tb, .inl (cB, 1200, .inl fb))] := hD
              refine lv_aload_n hx hb dX1_advance_312 rfl (lv_at hl 2 rfl) ?_
              refine lv_dup hx hb dX1_advance_313 rfl ?_
              refine va_get (D := (dC, dI)) (ci := 0) (v := .int y_670) (C := RX1) (T := TX1) (N := 9) hx hb hts iX1_advance_X1 hown hK hP 0 rfl rfl 6 (by decide) (hts (.fieldLink RX1 26 "LuckyTicket$Reader" "stop" "I") (List.mem_of_getElem? (i := 2) rfl)) (fun _ h9 => h9) rfl dX1_advance_314 ?_
              refine lv_iconst (v := 1) hx hb dX1_advance_317 (by decide) ?_
              refine lv_iadd hx hb dX1_advance_318 ?_
              refine lv_topi (fun z_865 e_z_865 => ?_)
              obtain ⟨q_z_865, b_z_865⟩ := ti_add (lo := 1) (hi := 1200) e_z_865 rfl (by decide : (1 : Int32).toInt = 1) b_y_670 (by decide : (1 : Int) ≤ (1 : Int32).toInt ∧ (1 : Int32).toInt ≤ 1) (by decide)
              refine va_put (D := (dC, dI)) (ci := 0) (v := .int z_865) (ty := .int) (C := RX1) (T := TX1) (N := 9) hx hb hts iX1_advance_X1 tyX1 tyX1_ok nmX1 hown hK hP hD hS 0 rfl rfl 6 (by decide) (hts (.fieldLink RX1 26 "LuckyTicket$Reader" "stop" "I") (List.mem_of_getElem? (i := 2) rfl)) (fun _ h9 => h9) rfl (by decide +kernel) rfl rfl (Nat.le_of_ble_eq_true rfl) dX1_advance_319 (fun H locs hP hD hS => ?_)
              have hP : va_P (dC, dI) vwCl [(rd, .inr (0, [.ref tp, .ref sc, .int xf, .int xp, .int y_864, .int y_670, .int z_865, .int z_860, .int xj])), (tp, .inr (6, [.ref tb, .int ts])), (tb, .inl (cB, 1200, .inl fb))] H := hP
              have hD : va_D A [(rd, .inr (0, [.ref tp, .ref sc, .int xf, .int xp, .int y_864, .int y_670, .int z_865, .int z_860, .int xj])), (tp, .inr (6, [.ref tb, .int ts])), (tb, .inl (cB, 1200, .inl fb))] := hD
              have hP9 := hP.sub (ws' := [(rd, .inr (0, [.ref tp, .ref sc, .int xf, .int xp, .int y_864, .int y_670, .int z_865, .int z_860, .int xj])), (tp, .inr (6, [.ref tb, .int ts])), (tb, .inl (cB, 1200, .inl fb))]) [0, 1, 2] rfl
              have hD9 := hD.sub (ws' := [(rd, .inr (0, [.ref tp, .ref sc, .int xf, .int xp, .int y_864, .int y_670, .int z_865, .int z_860, .int xj])), (tp, .inr (6, [.ref tb, .int ts])), (tb, .inl (cB, 1200, .inl fb))]) [0, 1, 2] (by decide) rfl
              have hK9 := hK.sub (tys' := [(cB, .byte)]) [0] rfl
              exact W.vret hx hb hr (fun t ht hW => ⟨⟨(), rfl, trivial, y_864, y_670, z_865, z_860, (rg_w b_y_864 (by decide) (by decide)), (rg_w b_y_670 (by decide) (by decide)), (rg_w b_z_865 (by decide) (by decide)), (by omega), by rw [ht]; exact hP9, va_K.moved hW.alike hK9, hD9⟩, hS.F ht⟩) hS.2.2 dX1_advance_322
            ·
              refine lv_icmp_eq (tgt := 304) hx hb dX1_advance_283 (by decide) (fun c_861 => ?_) (fun c_861 => ?_)
              ·
                have n_c_861 : (z_860.toInt : Int) = 59 := c_eq rfl (by decide) c_861
                have b_z_860 : (59 : Int) ≤ z_860.toInt ∧ z_860.toInt ≤ 59 := r_eq1 (ti_rng z_860) (by decide : (59 : Int) ≤ (59 : Int32).toInt ∧ (59 : Int32).toInt ≤ 59) n_c_861 (by decide)
                refine lv_iconst (v := 3) hx hb dX1_advance_304 (by decide) ?_
                refine lv_goto (tgt := 309) hx hb dX1_advance_305 (by decide) ?_
                exact hj_309_864 (3 : Int32) _ _ _ ⟨(show (3 : Int) ≤ (3 : Int32).toInt ∧ (3 : Int32).toInt ≤ 4 from (rg_w (by decide : (3 : Int) ≤ (3 : Int32).toInt ∧ (3 : Int32).toInt ≤ 3) (by decide) (by decide))), hP, hD, hS, lv_sub hl [0, 1, 2] rfl⟩
              ·
                have n_c_861 : (z_860.toInt : Int) ≠ 59 := c_ne rfl (by decide) c_861
                refine lv_aload_n hx hb dX1_advance_286 rfl (lv_at hl 2 rfl) ?_
                refine va_get (D := (dC, dI)) (ci := 0) (v := .int z_860) (C := RX1) (T := TX1) (N := 9) hx hb hts iX1_advance_X1 hown hK hP 0 rfl rfl 7 (by decide) (hts (.fieldLink RX1 172 "LuckyTicket$Reader" "value" "I") (List.mem_of_getElem? (i := 4) rfl)) (fun _ h9 => h9) rfl dX1_advance_287 ?_
                refine lv_bipush (v := 40) hx hb dX1_advance_290 (by decide) ?_
                refine lv_icmp_eq (tgt := 304) hx hb dX1_advance_292 (by decide) (fun c_866 => ?_) (fun c_866 => ?_)
                ·
                  have n_c_866 : (z_860.toInt : Int) = 40 := c_eq rfl (by decide) c_866
                  have b_z_860 : (40 : Int) ≤ z_860.toInt ∧ z_860.toInt ≤ 40 := r_eq1 (ti_rng z_860) (by decide : (40 : Int) ≤ (40 : Int32).toInt ∧ (40 : Int32).toInt ≤ 40) n_c_866 (by decide)
                  refine lv_iconst (v := 3) hx hb dX1_advance_304 (by decide) ?_
                  refine lv_goto (tgt := 309) hx hb dX1_advance_305 (by decide) ?_
                  exact hj_309_864 (3 : Int32) _ _ _ ⟨(show (3 : Int) ≤ (3 : Int32).toInt ∧ (3 : Int32).toInt ≤ 4 from (rg_w (by decide : (3 : Int) ≤ (3 : Int32).toInt ∧ (3 : Int32).toInt ≤ 3) (by decide) (by decide))), hP, hD, hS, lv_sub hl [0, 1, 2] rfl⟩
                ·
                  have n_c_866 : (z_860.toInt : Int) ≠ 40 := c_ne rfl (by decide) c_866
                  refine lv_aload_n hx hb dX1_advance_295 rfl (lv_at hl 2 rfl) ?_
                  refine va_get (D := (dC, dI)) (ci := 0) (v := .int z_860) (C := RX1) (T := TX1) (N := 9) hx hb hts iX1_advance_X1 hown hK hP 0 rfl rfl 7 (by decide) (hts (.fieldLink RX1 172 "LuckyTicket$Reader" "value" "I") (List.mem_of_getElem? (i := 4) rfl)) (fun _ h9 => h9) rfl dX1_advance_296 ?_
                  refine lv_bipush (v := 41) hx hb dX1_advance_299 (by decide) ?_
                  refine lv_icmp_ne (tgt := 308) hx hb dX1_advance_301 (by decide) (fun c_867 => ?_) (fun c_867 => ?_)
                  ·
                    have n_c_867 : (z_860.toInt : Int) ≠ 41 := c_ne rfl (by decide) c_867
                    refine lv_iconst (v := 4) hx hb dX1_advance_308 (by decide) ?_
                    exact hj_309_864 (4 : Int32) _ _ _ ⟨(show (3 : Int) ≤ (4 : Int32).toInt ∧ (4 : Int32).toInt ≤ 4 from (rg_w (by decide : (4 : Int) ≤ (4 : Int32).toInt ∧ (4 : Int32).toInt ≤ 4) (by decide) (by decide))), hP, hD, hS, lv_sub hl [0, 1, 2] rfl⟩
                  ·
                    have n_c_867 : (z_860.toInt : Int) = 41 := c_eq rfl (by decide) c_867
                    have b_z_860 : (41 : Int) ≤ z_860.toInt ∧ z_860.toInt ≤ 41 := r_eq1 (ti_rng z_860) (by decide : (41 : Int) ≤ (41 : Int32).toInt ∧ (41 : Int32).toInt ≤ 41) n_c_867 (by decide)
                    refine lv_iconst (v := 3) hx hb dX1_advance_304 (by decide) ?_
                    refine lv_goto (tgt := 309) hx hb dX1_advance_305 (by decide) ?_
                    exact hj_309_864 (3 : Int32) _ _ _ ⟨(show (3 : Int) ≤ (3 : Int32).toInt ∧ (3 : Int32).toInt ≤ 4 from (rg_w (by decide : (3 : Int) ≤ (3 : Int32).toInt ∧ (3 : Int32).toInt ≤ 3) (by decide) (by decide))), hP, hD, hS, lv_sub hl [0, 1, 2] rfl⟩
          ·
            have n_c_859 : (z_858.toInt : Int) ≤ 57 := c_ngt rfl (by decide) c_859
            have b_z_858 : (-2147483648 : Int) ≤ z_858.toInt ∧ z_858.toInt ≤ 57 := r_le1 (ti_rng z_858) (by decide : (57 : Int) ≤ (57 : Int32).toInt ∧ (57 : Int32).toInt ≤ 57) n_c_859 (by decide)
            refine lv_aload_n hx hb dX1_advance_180 rfl (lv_at hl 2 rfl) ?_
            refine lv_iconst (v := 2) hx hb dX1_advance_181 (by decide) ?_
            refine va_put (D := (dC, dI)) (ci := 0) (v := .int 2) (ty := .int) (C := RX1) (T := TX1) (N := 9) hx hb hts iX1_advance_X1 tyX1 tyX1_ok nmX1 hown hK hP hD hS 0 rfl rfl 4 (by decide) (hts (.fieldLink RX1 39 "LuckyTicket$Reader" "token" "I") (List.mem_of_getElem? (i := 5) rfl)) (fun _ h9 => h9) rfl (by decide +kernel) rfl rfl (Nat.le_of_ble_eq_true rfl) dX1_advance_182 (fun H locs hP hD hS => ?_)
            have hP : va_P (dC, dI) vwCl [(rd, .inr (0, [.ref tp, .ref sc, .int xf, .int xp, .int 2, .int y_670, .int y_670, .int 0, .int xj])), (tp, .inr (6, [.ref tb, .int ts])), (tb, .inl (cB, 1200, .inl fb))] H := hP
            have hD : va_D A [(rd, .inr (0, [.ref tp, .ref sc, .int xf, .int xp, .int 2, .int y_670, .int y_670, .int 0, .int xj])), (tp, .inr (6, [.ref tb, .int ts])), (tb, .inl (cB, 1200, .inl fb))] := hD
            refine loopW (σ := Int32 × Int32) (fun v => (1200 - v.1.toInt).toNat) (fun v H locs ls => ((0 : Int) ≤ v.1.toInt ∧ v.1.toInt ≤ 1200) ∧ (y_670.toInt ≤ v.1.toInt) ∧ va_P (dC, dI) vwCl [(rd, .inr (0, [.ref tp, .ref sc, .int xf, .int xp, .int 2, .int y_670, .int v.1, .int v.2, .int xj])), (tp, .inr (6, [.ref tb, .int ts])), (tb, .inl (cB, 1200, .inl fb))] H ∧ va_D A [(rd, .inr (0, [.ref tp, .ref sc, .int xf, .int xp, .int 2, .int y_670, .int v.1, .int v.2, .int xj])), (tp, .inr (6, [.ref tb, .int ts])), (tb, .inl (cB, 1200, .inl fb))] ∧ va_S A s.heap H locs ∧ lv_has ls 3 [(2, .int ts), (1, .ref tb), (0, .ref rd)]) (fun v H locs ls hI ih_185_896 => ?_) (y_670, (0 : Int32)) ⟨(show (0 : Int) ≤ y_670.toInt ∧ y_670.toInt ≤ 1200 from (rg_w b_y_670 (by decide) (by decide))), (show y_670.toInt ≤ y_670.toInt from (by have zl : (2 : Int32).toInt = 2 := (by decide); have zl : (0 : Int32).toInt = 0 := (by decide); omega)), hP, hD, hS, lv_sub hl [0, 1, 2] rfl⟩
            obtain ⟨y_879, y_880⟩ := v
            obtain ⟨b_y_879, hss, hP, hD, hS, hl⟩ := hI
            have b_y_879 : (0 : Int) ≤ y_879.toInt ∧ y_879.toInt ≤ 1200 := b_y_879
            have hss : y_670.toInt ≤ y_879.toInt := hss
            have hP : va_P (dC, dI) vwCl [(rd, .inr (0, [.ref tp, .ref sc, .int xf, .int xp, .int 2, .int y_670, .int y_879, .int y_880, .int xj])), (tp, .inr (6, [.ref tb, .int ts])), (tb, .inl (cB, 1200, .inl fb))] H := hP
            have hD : va_D A [(rd, .inr (0, [.ref tp, .ref sc, .int xf, .int xp, .int 2, .int y_670, .int y_879, .int y_880, .int xj])), (tp, .inr (6, [.ref tb, .int ts])), (tb, .inl (cB, 1200, .inl fb))] := hD
            have hl : lv_has ls 3 [(2, .int ts), (1, .ref tb), (0, .ref rd)] := hl
            refine lv_aload_n hx hb dX1_advance_185 rfl (lv_at hl 2 rfl) ?_
            refine va_get (D := (dC, dI)) (ci := 0) (v := .int y_879) (C := RX1) (T := TX1) (N := 9) hx hb hts iX1_advance_X1 hown hK hP 0 rfl rfl 6 (by decide) (hts (.fieldLink RX1 26 "LuckyTicket$Reader" "stop" "I") (List.mem_of_getElem? (i := 2) rfl)) (fun _ h9 => h9) rfl dX1_advance_186 ?_
            refine lv_iload_n hx hb dX1_advance_189 rfl (lv_at hl 0 rfl) ?_
            refine lv_icmp_ge (tgt := 322) hx hb dX1_advance_190 (by decide) (fun c_897 => ?_) (fun c_897 => ?_)
            ·
              have n_c_897 : (ts.toInt : Int) ≤ y_879.toInt := c_ge rfl rfl c_897
              have b_y_879 : (1 : Int) ≤ y_879.toInt ∧ y_879.toInt ≤ 1200 := r_le2 b_ts b_y_879 n_c_897 (by decide)
              have hP9 := hP.sub (ws' := [(rd, .inr (0, [.ref tp, .ref sc, .int xf, .int xp, .int 2, .int y_670, .int y_879, .int y_880, .int xj])), (tp, .inr (6, [.ref tb, .int ts])), (tb, .inl (cB, 1200, .inl fb))]) [0, 1, 2] rfl
              have hD9 := hD.sub (ws' := [(rd, .inr (0, [.ref tp, .ref sc, .int xf, .int xp, .int 2, .int y_670, .int y_879, .int y_880, .int xj])), (tp, .inr (6, [.ref tb, .int ts])), (tb, .inl (cB, 1200, .inl fb))]) [0, 1, 2] (by decide) rfl
              have hK9 := hK.sub (tys' := [(cB, .byte)]) [0] rfl
              exact W.vret hx hb hr (fun t ht hW => ⟨⟨(), rfl, trivial, 2, y_670, y_879, y_880, (rg_w (by decide : (2 : Int) ≤ (2 : Int32).toInt ∧ (2 : Int32).toInt ≤ 2) (by decide) (by decide)), (rg_w b_y_670 (by decide) (by decide)), (rg_w b_y_879 (by decide) (by decide)), (by omega), by rw [ht]; exact hP9, va_K.moved hW.alike hK9, hD9⟩, hS.F ht⟩) hS.2.2 dX1_advance_322
            ·
              have n_c_897 : (y_879.toInt : Int) < ts.toInt := c_nge rfl rfl c_897
              have b_y_879 : (0 : Int) ≤ y_879.toInt ∧ y_879.toInt ≤ 1199 := r_lt1 b_y_879 b_ts n_c_897 (by decide)
              refine lv_aload_n hx hb dX1_advance_193 rfl (lv_at hl 1 rfl) ?_
              refine lv_aload_n hx hb dX1_advance_194 rfl (lv_at hl 2 rfl) ?_
              refine va_get (D := (dC, dI)) (ci := 0) (v := .int y_879) (C := RX1) (T := TX1) (N := 9) hx hb hts iX1_advance_X1 hown hK hP 0 rfl rfl 6 (by decide) (hts (.fieldLink RX1 26 "LuckyTicket$Reader" "stop" "I") (List.mem_of_getElem? (i := 2) rfl)) (fun _ h9 => h9) rfl dX1_advance_195 ?_
              refine va_bald hx hb hK hP 2 0 rfl rfl (vp_in_b b_y_879 (by decide) (by decide)) dX1_advance_198 ?_
              refine lv_topi (fun z_898 e_z_898 => ?_)
              refine lv_bipush (v := 48) hx hb dX1_advance_199 (by decide) ?_
              refine lv_icmp_lt (tgt := 322) hx hb dX1_advance_201 (by decide) (fun c_899 => ?_) (fun c_899 => ?_)
              ·
                have n_c_899 : (z_898.toInt : Int) < 48 := c_lt rfl (by decide) c_899
                have b_z_898 : (-2147483648 : Int) ≤ z_898.toInt ∧ z_898.toInt ≤ 47 := r_lt1 (ti_rng z_898) (by decide : (48 : Int) ≤ (48 : Int32).toInt ∧ (48 : Int32).toInt ≤ 48) n_c_899 (by decide)
                have hP9 := hP.sub (ws' := [(rd, .inr (0, [.ref tp, .ref sc, .int xf, .int xp, .int 2, .int y_670, .int y_879, .int y_880, .int xj])), (tp, .inr (6, [.ref tb, .int ts])), (tb, .inl (cB, 1200, .inl fb))]) [0, 1, 2] rfl
                have hD9 := hD.sub (ws' := [(rd, .inr (0, [.ref tp, .ref sc, .int xf, .int xp, .int 2, .int y_670, .int y_879, .int y_880, .int xj])), (tp, .inr (6, [.ref tb, .int ts])), (tb, .inl (cB, 1200, .inl fb))]) [0, 1, 2] (by decide) rfl
                have hK9 := hK.sub (tys' := [(cB, .byte)]) [0] rfl
                exact W.vret hx hb hr (fun t ht hW => ⟨⟨(), rfl, trivial, 2, y_670, y_879, y_880, (rg_w (by decide : (2 : Int) ≤ (2 : Int32).toInt ∧ (2 : Int32).toInt ≤ 2) (by decide) (by decide)), (rg_w b_y_670 (by decide) (by decide)), (rg_w b_y_879 (by decide) (by decide)), (by omega), by rw [ht]; exact hP9, va_K.moved hW.alike hK9, hD9⟩, hS.F ht⟩) hS.2.2 dX1_advance_322
              ·
                have n_c_899 : (48 : Int) ≤ z_898.toInt := c_nlt rfl (by decide) c_899
                have b_z_898 : (48 : Int) ≤ z_898.toInt ∧ z_898.toInt ≤ 2147483647 := r_le2 (by decide : (48 : Int) ≤ (48 : Int32).toInt ∧ (48 : Int32).toInt ≤ 48) (ti_rng z_898) n_c_899 (by decide)
                refine lv_aload_n hx hb dX1_advance_204 rfl (lv_at hl 1 rfl) ?_
                refine lv_aload_n hx hb dX1_advance_205 rfl (lv_at hl 2 rfl) ?_
                refine va_get (D := (dC, dI)) (ci := 0) (v := .int y_879) (C := RX1) (T := TX1) (N := 9) hx hb hts iX1_advance_X1 hown hK hP 0 rfl rfl 6 (by decide) (hts (.fieldLink RX1 26 "LuckyTicket$Reader" "stop" "I") (List.mem_of_getElem? (i := 2) rfl)) (fun _ h9 => h9) rfl dX1_advance_206 ?_
                refine va_bald hx hb hK hP 2 0 rfl rfl (vp_in_b b_y_879 (by decide) (by decide)) dX1_advance_209 ?_
                refine lv_topi (fun z_900 e_z_900 => ?_)
                refine lv_bipush (v := 57) hx hb dX1_advance_210 (by decide) ?_
                refine lv_icmp_gt (tgt := 322) hx hb dX1_advance_212 (by decide) (fun c_901 => ?_) (fun c_901 => ?_)
                ·
                  have n_c_901 : (57 : Int) < z_900.toInt := c_gt rfl (by decide) c_901
                  have b_z_900 : (58 : Int) ≤ z_900.toInt ∧ z_900.toInt ≤ 2147483647 := r_lt2 (by decide : (57 : Int) ≤ (57 : Int32).toInt ∧ (57 : Int32).toInt ≤ 57) (ti_rng z_900) n_c_901 (by decide)
                  have hP9 := hP.sub (ws' := [(rd, .inr (0, [.ref tp, .ref sc, .int xf, .int xp, .int 2, .int y_670, .int y_879, .int y_880, .int xj])), (tp, .inr (6, [.ref tb, .int ts])), (tb, .inl (cB, 1200, .inl fb))]) [0, 1, 2] rfl
                  have hD9 := hD.sub (ws' := [(rd, .inr (0, [.ref tp, .ref sc, .int xf, .int xp, .int 2, .int y_670, .int y_879, .int y_880, .int xj])), (tp, .inr (6, [.ref tb, .int ts])), (tb, .inl (cB, 1200, .inl fb))]) [0, 1, 2] (by decide) rfl
                  have hK9 := hK.sub (tys' := [(cB, .byte)]) [0] rfl
                  exact W.vret hx hb hr (fun t ht hW => ⟨⟨(), rfl, trivial, 2, y_670, y_879, y_880, (rg_w (by decide : (2 : Int) ≤ (2 : Int32).toInt ∧ (2 : Int32).toInt ≤ 2) (by decide) (by decide)), (rg_w b_y_670 (by decide) (by decide)), (rg_w b_y_879 (by decide) (by decide)), (by omega), by rw [ht]; exact hP9, va_K.moved hW.alike hK9, hD9⟩, hS.F ht⟩) hS.2.2 dX1_advance_322
                ·
                  have n_c_901 : (z_900.toInt : Int) ≤ 57 := c_ngt rfl (by decide) c_901
                  have b_z_900 : (-2147483648 : Int) ≤ z_900.toInt ∧ z_900.toInt ≤ 57 := r_le1 (ti_rng z_900) (by decide : (57 : Int) ≤ (57 : Int32).toInt ∧ (57 : Int32).toInt ≤ 57) n_c_901 (by decide)
                  refine lv_aload_n hx hb dX1_advance_215 rfl (lv_at hl 2 rfl) ?_
                  refine lv_aload_n hx hb dX1_advance_216 rfl (lv_at hl 2 rfl) ?_
                  refine va_get (D := (dC, dI)) (ci := 0) (v := .int y_880) (C := RX1) (T := TX1) (N := 9) hx hb hts iX1_advance_X1 hown hK hP 0 rfl rfl 7 (by decide) (hts (.fieldLink RX1 172 "LuckyTicket$Reader" "value" "I") (List.mem_of_getElem? (i := 4) rfl)) (fun _ h9 => h9) rfl dX1_advance_217 ?_
                  refine lv_sipush (v := 1000) hx hb dX1_advance_220 (by decide) ?_
                  refine cutW (σ := Int32) (pc2 := 250) (st2 := fun v => [.int v, .ref rd]) (cells2 := 0) (slots2 := 0) (fun v H locs ls => va_P (dC, dI) vwCl [(rd, .inr (0, [.ref tp, .ref sc, .int xf, .int xp, .int 2, .int y_670, .int y_879, .int y_880, .int xj])), (tp, .inr (6, [.ref tb, .int ts])), (tb, .inl (cB, 1200, .inl fb))] H ∧ va_D A [(rd, .inr (0, [.ref tp, .ref sc, .int xf, .int xp, .int 2, .int y_670, .int y_879, .int y_880, .int xj])), (tp, .inr (6, [.ref tb, .int ts])), (tb, .inl (cB, 1200, .inl fb))] ∧ va_S A s.heap H locs ∧ lv_has ls 3 [(2, .int ts), (1, .ref tb), (0, .ref rd)]) (fun v H locs ls hI => ?_) (fun hj_250_907 => ?_)
                  ·
                    obtain ⟨y_907, rfl⟩ : ∃ z, z = v := ⟨_, rfl⟩
                    obtain ⟨hP, hD, hS, hl⟩ := hI
                    have hP : va_P (dC, dI) vwCl [(rd, .inr (0, [.ref tp, .ref sc, .int xf, .int xp, .int 2, .int y_670, .int y_879, .int y_880, .int xj])), (tp, .inr (6, [.ref tb, .int ts])), (tb, .inl (cB, 1200, .inl fb))] H := hP
                    have hD : va_D A [(rd, .inr (0, [.ref tp, .ref sc, .int xf, .int xp, .int 2, .int y_670, .int y_879, .int y_880, .int xj])), (tp, .inr (6, [.ref tb, .int ts])), (tb, .inl (cB, 1200, .inl fb))] := hD
                    have hl : lv_has ls 3 [(2, .int ts), (1, .ref tb), (0, .ref rd)] := hl
                    refine va_put (D := (dC, dI)) (ci := 0) (v := .int y_907) (ty := .int) (C := RX1) (T := TX1) (N := 9) hx hb hts iX1_advance_X1 tyX1 tyX1_ok nmX1 hown hK hP hD hS 0 rfl rfl 7 (by decide) (hts (.fieldLink RX1 172 "LuckyTicket$Reader" "value" "I") (List.mem_of_getElem? (i := 4) rfl)) (fun _ h9 => h9) rfl (by decide +kernel) rfl rfl (Nat.le_of_ble_eq_true rfl) dX1_advance_250 (fun H locs hP hD hS => ?_)
                    have hP : va_P (dC, dI) vwCl [(rd, .inr (0, [.ref tp, .ref sc, .int xf, .int xp, .int 2, .int y_670, .int y_879, .int y_907, .int xj])), (tp, .inr (6, [.ref tb, .int ts])), (tb, .inl (cB, 1200, .inl fb))] H := hP
                    have hD : va_D A [(rd, .inr (0, [.ref tp, .ref sc, .int xf, .int xp, .int 2, .int y_670, .int y_879, .int y_907, .int xj])), (tp, .inr (6, [.ref tb, .int ts])), (tb, .inl (cB, 1200, .inl fb))] := hD
                    refine lv_aload_n hx hb dX1_advance_253 rfl (lv_at hl 2 rfl) ?_
                    refine lv_dup hx hb dX1_advance_254 rfl ?_
                    refine va_get (D := (dC, dI)) (ci := 0) (v := .int y_879) (C := RX1) (T := TX1) (N := 9) hx hb hts iX1_advance_X1 hown hK hP 0 rfl rfl 6 (by decide) (hts (.fieldLink RX1 26 "LuckyTicket$Reader" "stop" "I") (List.mem_of_getElem? (i := 2) rfl)) (fun _ h9 => h9) rfl dX1_advance_255 ?_
                    refine lv_iconst (v := 1) hx hb dX1_advance_258 (by decide) ?_
                    refine lv_iadd hx hb dX1_advance_259 ?_
                    refine lv_topi (fun z_908 e_z_908 => ?_)
                    obtain ⟨q_z_908, b_z_908⟩ := ti_add (lo := 1) (hi := 1200) e_z_908 rfl (by decide : (1 : Int32).toInt = 1) b_y_879 (by decide : (1 : Int) ≤ (1 : Int32).toInt ∧ (1 : Int32).toInt ≤ 1) (by decide)
                    refine va_put (D := (dC, dI)) (ci := 0) (v := .int z_908) (ty := .int) (C := RX1) (T := TX1) (N := 9) hx hb hts iX1_advance_X1 tyX1 tyX1_ok nmX1 hown hK hP hD hS 0 rfl rfl 6 (by decide) (hts (.fieldLink RX1 26 "LuckyTicket$Reader" "stop" "I") (List.mem_of_getElem? (i := 2) rfl)) (fun _ h9 => h9) rfl (by decide +kernel) rfl rfl (Nat.le_of_ble_eq_true rfl) dX1_advance_260 (fun H locs hP hD hS => ?_)
                    have hP : va_P (dC, dI) vwCl [(rd, .inr (0, [.ref tp, .ref sc, .int xf, .int xp, .int 2, .int y_670, .int z_908, .int y_907, .int xj])), (tp, .inr (6, [.ref tb, .int ts])), (tb, .inl (cB, 1200, .inl fb))] H := hP
                    have hD : va_D A [(rd, .inr (0, [.ref tp, .ref sc, .int xf, .int xp, .int 2, .int y_670, .int z_908, .int y_907, .int xj])), (tp, .inr (6, [.ref tb, .int ts])), (tb, .inl (cB, 1200, .inl fb))] := hD
                    refine lv_goto (tgt := 185) hx hb dX1_advance_263 (by decide) ?_
                    exact ih_185_896 (z_908, y_907) _ _ _ ⟨(show (0 : Int) ≤ z_908.toInt ∧ z_908.toInt ≤ 1200 from (rg_w b_z_908 (by decide) (by decide))), (show y_670.toInt ≤ z_908.toInt from (by have zl : (2 : Int32).toInt = 2 := (by decide); omega)), hP, hD, hS, lv_sub hl [0, 1, 2] rfl⟩ (show (1200 - z_908.toInt).toNat < (1200 - y_879.toInt).toNat by omega)
                  ·
                    refine lv_icmp_le (tgt := 233) hx hb dX1_advance_223 (by decide) (fun c_902 => ?_) (fun c_902 => ?_)
                    ·
                      have n_c_902 : (y_880.toInt : Int) ≤ 1000 := c_le rfl (by decide) c_902
                      have b_y_880 : (-2147483648 : Int) ≤ y_880.toInt ∧ y_880.toInt ≤ 1000 := r_le1 (ti_rng y_880) (by decide : (1000 : Int) ≤ (1000 : Int32).toInt ∧ (1000 : Int32).toInt ≤ 1000) n_c_902 (by decide)
                      refine lv_aload_n hx hb dX1_advance_233 rfl (lv_at hl 2 rfl) ?_
                      refine va_get (D := (dC, dI)) (ci := 0) (v := .int y_880) (C := RX1) (T := TX1) (N := 9) hx hb hts iX1_advance_X1 hown hK hP 0 rfl rfl 7 (by decide) (hts (.fieldLink RX1 172 "LuckyTicket$Reader" "value" "I") (List.mem_of_getElem? (i := 4) rfl)) (fun _ h9 => h9) rfl dX1_advance_234 ?_
                      refine lv_bipush (v := 10) hx hb dX1_advance_237 (by decide) ?_
                      refine lv_imul hx hb dX1_advance_239 ?_
                      refine lv_topi (fun z_909 e_z_909 => ?_)
                      refine lv_aload_n hx hb dX1_advance_240 rfl (lv_at hl 1 rfl) ?_
                      refine lv_aload_n hx hb dX1_advance_241 rfl (lv_at hl 2 rfl) ?_
                      refine va_get (D := (dC, dI)) (ci := 0) (v := .int y_879) (C := RX1) (T := TX1) (N := 9) hx hb hts iX1_advance_X1 hown hK hP 0 rfl rfl 6 (by decide) (hts (.fieldLink RX1 26 "LuckyTicket$Reader" "stop" "I") (List.mem_of_getElem? (i := 2) rfl)) (fun _ h9 => h9) rfl dX1_advance_242 ?_
                      refine va_bald hx hb hK hP 2 0 rfl rfl (vp_in_b b_y_879 (by decide) (by decide)) dX1_advance_245 ?_
                      refine lv_topi (fun z_910 e_z_910 => ?_)
                      refine lv_iadd hx hb dX1_advance_246 ?_
                      refine lv_topi (fun z_911 e_z_911 => ?_)
                      refine lv_bipush (v := 48) hx hb dX1_advance_247 (by decide) ?_
                      refine lv_isub hx hb dX1_advance_249 ?_
                      refine lv_topi (fun z_912 e_z_912 => ?_)
                      exact hj_250_907 z_912 _ _ _ ⟨hP, hD, hS, lv_sub hl [0, 1, 2] rfl⟩
                    ·
                      have n_c_902 : (1000 : Int) < y_880.toInt := c_nle rfl (by decide) c_902
                      have b_y_880 : (1001 : Int) ≤ y_880.toInt ∧ y_880.toInt ≤ 2147483647 := r_lt2 (by decide : (1000 : Int) ≤ (1000 : Int32).toInt ∧ (1000 : Int32).toInt ≤ 1000) (ti_rng y_880) n_c_902 (by decide)
                      refine lv_aload_n hx hb dX1_advance_226 rfl (lv_at hl 2 rfl) ?_
                      refine va_get (D := (dC, dI)) (ci := 0) (v := .int y_880) (C := RX1) (T := TX1) (N := 9) hx hb hts iX1_advance_X1 hown hK hP 0 rfl rfl 7 (by decide) (hts (.fieldLink RX1 172 "LuckyTicket$Reader" "value" "I") (List.mem_of_getElem? (i := 4) rfl)) (fun _ h9 => h9) rfl dX1_advance_227 ?_
                      refine lv_goto (tgt := 250) hx hb dX1_advance_230 (by decide) ?_
                      exact hj_250_907 y_880 _ _ _ ⟨hP, hD, hS, lv_sub hl [0, 1, 2] rfl⟩
      ·
        have n_c_847 : (97 : Int) ≤ z_846.toInt := c_nlt rfl (by decide) c_847
        have b_z_846 : (97 : Int) ≤ z_846.toInt ∧ z_846.toInt ≤ 2147483647 := r_le2 (by decide : (97 : Int) ≤ (97 : Int32).toInt ∧ (97 : Int32).toInt ≤ 97) (ti_rng z_846) n_c_847 (by decide)
        refine lv_aload_n hx hb dX1_advance_99 rfl (lv_at hl 1 rfl) ?_
        refine lv_aload_n hx hb dX1_advance_100 rfl (lv_at hl 2 rfl) ?_
        refine va_get (D := (dC, dI)) (ci := 0) (v := .int y_670) (C := RX1) (T := TX1) (N := 9) hx hb hts iX1_advance_X1 hown hK hP 0 rfl rfl 5 (by decide) (hts (.fieldLink RX1 178 "LuckyTicket$Reader" "start" "I") (List.mem_of_getElem? (i := 3) rfl)) (fun _ h9 => h9) rfl dX1_advance_101 ?_
        refine va_bald hx hb hK hP 2 0 rfl rfl (vp_in_b b_y_670 (by decide) (by decide)) dX1_advance_104 ?_
        refine lv_topi (fun z_913 e_z_913 => ?_)
        refine lv_bipush (v := 122) hx hb dX1_advance_105 (by decide) ?_
        refine lv_icmp_gt (tgt := 158) hx hb dX1_advance_107 (by decide) (fun c_914 => ?_) (fun c_914 => ?_)
        ·
          have n_c_914 : (122 : Int) < z_913.toInt := c_gt rfl (by decide) c_914
          have b_z_913 : (123 : Int) ≤ z_913.toInt ∧ z_913.toInt ≤ 2147483647 := r_lt2 (by decide : (122 : Int) ≤ (122 : Int32).toInt ∧ (122 : Int32).toInt ≤ 122) (ti_rng z_913) n_c_914 (by decide)
          refine lv_aload_n hx hb dX1_advance_158 rfl (lv_at hl 1 rfl) ?_
          refine lv_aload_n hx hb dX1_advance_159 rfl (lv_at hl 2 rfl) ?_
          refine va_get (D := (dC, dI)) (ci := 0) (v := .int y_670) (C := RX1) (T := TX1) (N := 9) hx hb hts iX1_advance_X1 hown hK hP 0 rfl rfl 5 (by decide) (hts (.fieldLink RX1 178 "LuckyTicket$Reader" "start" "I") (List.mem_of_getElem? (i := 3) rfl)) (fun _ h9 => h9) rfl dX1_advance_160 ?_
          refine va_bald hx hb hK hP 2 0 rfl rfl (vp_in_b b_y_670 (by decide) (by decide)) dX1_advance_163 ?_
          refine lv_topi (fun z_915 e_z_915 => ?_)
          refine lv_bipush (v := 48) hx hb dX1_advance_164 (by decide) ?_
          refine lv_icmp_lt (tgt := 266) hx hb dX1_advance_166 (by decide) (fun c_916 => ?_) (fun c_916 => ?_)
          ·
            have n_c_916 : (z_915.toInt : Int) < 48 := c_lt rfl (by decide) c_916
            have b_z_915 : (-2147483648 : Int) ≤ z_915.toInt ∧ z_915.toInt ≤ 47 := r_lt1 (ti_rng z_915) (by decide : (48 : Int) ≤ (48 : Int32).toInt ∧ (48 : Int32).toInt ≤ 48) n_c_916 (by decide)
            refine lv_aload_n hx hb dX1_advance_266 rfl (lv_at hl 2 rfl) ?_
            refine lv_aload_n hx hb dX1_advance_267 rfl (lv_at hl 1 rfl) ?_
            refine lv_aload_n hx hb dX1_advance_268 rfl (lv_at hl 2 rfl) ?_
            refine va_get (D := (dC, dI)) (ci := 0) (v := .int y_670) (C := RX1) (T := TX1) (N := 9) hx hb hts iX1_advance_X1 hown hK hP 0 rfl rfl 5 (by decide) (hts (.fieldLink RX1 178 "LuckyTicket$Reader" "start" "I") (List.mem_of_getElem? (i := 3) rfl)) (fun _ h9 => h9) rfl dX1_advance_269 ?_
            refine va_bald hx hb hK hP 2 0 rfl rfl (vp_in_b b_y_670 (by decide) (by decide)) dX1_advance_272 ?_
            refine lv_topi (fun z_917 e_z_917 => ?_)
            refine va_put (D := (dC, dI)) (ci := 0) (v := .int z_917) (ty := .int) (C := RX1) (T := TX1) (N := 9) hx hb hts iX1_advance_X1 tyX1 tyX1_ok nmX1 hown hK hP hD hS 0 rfl rfl 7 (by decide) (hts (.fieldLink RX1 172 "LuckyTicket$Reader" "value" "I") (List.mem_of_getElem? (i := 4) rfl)) (fun _ h9 => h9) rfl (by decide +kernel) rfl rfl (Nat.le_of_ble_eq_true rfl) dX1_advance_273 (fun H locs hP hD hS => ?_)
            have hP : va_P (dC, dI) vwCl [(rd, .inr (0, [.ref tp, .ref sc, .int xf, .int xp, .int xt, .int y_670, .int y_670, .int z_917, .int xj])), (tp, .inr (6, [.ref tb, .int ts])), (tb, .inl (cB, 1200, .inl fb))] H := hP
            have hD : va_D A [(rd, .inr (0, [.ref tp, .ref sc, .int xf, .int xp, .int xt, .int y_670, .int y_670, .int z_917, .int xj])), (tp, .inr (6, [.ref tb, .int ts])), (tb, .inl (cB, 1200, .inl fb))] := hD
            refine lv_aload_n hx hb dX1_advance_276 rfl (lv_at hl 2 rfl) ?_
            refine lv_aload_n hx hb dX1_advance_277 rfl (lv_at hl 2 rfl) ?_
            refine va_get (D := (dC, dI)) (ci := 0) (v := .int z_917) (C := RX1) (T := TX1) (N := 9) hx hb hts iX1_advance_X1 hown hK hP 0 rfl rfl 7 (by decide) (hts (.fieldLink RX1 172 "LuckyTicket$Reader" "value" "I") (List.mem_of_getElem? (i := 4) rfl)) (fun _ h9 => h9) rfl dX1_advance_278 ?_
            refine lv_bipush (v := 59) hx hb dX1_advance_281 (by decide) ?_
            refine cutW (σ := Int32) (pc2 := 309) (st2 := fun v => [.int v, .ref rd]) (cells2 := 0) (slots2 := 0) (fun v H locs ls => ((3 : Int) ≤ v.toInt ∧ v.toInt ≤ 4) ∧ va_P (dC, dI) vwCl [(rd, .inr (0, [.ref tp, .ref sc, .int xf, .int xp, .int xt, .int y_670, .int y_670, .int z_917, .int xj])), (tp, .inr (6, [.ref tb, .int ts])), (tb, .inl (cB, 1200, .inl fb))] H ∧ va_D A [(rd, .inr (0, [.ref tp, .ref sc, .int xf, .int xp, .int xt, .int y_670, .int y_670, .int z_917, .int xj])), (tp, .inr (6, [.ref tb, .int ts])), (tb, .inl (cB, 1200, .inl fb))] ∧ va_S A s.heap H locs ∧ lv_has ls 3 [(2, .int ts), (1, .ref tb), (0, .ref rd)]) (fun v H locs ls hI => ?_) (fun hj_309_921 => ?_)
            ·
              obtain ⟨y_921, rfl⟩ : ∃ z, z = v := ⟨_, rfl⟩
              obtain ⟨b_y_921, hP, hD, hS, hl⟩ := hI
              have b_y_921 : (3 : Int) ≤ y_921.toInt ∧ y_921.toInt ≤ 4 := b_y_921
              have hP : va_P (dC, dI) vwCl [(rd, .inr (0, [.ref tp, .ref sc, .int xf, .int xp, .int xt, .int y_670, .int y_670, .int z_917, .int xj])), (tp, .inr (6, [.ref tb, .int ts])), (tb, .inl (cB, 1200, .inl fb))] H := hP
              have hD : va_D A [(rd, .inr (0, [.ref tp, .ref sc, .int xf, .int xp, .int xt, .int y_670, .int y_670, .int z_917, .int xj])), (tp, .inr (6, [.ref tb, .int ts])), (tb, .inl (cB, 1200, .inl fb))] := hD
              have hl : lv_has ls 3 [(2, .int ts), (1, .ref tb), (0, .ref rd)] := hl
              refine va_put (D := (dC, dI)) (ci := 0) (v := .int y_921) (ty := .int) (C := RX1) (T := TX1) (N := 9) hx hb hts iX1_advance_X1 tyX1 tyX1_ok nmX1 hown hK hP hD hS 0 rfl rfl 4 (by decide) (hts (.fieldLink RX1 39 "LuckyTicket$Reader" "token" "I") (List.mem_of_getElem? (i := 5) rfl)) (fun _ h9 => h9) rfl (by decide +kernel) rfl rfl (Nat.le_of_ble_eq_true rfl) dX1_advance_309 (fun H locs hP hD hS => ?_)
              have hP : va_P (dC, dI) vwCl [(rd, .inr (0, [.ref tp, .ref sc, .int xf, .int xp, .int y_921, .int y_670, .int y_670, .int z_917, .int xj])), (tp, .inr (6, [.ref tb, .int ts])), (tb, .inl (cB, 1200, .inl fb))] H := hP
              have hD : va_D A [(rd, .inr (0, [.ref tp, .ref sc, .int xf, .int xp, .int y_921, .int y_670, .int y_670, .int z_917, .int xj])), (tp, .inr (6, [.ref tb, .int ts])), (tb, .inl (cB, 1200, .inl fb))] := hD
              refine lv_aload_n hx hb dX1_advance_312 rfl (lv_at hl 2 rfl) ?_
              refine lv_dup hx hb dX1_advance_313 rfl ?_
              refine va_get (D := (dC, dI)) (ci := 0) (v := .int y_670) (C := RX1) (T := TX1) (N := 9) hx hb hts iX1_advance_X1 hown hK hP 0 rfl rfl 6 (by decide) (hts (.fieldLink RX1 26 "LuckyTicket$Reader" "stop" "I") (List.mem_of_getElem? (i := 2) rfl)) (fun _ h9 => h9) rfl dX1_advance_314 ?_
              refine lv_iconst (v := 1) hx hb dX1_advance_317 (by decide) ?_
              refine lv_iadd hx hb dX1_advance_318 ?_
              refine lv_topi (fun z_922 e_z_922 => ?_)
              obtain ⟨q_z_922, b_z_922⟩ := ti_add (lo := 1) (hi := 1200) e_z_922 rfl (by decide : (1 : Int32).toInt = 1) b_y_670 (by decide : (1 : Int) ≤ (1 : Int32).toInt ∧ (1 : Int32).toInt ≤ 1) (by decide)
              refine va_put (D := (dC, dI)) (ci := 0) (v := .int z_922) (ty := .int) (C := RX1) (T := TX1) (N := 9) hx hb hts iX1_advance_X1 tyX1 tyX1_ok nmX1 hown hK hP hD hS 0 rfl rfl 6 (by decide) (hts (.fieldLink RX1 26 "LuckyTicket$Reader" "stop" "I") (List.mem_of_getElem? (i := 2) rfl)) (fun _ h9 => h9) rfl (by decide +kernel) rfl rfl (Nat.le_of_ble_eq_true rfl) dX1_advance_319 (fun H locs hP hD hS => ?_)
              have hP : va_P (dC, dI) vwCl [(rd, .inr (0, [.ref tp, .ref sc, .int xf, .int xp, .int y_921, .int y_670, .int z_922, .int z_917, .int xj])), (tp, .inr (6, [.ref tb, .int ts])), (tb, .inl (cB, 1200, .inl fb))] H := hP
              have hD : va_D A [(rd, .inr (0, [.ref tp, .ref sc, .int xf, .int xp, .int y_921, .int y_670, .int z_922, .int z_917, .int xj])), (tp, .inr (6, [.ref tb, .int ts])), (tb, .inl (cB, 1200, .inl fb))] := hD
              have hP9 := hP.sub (ws' := [(rd, .inr (0, [.ref tp, .ref sc, .int xf, .int xp, .int y_921, .int y_670, .int z_922, .int z_917, .int xj])), (tp, .inr (6, [.ref tb, .int ts])), (tb, .inl (cB, 1200, .inl fb))]) [0, 1, 2] rfl
              have hD9 := hD.sub (ws' := [(rd, .inr (0, [.ref tp, .ref sc, .int xf, .int xp, .int y_921, .int y_670, .int z_922, .int z_917, .int xj])), (tp, .inr (6, [.ref tb, .int ts])), (tb, .inl (cB, 1200, .inl fb))]) [0, 1, 2] (by decide) rfl
              have hK9 := hK.sub (tys' := [(cB, .byte)]) [0] rfl
              exact W.vret hx hb hr (fun t ht hW => ⟨⟨(), rfl, trivial, y_921, y_670, z_922, z_917, (rg_w b_y_921 (by decide) (by decide)), (rg_w b_y_670 (by decide) (by decide)), (rg_w b_z_922 (by decide) (by decide)), (by omega), by rw [ht]; exact hP9, va_K.moved hW.alike hK9, hD9⟩, hS.F ht⟩) hS.2.2 dX1_advance_322
            ·
              refine lv_icmp_eq (tgt := 304) hx hb dX1_advance_283 (by decide) (fun c_918 => ?_) (fun c_918 => ?_)
              ·
                have n_c_918 : (z_917.toInt : Int) = 59 := c_eq rfl (by decide) c_918
                have b_z_917 : (59 : Int) ≤ z_917.toInt ∧ z_917.toInt ≤ 59 := r_eq1 (ti_rng z_917) (by decide : (59 : Int) ≤ (59 : Int32).toInt ∧ (59 : Int32).toInt ≤ 59) n_c_918 (by decide)
                refine lv_iconst (v := 3) hx hb dX1_advance_304 (by decide) ?_
                refine lv_goto (tgt := 309) hx hb dX1_advance_305 (by decide) ?_
                exact hj_309_921 (3 : Int32) _ _ _ ⟨(show (3 : Int) ≤ (3 : Int32).toInt ∧ (3 : Int32).toInt ≤ 4 from (rg_w (by decide : (3 : Int) ≤ (3 : Int32).toInt ∧ (3 : Int32).toInt ≤ 3) (by decide) (by decide))), hP, hD, hS, lv_sub hl [0, 1, 2] rfl⟩
              ·
                have n_c_918 : (z_917.toInt : Int) ≠ 59 := c_ne rfl (by decide) c_918
                refine lv_aload_n hx hb dX1_advance_286 rfl (lv_at hl 2 rfl) ?_
                refine va_get (D := (dC, dI)) (ci := 0) (v := .int z_917) (C := RX1) (T := TX1) (N := 9) hx hb hts iX1_advance_X1 hown hK hP 0 rfl rfl 7 (by decide) (hts (.fieldLink RX1 172 "LuckyTicket$Reader" "value" "I") (List.mem_of_getElem? (i := 4) rfl)) (fun _ h9 => h9) rfl dX1_advance_287 ?_
                refine lv_bipush (v := 40) hx hb dX1_advance_290 (by decide) ?_
                refine lv_icmp_eq (tgt := 304) hx hb dX1_advance_292 (by decide) (fun c_923 => ?_) (fun c_923 => ?_)
                ·
                  have n_c_923 : (z_917.toInt : Int) = 40 := c_eq rfl (by decide) c_923
                  have b_z_917 : (40 : Int) ≤ z_917.toInt ∧ z_917.toInt ≤ 40 := r_eq1 (ti_rng z_917) (by decide : (40 : Int) ≤ (40 : Int32).toInt ∧ (40 : Int32).toInt ≤ 40) n_c_923 (by decide)
                  refine lv_iconst (v := 3) hx hb dX1_advance_304 (by decide) ?_
                  refine lv_goto (tgt := 309) hx hb dX1_advance_305 (by decide) ?_
                  exact hj_309_921 (3 : Int32) _ _ _ ⟨(show (3 : Int) ≤ (3 : Int32).toInt ∧ (3 : Int32).toInt ≤ 4 from (rg_w (by decide : (3 : Int) ≤ (3 : Int32).toInt ∧ (3 : Int32).toInt ≤ 3) (by decide) (by decide))), hP, hD, hS, lv_sub hl [0, 1, 2] rfl⟩
                ·
                  have n_c_923 : (z_917.toInt : Int) ≠ 40 := c_ne rfl (by decide) c_923
                  refine lv_aload_n hx hb dX1_advance_295 rfl (lv_at hl 2 rfl) ?_
                  refine va_get (D := (dC, dI)) (ci := 0) (v := .int z_917) (C := RX1) (T := TX1) (N := 9) hx hb hts iX1_advance_X1 hown hK hP 0 rfl rfl 7 (by decide) (hts (.fieldLink RX1 172 "LuckyTicket$Reader" "value" "I") (List.mem_of_getElem? (i := 4) rfl)) (fun _ h9 => h9) rfl dX1_advance_296 ?_
                  refine lv_bipush (v := 41) hx hb dX1_advance_299 (by decide) ?_
                  refine lv_icmp_ne (tgt := 308) hx hb dX1_advance_301 (by decide) (fun c_924 => ?_) (fun c_924 => ?_)
                  ·
                    have n_c_924 : (z_917.toInt : Int) ≠ 41 := c_ne rfl (by decide) c_924
                    refine lv_iconst (v := 4) hx hb dX1_advance_308 (by decide) ?_
                    exact hj_309_921 (4 : Int32) _ _ _ ⟨(show (3 : Int) ≤ (4 : Int32).toInt ∧ (4 : Int32).toInt ≤ 4 from (rg_w (by decide : (4 : Int) ≤ (4 : Int32).toInt ∧ (4 : Int32).toInt ≤ 4) (by decide) (by decide))), hP, hD, hS, lv_sub hl [0, 1, 2] rfl⟩
                  ·
                    have n_c_924 : (z_917.toInt : Int) = 41 := c_eq rfl (by decide) c_924
                    have b_z_917 : (41 : Int) ≤ z_917.toInt ∧ z_917.toInt ≤ 41 := r_eq1 (ti_rng z_917) (by decide : (41 : Int) ≤ (41 : Int32).toInt ∧ (41 : Int32).toInt ≤ 41) n_c_924 (by decide)
                    refine lv_iconst (v := 3) hx hb dX1_advance_304 (by decide) ?_
                    refine lv_goto (tgt := 309) hx hb dX1_advance_305 (by decide) ?_
                    exact hj_309_921 (3 : Int32) _ _ _ ⟨(show (3 : Int) ≤ (3 : Int32).toInt ∧ (3 : Int32).toInt ≤ 4 from (rg_w (by decide : (3 : Int) ≤ (3 : Int32).toInt ∧ (3 : Int32).toInt ≤ 3) (by decide) (by decide))), hP, hD, hS, lv_sub hl [0, 1, 2] rfl⟩
          ·
            have n_c_916 : (48 : Int) ≤ z_915.toInt := c_nlt rfl (by decide) c_916
            have b_z_915 : (48 : Int) ≤ z_915.toInt ∧ z_915.toInt ≤ 2147483647 := r_le2 (by decide : (48 : Int) ≤ (48 : Int32).toInt ∧ (48 : Int32).toInt ≤ 48) (ti_rng z_915) n_c_916 (by decide)
            refine lv_aload_n hx hb dX1_advance_169 rfl (lv_at hl 1 rfl) ?_
            refine lv_aload_n hx hb dX1_advance_170 rfl (lv_at hl 2 rfl) ?_
            refine va_get (D := (dC, dI)) (ci := 0) (v := .int y_670) (C := RX1) (T := TX1) (N := 9) hx hb hts iX1_advance_X1 hown hK hP 0 rfl rfl 5 (by decide) (hts (.fieldLink RX1 178 "LuckyTicket$Reader" "start" "I") (List.mem_of_getElem? (i := 3) rfl)) (fun _ h9 => h9) rfl dX1_advance_171 ?_
            refine va_bald hx hb hK hP 2 0 rfl rfl (vp_in_b b_y_670 (by decide) (by decide)) dX1_advance_174 ?_
            refine lv_topi (fun z_925 e_z_925 => ?_)
            refine lv_bipush (v := 57) hx hb dX1_advance_175 (by decide) ?_
            refine lv_icmp_gt (tgt := 266) hx hb dX1_advance_177 (by decide) (fun c_926 => ?_) (fun c_926 => ?_)
            ·
              have n_c_926 : (57 : Int) < z_925.toInt := c_gt rfl (by decide) c_926
              have b_z_925 : (58 : Int) ≤ z_925.toInt ∧ z_925.toInt ≤ 2147483647 := r_lt2 (by decide : (57 : Int) ≤ (57 : Int32).toInt ∧ (57 : Int32).toInt ≤ 57) (ti_rng z_925) n_c_926 (by decide)
              refine lv_aload_n hx hb dX1_advance_266 rfl (lv_at hl 2 rfl) ?_
              refine lv_aload_n hx hb dX1_advance_267 rfl (lv_at hl 1 rfl) ?_
              refine lv_aload_n hx hb dX1_advance_268 rfl (lv_at hl 2 rfl) ?_
              refine va_get (D := (dC, dI)) (ci := 0) (v := .int y_670) (C := RX1) (T := TX1) (N := 9) hx hb hts iX1_advance_X1 hown hK hP 0 rfl rfl 5 (by decide) (hts (.fieldLink RX1 178 "LuckyTicket$Reader" "start" "I") (List.mem_of_getElem? (i := 3) rfl)) (fun _ h9 => h9) rfl dX1_advance_269 ?_
              refine va_bald hx hb hK hP 2 0 rfl rfl (vp_in_b b_y_670 (by decide) (by decide)) dX1_advance_272 ?_
              refine lv_topi (fun z_927 e_z_927 => ?_)
              refine va_put (D := (dC, dI)) (ci := 0) (v := .int z_927) (ty := .int) (C := RX1) (T := TX1) (N := 9) hx hb hts iX1_advance_X1 tyX1 tyX1_ok nmX1 hown hK hP hD hS 0 rfl rfl 7 (by decide) (hts (.fieldLink RX1 172 "LuckyTicket$Reader" "value" "I") (List.mem_of_getElem? (i := 4) rfl)) (fun _ h9 => h9) rfl (by decide +kernel) rfl rfl (Nat.le_of_ble_eq_true rfl) dX1_advance_273 (fun H locs hP hD hS => ?_)
              have hP : va_P (dC, dI) vwCl [(rd, .inr (0, [.ref tp, .ref sc, .int xf, .int xp, .int xt, .int y_670, .int y_670, .int z_927, .int xj])), (tp, .inr (6, [.ref tb, .int ts])), (tb, .inl (cB, 1200, .inl fb))] H := hP
              have hD : va_D A [(rd, .inr (0, [.ref tp, .ref sc, .int xf, .int xp, .int xt, .int y_670, .int y_670, .int z_927, .int xj])), (tp, .inr (6, [.ref tb, .int ts])), (tb, .inl (cB, 1200, .inl fb))] := hD
              refine lv_aload_n hx hb dX1_advance_276 rfl (lv_at hl 2 rfl) ?_
              refine lv_aload_n hx hb dX1_advance_277 rfl (lv_at hl 2 rfl) ?_
              refine va_get (D := (dC, dI)) (ci := 0) (v := .int z_927) (C := RX1) (T := TX1) (N := 9) hx hb hts iX1_advance_X1 hown hK hP 0 rfl rfl 7 (by decide) (hts (.fieldLink RX1 172 "LuckyTicket$Reader" "value" "I") (List.mem_of_getElem? (i := 4) rfl)) (fun _ h9 => h9) rfl dX1_advance_278 ?_
              refine lv_bipush (v := 59) hx hb dX1_advance_281 (by decide) ?_
              refine cutW (σ := Int32) (pc2 := 309) (st2 := fun v => [.int v, .ref rd]) (cells2 := 0) (slots2 := 0) (fun v H locs ls => ((3 : Int) ≤ v.toInt ∧ v.toInt ≤ 4) ∧ va_P (dC, dI) vwCl [(rd, .inr (0, [.ref tp, .ref sc, .int xf, .int xp, .int xt, .int y_670, .int y_670, .int z_927, .int xj])), (tp, .inr (6, [.ref tb, .int ts])), (tb, .inl (cB, 1200, .inl fb))] H ∧ va_D A [(rd, .inr (0, [.ref tp, .ref sc, .int xf, .int xp, .int xt, .int y_670, .int y_670, .int z_927, .int xj])), (tp, .inr (6, [.ref tb, .int ts])), (tb, .inl (cB, 1200, .inl fb))] ∧ va_S A s.heap H locs ∧ lv_has ls 3 [(2, .int ts), (1, .ref tb), (0, .ref rd)]) (fun v H locs ls hI => ?_) (fun hj_309_931 => ?_)
              ·
                obtain ⟨y_931, rfl⟩ : ∃ z, z = v := ⟨_, rfl⟩
                obtain ⟨b_y_931, hP, hD, hS, hl⟩ := hI
                have b_y_931 : (3 : Int) ≤ y_931.toInt ∧ y_931.toInt ≤ 4 := b_y_931
                have hP : va_P (dC, dI) vwCl [(rd, .inr (0, [.ref tp, .ref sc, .int xf, .int xp, .int xt, .int y_670, .int y_670, .int z_927, .int xj])), (tp, .inr (6, [.ref tb, .int ts])), (tb, .inl (cB, 1200, .inl fb))] H := hP
                have hD : va_D A [(rd, .inr (0, [.ref tp, .ref sc, .int xf, .int xp, .int xt, .int y_670, .int y_670, .int z_927, .int xj])), (tp, .inr (6, [.ref tb, .int ts])), (tb, .inl (cB, 1200, .inl fb))] := hD
                have hl : lv_has ls 3 [(2, .int ts), (1, .ref tb), (0, .ref rd)] := hl
                refine va_put (D := (dC, dI)) (ci := 0) (v := .int y_931) (ty := .int) (C := RX1) (T := TX1) (N := 9) hx hb hts iX1_advance_X1 tyX1 tyX1_ok nmX1 hown hK hP hD hS 0 rfl rfl 4 (by decide) (hts (.fieldLink RX1 39 "LuckyTicket$Reader" "token" "I") (List.mem_of_getElem? (i := 5) rfl)) (fun _ h9 => h9) rfl (by decide +kernel) rfl rfl (Nat.le_of_ble_eq_true rfl) dX1_advance_309 (fun H locs hP hD hS => ?_)
                have hP : va_P (dC, dI) vwCl [(rd, .inr (0, [.ref tp, .ref sc, .int xf, .int xp, .int y_931, .int y_670, .int y_670, .int z_927, .int xj])), (tp, .inr (6, [.ref tb, .int ts])), (tb, .inl (cB, 1200, .inl fb))] H := hP
                have hD : va_D A [(rd, .inr (0, [.ref tp, .ref sc, .int xf, .int xp, .int y_931, .int y_670, .int y_670, .int z_927, .int xj])), (tp, .inr (6, [.ref tb, .int ts])), (tb, .inl (cB, 1200, .inl fb))] := hD
                refine lv_aload_n hx hb dX1_advance_312 rfl (lv_at hl 2 rfl) ?_
                refine lv_dup hx hb dX1_advance_313 rfl ?_
                refine va_get (D := (dC, dI)) (ci := 0) (v := .int y_670) (C := RX1) (T := TX1) (N := 9) hx hb hts iX1_advance_X1 hown hK hP 0 rfl rfl 6 (by decide) (hts (.fieldLink RX1 26 "LuckyTicket$Reader" "stop" "I") (List.mem_of_getElem? (i := 2) rfl)) (fun _ h9 => h9) rfl dX1_advance_314 ?_
                refine lv_iconst (v := 1) hx hb dX1_advance_317 (by decide) ?_
                refine lv_iadd hx hb dX1_advance_318 ?_
                refine lv_topi (fun z_932 e_z_932 => ?_)
                obtain ⟨q_z_932, b_z_932⟩ := ti_add (lo := 1) (hi := 1200) e_z_932 rfl (by decide : (1 : Int32).toInt = 1) b_y_670 (by decide : (1 : Int) ≤ (1 : Int32).toInt ∧ (1 : Int32).toInt ≤ 1) (by decide)
                refine va_put (D := (dC, dI)) (ci := 0) (v := .int z_932) (ty := .int) (C := RX1) (T := TX1) (N := 9) hx hb hts iX1_advance_X1 tyX1 tyX1_ok nmX1 hown hK hP hD hS 0 rfl rfl 6 (by decide) (hts (.fieldLink RX1 26 "LuckyTicket$Reader" "stop" "I") (List.mem_of_getElem? (i := 2) rfl)) (fun _ h9 => h9) rfl (by decide +kernel) rfl rfl (Nat.le_of_ble_eq_true rfl) dX1_advance_319 (fun H locs hP hD hS => ?_)
                have hP : va_P (dC, dI) vwCl [(rd, .inr (0, [.ref tp, .ref sc, .int xf, .int xp, .int y_931, .int y_670, .int z_932, .int z_927, .int xj])), (tp, .inr (6, [.ref tb, .int ts])), (tb, .inl (cB, 1200, .inl fb))] H := hP
                have hD : va_D A [(rd, .inr (0, [.ref tp, .ref sc, .int xf, .int xp, .int y_931, .int y_670, .int z_932, .int z_927, .int xj])), (tp, .inr (6, [.ref tb, .int ts])), (tb, .inl (cB, 1200, .inl fb))] := hD
                have hP9 := hP.sub (ws' := [(rd, .inr (0, [.ref tp, .ref sc, .int xf, .int xp, .int y_931, .int y_670, .int z_932, .int z_927, .int xj])), (tp, .inr (6, [.ref tb, .int ts])), (tb, .inl (cB, 1200, .inl fb))]) [0, 1, 2] rfl
                have hD9 := hD.sub (ws' := [(rd, .inr (0, [.ref tp, .ref sc, .int xf, .int xp, .int y_931, .int y_670, .int z_932, .int z_927, .int xj])), (tp, .inr (6, [.ref tb, .int ts])), (tb, .inl (cB, 1200, .inl fb))]) [0, 1, 2] (by decide) rfl
                have hK9 := hK.sub (tys' := [(cB, .byte)]) [0] rfl
                exact W.vret hx hb hr (fun t ht hW => ⟨⟨(), rfl, trivial, y_931, y_670, z_932, z_927, (rg_w b_y_931 (by decide) (by decide)), (rg_w b_y_670 (by decide) (by decide)), (rg_w b_z_932 (by decide) (by decide)), (by omega), by rw [ht]; exact hP9, va_K.moved hW.alike hK9, hD9⟩, hS.F ht⟩) hS.2.2 dX1_advance_322
              ·
                refine lv_icmp_eq (tgt := 304) hx hb dX1_advance_283 (by decide) (fun c_928 => ?_) (fun c_928 => ?_)
                ·
                  have n_c_928 : (z_927.toInt : Int) = 59 := c_eq rfl (by decide) c_928
                  have b_z_927 : (59 : Int) ≤ z_927.toInt ∧ z_927.toInt ≤ 59 := r_eq1 (ti_rng z_927) (by decide : (59 : Int) ≤ (59 : Int32).toInt ∧ (59 : Int32).toInt ≤ 59) n_c_928 (by decide)
                  refine lv_iconst (v := 3) hx hb dX1_advance_304 (by decide) ?_
                  refine lv_goto (tgt := 309) hx hb dX1_advance_305 (by decide) ?_
                  exact hj_309_931 (3 : Int32) _ _ _ ⟨(show (3 : Int) ≤ (3 : Int32).toInt ∧ (3 : Int32).toInt ≤ 4 from (rg_w (by decide : (3 : Int) ≤ (3 : Int32).toInt ∧ (3 : Int32).toInt ≤ 3) (by decide) (by decide))), hP, hD, hS, lv_sub hl [0, 1, 2] rfl⟩
                ·
                  have n_c_928 : (z_927.toInt : Int) ≠ 59 := c_ne rfl (by decide) c_928
                  refine lv_aload_n hx hb dX1_advance_286 rfl (lv_at hl 2 rfl) ?_
                  refine va_get (D := (dC, dI)) (ci := 0) (v := .int z_927) (C := RX1) (T := TX1) (N := 9) hx hb hts iX1_advance_X1 hown hK hP 0 rfl rfl 7 (by decide) (hts (.fieldLink RX1 172 "LuckyTicket$Reader" "value" "I") (List.mem_of_getElem? (i := 4) rfl)) (fun _ h9 => h9) rfl dX1_advance_287 ?_
                  refine lv_bipush (v := 40) hx hb dX1_advance_290 (by decide) ?_
                  refine lv_icmp_eq (tgt := 304) hx hb dX1_advance_292 (by decide) (fun c_933 => ?_) (fun c_933 => ?_)
                  ·
                    have n_c_933 : (z_927.toInt : Int) = 40 := c_eq rfl (by decide) c_933
                    have b_z_927 : (40 : Int) ≤ z_927.toInt ∧ z_927.toInt ≤ 40 := r_eq1 (ti_rng z_927) (by decide : (40 : Int) ≤ (40 : Int32).toInt ∧ (40 : Int32).toInt ≤ 40) n_c_933 (by decide)
                    refine lv_iconst (v := 3) hx hb dX1_advance_304 (by decide) ?_
                    refine lv_goto (tgt := 309) hx hb dX1_advance_305 (by decide) ?_
                    exact hj_309_931 (3 : Int32) _ _ _ ⟨(show (3 : Int) ≤ (3 : Int32).toInt ∧ (3 : Int32).toInt ≤ 4 from (rg_w (by decide : (3 : Int) ≤ (3 : Int32).toInt ∧ (3 : Int32).toInt ≤ 3) (by decide) (by decide))), hP, hD, hS, lv_sub hl [0, 1, 2] rfl⟩
                  ·
                    have n_c_933 : (z_927.toInt : Int) ≠ 40 := c_ne rfl (by decide) c_933
                    refine lv_aload_n hx hb dX1_advance_295 rfl (lv_at hl 2 rfl) ?_
                    refine va_get (D := (dC, dI)) (ci := 0) (v := .int z_927) (C := RX1) (T := TX1) (N := 9) hx hb hts iX1_advance_X1 hown hK hP 0 rfl rfl 7 (by decide) (hts (.fieldLink RX1 172 "LuckyTicket$Reader" "value" "I") (List.mem_of_getElem? (i := 4) rfl)) (fun _ h9 => h9) rfl dX1_advance_296 ?_
                    refine lv_bipush (v := 41) hx hb dX1_advance_299 (by decide) ?_
                    refine lv_icmp_ne (tgt := 308) hx hb dX1_advance_301 (by decide) (fun c_934 => ?_) (fun c_934 => ?_)
                    ·
                      have n_c_934 : (z_927.toInt : Int) ≠ 41 := c_ne rfl (by decide) c_934
                      refine lv_iconst (v := 4) hx hb dX1_advance_308 (by decide) ?_
                      exact hj_309_931 (4 : Int32) _ _ _ ⟨(show (3 : Int) ≤ (4 : Int32).toInt ∧ (4 : Int32).toInt ≤ 4 from (rg_w (by decide : (4 : Int) ≤ (4 : Int32).toInt ∧ (4 : Int32).toInt ≤ 4) (by decide) (by decide))), hP, hD, hS, lv_sub hl [0, 1, 2] rfl⟩
                    ·
                      have n_c_934 : (z_927.toInt : Int) = 41 := c_eq rfl (by decide) c_934
                      have b_z_927 : (41 : Int) ≤ z_927.toInt ∧ z_927.toInt ≤ 41 := r_eq1 (ti_rng z_927) (by decide : (41 : Int) ≤ (41 : Int32).toInt ∧ (41 : Int32).toInt ≤ 41) n_c_934 (by decide)
                      refine lv_iconst (v := 3) hx hb dX1_advance_304 (by decide) ?_
                      refine lv_goto (tgt := 309) hx hb dX1_advance_305 (by decide) ?_
                      exact hj_309_931 (3 : Int32) _ _ _ ⟨(show (3 : Int) ≤ (3 : Int32).toInt ∧ (3 : Int32).toInt ≤ 4 from (rg_w (by decide : (3 : Int) ≤ (3 : Int32).toInt ∧ (3 : Int32).toInt ≤ 3) (by decide) (by decide))), hP, hD, hS, lv_sub hl [0, 1, 2] rfl⟩
            ·
              have n_c_926 : (z_925.toInt : Int) ≤ 57 := c_ngt rfl (by decide) c_926
              have b_z_925 : (-2147483648 : Int) ≤ z_925.toInt ∧ z_925.toInt ≤ 57 := r_le1 (ti_rng z_925) (by decide : (57 : Int) ≤ (57 : Int32).toInt ∧ (57 : Int32).toInt ≤ 57) n_c_926 (by decide)
              refine lv_aload_n hx hb dX1_advance_180 rfl (lv_at hl 2 rfl) ?_
              refine lv_iconst (v := 2) hx hb dX1_advance_181 (by decide) ?_
              refine va_put (D := (dC, dI)) (ci := 0) (v := .int 2) (ty := .int) (C := RX1) (T := TX1) (N := 9) hx hb hts iX1_advance_X1 tyX1 tyX1_ok nmX1 hown hK hP hD hS 0 rfl rfl 4 (by decide) (hts (.fieldLink RX1 39 "LuckyTicket$Reader" "token" "I") (List.mem_of_getElem? (i := 5) rfl)) (fun _ h9 => h9) rfl (by decide +kernel) rfl rfl (Nat.le_of_ble_eq_true rfl) dX1_advance_182 (fun H locs hP hD hS => ?_)
              have hP : va_P (dC, dI) vwCl [(rd, .inr (0, [.ref tp, .ref sc, .int xf, .int xp, .int 2, .int y_670, .int y_670, .int 0, .int xj])), (tp, .inr (6, [.ref tb, .int ts])), (tb, .inl (cB, 1200, .inl fb))] H := hP
              have hD : va_D A [(rd, .inr (0, [.ref tp, .ref sc, .int xf, .int xp, .int 2, .int y_670, .int y_670, .int 0, .int xj])), (tp, .inr (6, [.ref tb, .int ts])), (tb, .inl (cB, 1200, .inl fb))] := hD
              refine loopW (σ := Int32 × Int32) (fun v => (1200 - v.1.toInt).toNat) (fun v H locs ls => ((0 : Int) ≤ v.1.toInt ∧ v.1.toInt ≤ 1200) ∧ (y_670.toInt ≤ v.1.toInt) ∧ va_P (dC, dI) vwCl [(rd, .inr (0, [.ref tp, .ref sc, .int xf, .int xp, .int 2, .int y_670, .int v.1, .int v.2, .int xj])), (tp, .inr (6, [.ref tb, .int ts])), (tb, .inl (cB, 1200, .inl fb))] H ∧ va_D A [(rd, .inr (0, [.ref tp, .ref sc, .int xf, .int xp, .int 2, .int y_670, .int v.1, .int v.2, .int xj])), (tp, .inr (6, [.ref tb, .int ts])), (tb, .inl (cB, 1200, .inl fb))] ∧ va_S A s.heap H locs ∧ lv_has ls 3 [(2, .int ts), (1, .ref tb), (0, .ref rd)]) (fun v H locs ls hI ih_185_963 => ?_) (y_670, (0 : Int32)) ⟨(show (0 : Int) ≤ y_670.toInt ∧ y_670.toInt ≤ 1200 from (rg_w b_y_670 (by decide) (by decide))), (show y_670.toInt ≤ y_670.toInt from (by have zl : (2 : Int32).toInt = 2 := (by decide); have zl : (0 : Int32).toInt = 0 := (by decide); omega)), hP, hD, hS, lv_sub hl [0, 1, 2] rfl⟩
              obtain ⟨y_946, y_947⟩ := v
              obtain ⟨b_y_946, hss, hP, hD, hS, hl⟩ := hI
              have b_y_946 : (0 : Int) ≤ y_946.toInt ∧ y_946.toInt ≤ 1200 := b_y_946
              have hss : y_670.toInt ≤ y_946.toInt := hss
              have hP : va_P (dC, dI) vwCl [(rd, .inr (0, [.ref tp, .ref sc, .int xf, .int xp, .int 2, .int y_670, .int y_946, .int y_947, .int xj])), (tp, .inr (6, [.ref tb, .int ts])), (tb, .inl (cB, 1200, .inl fb))] H := hP
              have hD : va_D A [(rd, .inr (0, [.ref tp, .ref sc, .int xf, .int xp, .int 2, .int y_670, .int y_946, .int y_947, .int xj])), (tp, .inr (6, [.ref tb, .int ts])), (tb, .inl (cB, 1200, .inl fb))] := hD
              have hl : lv_has ls 3 [(2, .int ts), (1, .ref tb), (0, .ref rd)] := hl
              refine lv_aload_n hx hb dX1_advance_185 rfl (lv_at hl 2 rfl) ?_
              refine va_get (D := (dC, dI)) (ci := 0) (v := .int y_946) (C := RX1) (T := TX1) (N := 9) hx hb hts iX1_advance_X1 hown hK hP 0 rfl rfl 6 (by decide) (hts (.fieldLink RX1 26 "LuckyTicket$Reader" "stop" "I") (List.mem_of_getElem? (i := 2) rfl)) (fun _ h9 => h9) rfl dX1_advance_186 ?_
              refine lv_iload_n hx hb dX1_advance_189 rfl (lv_at hl 0 rfl) ?_
              refine lv_icmp_ge (tgt := 322) hx hb dX1_advance_190 (by decide) (fun c_964 => ?_) (fun c_964 => ?_)
              ·
                have n_c_964 : (ts.toInt : Int) ≤ y_946.toInt := c_ge rfl rfl c_964
                have b_y_946 : (1 : Int) ≤ y_946.toInt ∧ y_946.toInt ≤ 1200 := r_le2 b_ts b_y_946 n_c_964 (by decide)
                have hP9 := hP.sub (ws' := [(rd, .inr (0, [.ref tp, .ref sc, .int xf, .int xp, .int 2, .int y_670, .int y_946, .int y_947, .int xj])), (tp, .inr (6, [.ref tb, .int ts])), (tb, .inl (cB, 1200, .inl fb))]) [0, 1, 2] rfl
                have hD9 := hD.sub (ws' := [(rd, .inr (0, [.ref tp, .ref sc, .int xf, .int xp, .int 2, .int y_670, .int y_946, .int y_947, .int xj])), (tp, .inr (6, [.ref tb, .int ts])), (tb, .inl (cB, 1200, .inl fb))]) [0, 1, 2] (by decide) rfl
                have hK9 := hK.sub (tys' := [(cB, .byte)]) [0] rfl
                exact W.vret hx hb hr (fun t ht hW => ⟨⟨(), rfl, trivial, 2, y_670, y_946, y_947, (rg_w (by decide : (2 : Int) ≤ (2 : Int32).toInt ∧ (2 : Int32).toInt ≤ 2) (by decide) (by decide)), (rg_w b_y_670 (by decide) (by decide)), (rg_w b_y_946 (by decide) (by decide)), (by omega), by rw [ht]; exact hP9, va_K.moved hW.alike hK9, hD9⟩, hS.F ht⟩) hS.2.2 dX1_advance_322
              ·
                have n_c_964 : (y_946.toInt : Int) < ts.toInt := c_nge rfl rfl c_964
                have b_y_946 : (0 : Int) ≤ y_946.toInt ∧ y_946.toInt ≤ 1199 := r_lt1 b_y_946 b_ts n_c_964 (by decide)
                refine lv_aload_n hx hb dX1_advance_193 rfl (lv_at hl 1 rfl) ?_
                refine lv_aload_n hx hb dX1_advance_194 rfl (lv_at hl 2 rfl) ?_
                refine va_get (D := (dC, dI)) (ci := 0) (v := .int y_946) (C := RX1) (T := TX1) (N := 9) hx hb hts iX1_advance_X1 hown hK hP 0 rfl rfl 6 (by decide) (hts (.fieldLink RX1 26 "LuckyTicket$Reader" "stop" "I") (List.mem_of_getElem? (i := 2) rfl)) (fun _ h9 => h9) rfl dX1_advance_195 ?_
                refine va_bald hx hb hK hP 2 0 rfl rfl (vp_in_b b_y_946 (by decide) (by decide)) dX1_advance_198 ?_
                refine lv_topi (fun z_965 e_z_965 => ?_)
                refine lv_bipush (v := 48) hx hb dX1_advance_199 (by decide) ?_
                refine lv_icmp_lt (tgt := 322) hx hb dX1_advance_201 (by decide) (fun c_966 => ?_) (fun c_966 => ?_)
                ·
                  have n_c_966 : (z_965.toInt : Int) < 48 := c_lt rfl (by decide) c_966
                  have b_z_965 : (-2147483648 : Int) ≤ z_965.toInt ∧ z_965.toInt ≤ 47 := r_lt1 (ti_rng z_965) (by decide : (48 : Int) ≤ (48 : Int32).toInt ∧ (48 : Int32).toInt ≤ 48) n_c_966 (by decide)
                  have hP9 := hP.sub (ws' := [(rd, .inr (0, [.ref tp, .ref sc, .int xf, .int xp, .int 2, .int y_670, .int y_946, .int y_947, .int xj])), (tp, .inr (6, [.ref tb, .int ts])), (tb, .inl (cB, 1200, .inl fb))]) [0, 1, 2] rfl
                  have hD9 := hD.sub (ws' := [(rd, .inr (0, [.ref tp, .ref sc, .int xf, .int xp, .int 2, .int y_670, .int y_946, .int y_947, .int xj])), (tp, .inr (6, [.ref tb, .int ts])), (tb, .inl (cB, 1200, .inl fb))]) [0, 1, 2] (by decide) rfl
                  have hK9 := hK.sub (tys' := [(cB, .byte)]) [0] rfl
                  exact W.vret hx hb hr (fun t ht hW => ⟨⟨(), rfl, trivial, 2, y_670, y_946, y_947, (rg_w (by decide : (2 : Int) ≤ (2 : Int32).toInt ∧ (2 : Int32).toInt ≤ 2) (by decide) (by decide)), (rg_w b_y_670 (by decide) (by decide)), (rg_w b_y_946 (by decide) (by decide)), (by omega), by rw [ht]; exact hP9, va_K.moved hW.alike hK9, hD9⟩, hS.F ht⟩) hS.2.2 dX1_advance_322
                ·
                  have n_c_966 : (48 : Int) ≤ z_965.toInt := c_nlt rfl (by decide) c_966
                  have b_z_965 : (48 : Int) ≤ z_965.toInt ∧ z_965.toInt ≤ 2147483647 := r_le2 (by decide : (48 : Int) ≤ (48 : Int32).toInt ∧ (48 : Int32).toInt ≤ 48) (ti_rng z_965) n_c_966 (by decide)
                  refine lv_aload_n hx hb dX1_advance_204 rfl (lv_at hl 1 rfl) ?_
                  refine lv_aload_n hx hb dX1_advance_205 rfl (lv_at hl 2 rfl) ?_
                  refine va_get (D := (dC, dI)) (ci := 0) (v := .int y_946) (C := RX1) (T := TX1) (N := 9) hx hb hts iX1_advance_X1 hown hK hP 0 rfl rfl 6 (by decide) (hts (.fieldLink RX1 26 "LuckyTicket$Reader" "stop" "I") (List.mem_of_getElem? (i := 2) rfl)) (fun _ h9 => h9) rfl dX1_advance_206 ?_
                  refine va_bald hx hb hK hP 2 0 rfl rfl (vp_in_b b_y_946 (by decide) (by decide)) dX1_advance_209 ?_
                  refine lv_topi (fun z_967 e_z_967 => ?_)
                  refine lv_bipush (v := 57) hx hb dX1_advance_210 (by decide) ?_
                  refine lv_icmp_gt (tgt := 322) hx hb dX1_advance_212 (by decide) (fun c_968 => ?_) (fun c_968 => ?_)
                  ·
                    have n_c_968 : (57 : Int) < z_967.toInt := c_gt rfl (by decide) c_968
                    have b_z_967 : (58 : Int) ≤ z_967.toInt ∧ z_967.toInt ≤ 2147483647 := r_lt2 (by decide : (57 : Int) ≤ (57 : Int32).toInt ∧ (57 : Int32).toInt ≤ 57) (ti_rng z_967) n_c_968 (by decide)
                    have hP9 := hP.sub (ws' := [(rd, .inr (0, [.ref tp, .ref sc, .int xf, .int xp, .int 2, .int y_670, .int y_946, .int y_947, .int xj])), (tp, .inr (6, [.ref tb, .int ts])), (tb, .inl (cB, 1200, .inl fb))]) [0, 1, 2] rfl
                    have hD9 := hD.sub (ws' := [(rd, .inr (0, [.ref tp, .ref sc, .int xf, .int xp, .int 2, .int y_670, .int y_946, .int y_947, .int xj])), (tp, .inr (6, [.ref tb, .int ts])), (tb, .inl (cB, 1200, .inl fb))]) [0, 1, 2] (by decide) rfl
                    have hK9 := hK.sub (tys' := [(cB, .byte)]) [0] rfl
                    exact W.vret hx hb hr (fun t ht hW => ⟨⟨(), rfl, trivial, 2, y_670, y_946, y_947, (rg_w (by decide : (2 : Int) ≤ (2 : Int32).toInt ∧ (2 : Int32).toInt ≤ 2) (by decide) (by decide)), (rg_w b_y_670 (by decide) (by decide)), (rg_w b_y_946 (by decide) (by decide)), (by omega), by rw [ht]; exact hP9, va_K.moved hW.alike hK9, hD9⟩, hS.F ht⟩) hS.2.2 dX1_advance_322
                  ·
                    have n_c_968 : (z_967.toInt : Int) ≤ 57 := c_ngt rfl (by decide) c_968
                    have b_z_967 : (-2147483648 : Int) ≤ z_967.toInt ∧ z_967.toInt ≤ 57 := r_le1 (ti_rng z_967) (by decide : (57 : Int) ≤ (57 : Int32).toInt ∧ (57 : Int32).toInt ≤ 57) n_c_968 (by decide)
                    refine lv_aload_n hx hb dX1_advance_215 rfl (lv_at hl 2 rfl) ?_
                    refine lv_aload_n hx hb dX1_advance_216 rfl (lv_at hl 2 rfl) ?_
                    refine va_get (D := (dC, dI)) (ci := 0) (v := .int y_947) (C := RX1) (T := TX1) (N := 9) hx hb hts iX1_advance_X1 hown hK hP 0 rfl rfl 7 (by decide) (hts (.fieldLink RX1 172 "LuckyTicket$Reader" "value" "I") (List.mem_of_getElem? (i := 4) rfl)) (fun _ h9 => h9) rfl dX1_advance_217 ?_
                    refine lv_sipush (v := 1000) hx hb dX1_advance_220 (by decide) ?_
                    refine cutW (σ := Int32) (pc2 := 250) (st2 := fun v => [.int v, .ref rd]) (cells2 := 0) (slots2 := 0) (fun v H locs ls => va_P (dC, dI) vwCl [(rd, .inr (0, [.ref tp, .ref sc, .int xf, .int xp, .int 2, .int y_670, .int y_946, .int y_947, .int xj])), (tp, .inr (6, [.ref tb, .int ts])), (tb, .inl (cB, 1200, .inl fb))] H ∧ va_D A [(rd, .inr (0, [.ref tp, .ref sc, .int xf, .int xp, .int 2, .int y_670, .int y_946, .int y_947, .int xj])), (tp, .inr (6, [.ref tb, .int ts])), (tb, .inl (cB, 1200, .inl fb))] ∧ va_S A s.heap H locs ∧ lv_has ls 3 [(2, .int ts), (1, .ref tb), (0, .ref rd)]) (fun v H locs ls hI => ?_) (fun hj_250_974 => ?_)
                    ·
                      obtain ⟨y_974, rfl⟩ : ∃ z, z = v := ⟨_, rfl⟩
                      obtain ⟨hP, hD, hS, hl⟩ := hI
                      have hP : va_P (dC, dI) vwCl [(rd, .inr (0, [.ref tp, .ref sc, .int xf, .int xp, .int 2, .int y_670, .int y_946, .int y_947, .int xj])), (tp, .inr (6, [.ref tb, .int ts])), (tb, .inl (cB, 1200, .inl fb))] H := hP
                      have hD : va_D A [(rd, .inr (0, [.ref tp, .ref sc, .int xf, .int xp, .int 2, .int y_670, .int y_946, .int y_947, .int xj])), (tp, .inr (6, [.ref tb, .int ts])), (tb, .inl (cB, 1200, .inl fb))] := hD
                      have hl : lv_has ls 3 [(2, .int ts), (1, .ref tb), (0, .ref rd)] := hl
                      refine va_put (D := (dC, dI)) (ci := 0) (v := .int y_974) (ty := .int) (C := RX1) (T := TX1) (N := 9) hx hb hts iX1_advance_X1 tyX1 tyX1_ok nmX1 hown hK hP hD hS 0 rfl rfl 7 (by decide) (hts (.fieldLink RX1 172 "LuckyTicket$Reader" "value" "I") (List.mem_of_getElem? (i := 4) rfl)) (fun _ h9 => h9) rfl (by decide +kernel) rfl rfl (Nat.le_of_ble_eq_true rfl) dX1_advance_250 (fun H locs hP hD hS => ?_)
                      have hP : va_P (dC, dI) vwCl [(rd, .inr (0, [.ref tp, .ref sc, .int xf, .int xp, .int 2, .int y_670, .int y_946, .int y_974, .int xj])), (tp, .inr (6, [.ref tb, .int ts])), (tb, .inl (cB, 1200, .inl fb))] H := hP
                      have hD : va_D A [(rd, .inr (0, [.ref tp, .ref sc, .int xf, .int xp, .int 2, .int y_670, .int y_946, .int y_974, .int xj])), (tp, .inr (6, [.ref tb, .int ts])), (tb, .inl (cB, 1200, .inl fb))] := hD
                      refine lv_aload_n hx hb dX1_advance_253 rfl (lv_at hl 2 rfl) ?_
                      refine lv_dup hx hb dX1_advance_254 rfl ?_
                      refine va_get (D := (dC, dI)) (ci := 0) (v := .int y_946) (C := RX1) (T := TX1) (N := 9) hx hb hts iX1_advance_X1 hown hK hP 0 rfl rfl 6 (by decide) (hts (.fieldLink RX1 26 "LuckyTicket$Reader" "stop" "I") (List.mem_of_getElem? (i := 2) rfl)) (fun _ h9 => h9) rfl dX1_advance_255 ?_
                      refine lv_iconst (v := 1) hx hb dX1_advance_258 (by decide) ?_
                      refine lv_iadd hx hb dX1_advance_259 ?_
                      refine lv_topi (fun z_975 e_z_975 => ?_)
                      obtain ⟨q_z_975, b_z_975⟩ := ti_add (lo := 1) (hi := 1200) e_z_975 rfl (by decide : (1 : Int32).toInt = 1) b_y_946 (by decide : (1 : Int) ≤ (1 : Int32).toInt ∧ (1 : Int32).toInt ≤ 1) (by decide)
                      refine va_put (D := (dC, dI)) (ci := 0) (v := .int z_975) (ty := .int) (C := RX1) (T := TX1) (N := 9) hx hb hts iX1_advance_X1 tyX1 tyX1_ok nmX1 hown hK hP hD hS 0 rfl rfl 6 (by decide) (hts (.fieldLink RX1 26 "LuckyTicket$Reader" "stop" "I") (List.mem_of_getElem? (i := 2) rfl)) (fun _ h9 => h9) rfl (by decide +kernel) rfl rfl (Nat.le_of_ble_eq_true rfl) dX1_advance_260 (fun H locs hP hD hS => ?_)
                      have hP : va_P (dC, dI) vwCl [(rd, .inr (0, [.ref tp, .ref sc, .int xf, .int xp, .int 2, .int y_670, .int z_975, .int y_974, .int xj])), (tp, .inr (6, [.ref tb, .int ts])), (tb, .inl (cB, 1200, .inl fb))] H := hP
                      have hD : va_D A [(rd, .inr (0, [.ref tp, .ref sc, .int xf, .int xp, .int 2, .int y_670, .int z_975, .int y_974, .int xj])), (tp, .inr (6, [.ref tb, .int ts])), (tb, .inl (cB, 1200, .inl fb))] := hD
                      refine lv_goto (tgt := 185) hx hb dX1_advance_263 (by decide) ?_
                      exact ih_185_963 (z_975, y_974) _ _ _ ⟨(show (0 : Int) ≤ z_975.toInt ∧ z_975.toInt ≤ 1200 from (rg_w b_z_975 (by decide) (by decide))), (show y_670.toInt ≤ z_975.toInt from (by have zl : (2 : Int32).toInt = 2 := (by decide); omega)), hP, hD, hS, lv_sub hl [0, 1, 2] rfl⟩ (show (1200 - z_975.toInt).toNat < (1200 - y_946.toInt).toNat by omega)
                    ·
                      refine lv_icmp_le (tgt := 233) hx hb dX1_advance_223 (by decide) (fun c_969 => ?_) (fun c_969 => ?_)
                      ·
                        have n_c_969 : (y_947.toInt : Int) ≤ 1000 := c_le rfl (by decide) c_969
                        have b_y_947 : (-2147483648 : Int) ≤ y_947.toInt ∧ y_947.toInt ≤ 1000 := r_le1 (ti_rng y_947) (by decide : (1000 : Int) ≤ (1000 : Int32).toInt ∧ (1000 : Int32).toInt ≤ 1000) n_c_969 (by decide)
                        refine lv_aload_n hx hb dX1_advance_233 rfl (lv_at hl 2 rfl) ?_
                        refine va_get (D := (dC, dI)) (ci := 0) (v := .int y_947) (C := RX1) (T := TX1) (N := 9) hx hb hts iX1_advance_X1 hown hK hP 0 rfl rfl 7 (by decide) (hts (.fieldLink RX1 172 "LuckyTicket$Reader" "value" "I") (List.mem_of_getElem? (i := 4) rfl)) (fun _ h9 => h9) rfl dX1_advance_234 ?_
                        refine lv_bipush (v := 10) hx hb dX1_advance_237 (by decide) ?_
                        refine lv_imul hx hb dX1_advance_239 ?_
                        refine lv_topi (fun z_976 e_z_976 => ?_)
                        refine lv_aload_n hx hb dX1_advance_240 rfl (lv_at hl 1 rfl) ?_
                        refine lv_aload_n hx hb dX1_advance_241 rfl (lv_at hl 2 rfl) ?_
                        refine va_get (D := (dC, dI)) (ci := 0) (v := .int y_946) (C := RX1) (T := TX1) (N := 9) hx hb hts iX1_advance_X1 hown hK hP 0 rfl rfl 6 (by decide) (hts (.fieldLink RX1 26 "LuckyTicket$Reader" "stop" "I") (List.mem_of_getElem? (i := 2) rfl)) (fun _ h9 => h9) rfl dX1_advance_242 ?_
                        refine va_bald hx hb hK hP 2 0 rfl rfl (vp_in_b b_y_946 (by decide) (by decide)) dX1_advance_245 ?_
                        refine lv_topi (fun z_977 e_z_977 => ?_)
                        refine lv_iadd hx hb dX1_advance_246 ?_
                        refine lv_topi (fun z_978 e_z_978 => ?_)
                        refine lv_bipush (v := 48) hx hb dX1_advance_247 (by decide) ?_
                        refine lv_isub hx hb dX1_advance_249 ?_
                        refine lv_topi (fun z_979 e_z_979 => ?_)
                        exact hj_250_974 z_979 _ _ _ ⟨hP, hD, hS, lv_sub hl [0, 1, 2] rfl⟩
                      ·
                        have n_c_969 : (1000 : Int) < y_947.toInt := c_nle rfl (by decide) c_969
                        have b_y_947 : (1001 : Int) ≤ y_947.toInt ∧ y_947.toInt ≤ 2147483647 := r_lt2 (by decide : (1000 : Int) ≤ (1000 : Int32).toInt ∧ (1000 : Int32).toInt ≤ 1000) (ti_rng y_947) n_c_969 (by decide)
                        refine lv_aload_n hx hb dX1_advance_226 rfl (lv_at hl 2 rfl) ?_
                        refine va_get (D := (dC, dI)) (ci := 0) (v := .int y_947) (C := RX1) (T := TX1) (N := 9) hx hb hts iX1_advance_X1 hown hK hP 0 rfl rfl 7 (by decide) (hts (.fieldLink RX1 172 "LuckyTicket$Reader" "value" "I") (List.mem_of_getElem? (i := 4) rfl)) (fun _ h9 => h9) rfl dX1_advance_227 ?_
                        refine lv_goto (tgt := 250) hx hb dX1_advance_230 (by decide) ?_
                        exact hj_250_974 y_947 _ _ _ ⟨hP, hD, hS, lv_sub hl [0, 1, 2] rfl⟩
        ·
          have n_c_914 : (z_913.toInt : Int) ≤ 122 := c_ngt rfl (by decide) c_914
          have b_z_913 : (-2147483648 : Int) ≤ z_913.toInt ∧ z_913.toInt ≤ 122 := r_le1 (ti_rng z_913) (by decide : (122 : Int) ≤ (122 : Int32).toInt ∧ (122 : Int32).toInt ≤ 122) n_c_914 (by decide)
          refine lv_aload_n hx hb dX1_advance_110 rfl (lv_at hl 2 rfl) ?_
          refine lv_iconst (v := 1) hx hb dX1_advance_111 (by decide) ?_
          refine va_put (D := (dC, dI)) (ci := 0) (v := .int 1) (ty := .int) (C := RX1) (T := TX1) (N := 9) hx hb hts iX1_advance_X1 tyX1 tyX1_ok nmX1 hown hK hP hD hS 0 rfl rfl 4 (by decide) (hts (.fieldLink RX1 39 "LuckyTicket$Reader" "token" "I") (List.mem_of_getElem? (i := 5) rfl)) (fun _ h9 => h9) rfl (by decide +kernel) rfl rfl (Nat.le_of_ble_eq_true rfl) dX1_advance_112 (fun H locs hP hD hS => ?_)
          have hP : va_P (dC, dI) vwCl [(rd, .inr (0, [.ref tp, .ref sc, .int xf, .int xp, .int 1, .int y_670, .int y_670, .int 0, .int xj])), (tp, .inr (6, [.ref tb, .int ts])), (tb, .inl (cB, 1200, .inl fb))] H := hP
          have hD : va_D A [(rd, .inr (0, [.ref tp, .ref sc, .int xf, .int xp, .int 1, .int y_670, .int y_670, .int 0, .int xj])), (tp, .inr (6, [.ref tb, .int ts])), (tb, .inl (cB, 1200, .inl fb))] := hD
          refine loopW (σ := Int32) (fun v => (1200 - v.toInt).toNat) (fun v H locs ls => ((0 : Int) ≤ v.toInt ∧ v.toInt ≤ 1200) ∧ (y_670.toInt ≤ v.toInt) ∧ va_P (dC, dI) vwCl [(rd, .inr (0, [.ref tp, .ref sc, .int xf, .int xp, .int 1, .int y_670, .int v, .int 0, .int xj])), (tp, .inr (6, [.ref tb, .int ts])), (tb, .inl (cB, 1200, .inl fb))] H ∧ va_D A [(rd, .inr (0, [.ref tp, .ref sc, .int xf, .int xp, .int 1, .int y_670, .int v, .int 0, .int xj])), (tp, .inr (6, [.ref tb, .int ts])), (tb, .inl (cB, 1200, .inl fb))] ∧ va_S A s.heap H locs ∧ lv_has ls 3 [(2, .int ts), (1, .ref tb), (0, .ref rd)]) (fun v H locs ls hI ih_115_992 => ?_) y_670 ⟨(show (0 : Int) ≤ y_670.toInt ∧ y_670.toInt ≤ 1200 from (rg_w b_y_670 (by decide) (by decide))), (show y_670.toInt ≤ y_670.toInt from (by have zl : (1 : Int32).toInt = 1 := (by decide); have zl : (0 : Int32).toInt = 0 := (by decide); omega)), hP, hD, hS, lv_sub hl [0, 1, 2] rfl⟩
          obtain ⟨y_986, rfl⟩ : ∃ z, z = v := ⟨_, rfl⟩
          obtain ⟨b_y_986, hss, hP, hD, hS, hl⟩ := hI
          have b_y_986 : (0 : Int) ≤ y_986.toInt ∧ y_986.toInt ≤ 1200 := b_y_986
          have hss : y_670.toInt ≤ y_986.toInt := hss
          have hP : va_P (dC, dI) vwCl [(rd, .inr (0, [.ref tp, .ref sc, .int xf, .int xp, .int 1, .int y_670, .int y_986, .int 0, .int xj])), (tp, .inr (6, [.ref tb, .int ts])), (tb, .inl (cB, 1200, .inl fb))] H := hP
          have hD : va_D A [(rd, .inr (0, [.ref tp, .ref sc, .int xf, .int xp, .int 1, .int y_670, .int y_986, .int 0, .int xj])), (tp, .inr (6, [.ref tb, .int ts])), (tb, .inl (cB, 1200, .inl fb))] := hD
          have hl : lv_has ls 3 [(2, .int ts), (1, .ref tb), (0, .ref rd)] := hl
          refine lv_aload_n hx hb dX1_advance_115 rfl (lv_at hl 2 rfl) ?_
          refine va_get (D := (dC, dI)) (ci := 0) (v := .int y_986) (C := RX1) (T := TX1) (N := 9) hx hb hts iX1_advance_X1 hown hK hP 0 rfl rfl 6 (by decide) (hts (.fieldLink RX1 26 "LuckyTicket$Reader" "stop" "I") (List.mem_of_getElem? (i := 2) rfl)) (fun _ h9 => h9) rfl dX1_advance_116 ?_
          refine lv_iload_n hx hb dX1_advance_119 rfl (lv_at hl 0 rfl) ?_
          refine lv_icmp_ge (tgt := 322) hx hb dX1_advance_120 (by decide) (fun c_993 => ?_) (fun c_993 => ?_)
          ·
            have n_c_993 : (ts.toInt : Int) ≤ y_986.toInt := c_ge rfl rfl c_993
            have b_y_986 : (1 : Int) ≤ y_986.toInt ∧ y_986.toInt ≤ 1200 := r_le2 b_ts b_y_986 n_c_993 (by decide)
            have hP9 := hP.sub (ws' := [(rd, .inr (0, [.ref tp, .ref sc, .int xf, .int xp, .int 1, .int y_670, .int y_986, .int 0, .int xj])), (tp, .inr (6, [.ref tb, .int ts])), (tb, .inl (cB, 1200, .inl fb))]) [0, 1, 2] rfl
            have hD9 := hD.sub (ws' := [(rd, .inr (0, [.ref tp, .ref sc, .int xf, .int xp, .int 1, .int y_670, .int y_986, .int 0, .int xj])), (tp, .inr (6, [.ref tb, .int ts])), (tb, .inl (cB, 1200, .inl fb))]) [0, 1, 2] (by decide) rfl
            have hK9 := hK.sub (tys' := [(cB, .byte)]) [0] rfl
            exact W.vret hx hb hr (fun t ht hW => ⟨⟨(), rfl, trivial, 1, y_670, y_986, 0, (rg_w (by decide : (1 : Int) ≤ (1 : Int32).toInt ∧ (1 : Int32).toInt ≤ 1) (by decide) (by decide)), (rg_w b_y_670 (by decide) (by decide)), (rg_w b_y_986 (by decide) (by decide)), (by omega), by rw [ht]; exact hP9, va_K.moved hW.alike hK9, hD9⟩, hS.F ht⟩) hS.2.2 dX1_advance_322
          ·
            have n_c_993 : (y_986.toInt : Int) < ts.toInt := c_nge rfl rfl c_993
            have b_y_986 : (0 : Int) ≤ y_986.toInt ∧ y_986.toInt ≤ 1199 := r_lt1 b_y_986 b_ts n_c_993 (by decide)
            refine lv_aload_n hx hb dX1_advance_123 rfl (lv_at hl 1 rfl) ?_
            refine lv_aload_n hx hb dX1_advance_124 rfl (lv_at hl 2 rfl) ?_
            refine va_get (D := (dC, dI)) (ci := 0) (v := .int y_986) (C := RX1) (T := TX1) (N := 9) hx hb hts iX1_advance_X1 hown hK hP 0 rfl rfl 6 (by decide) (hts (.fieldLink RX1 26 "LuckyTicket$Reader" "stop" "I") (List.mem_of_getElem? (i := 2) rfl)) (fun _ h9 => h9) rfl dX1_advance_125 ?_
            refine va_bald hx hb hK hP 2 0 rfl rfl (vp_in_b b_y_986 (by decide) (by decide)) dX1_advance_128 ?_
            refine lv_topi (fun z_994 e_z_994 => ?_)
            refine lv_bipush (v := 97) hx hb dX1_advance_129 (by decide) ?_
            refine lv_icmp_lt (tgt := 322) hx hb dX1_advance_131 (by decide) (fun c_995 => ?_) (fun c_995 => ?_)
            ·
              have n_c_995 : (z_994.toInt : Int) < 97 := c_lt rfl (by decide) c_995
              have b_z_994 : (-2147483648 : Int) ≤ z_994.toInt ∧ z_994.toInt ≤ 96 := r_lt1 (ti_rng z_994) (by decide : (97 : Int) ≤ (97 : Int32).toInt ∧ (97 : Int32).toInt ≤ 97) n_c_995 (by decide)
              have hP9 := hP.sub (ws' := [(rd, .inr (0, [.ref tp, .ref sc, .int xf, .int xp, .int 1, .int y_670, .int y_986, .int 0, .int xj])), (tp, .inr (6, [.ref tb, .int ts])), (tb, .inl (cB, 1200, .inl fb))]) [0, 1, 2] rfl
              have hD9 := hD.sub (ws' := [(rd, .inr (0, [.ref tp, .ref sc, .int xf, .int xp, .int 1, .int y_670, .int y_986, .int 0, .int xj])), (tp, .inr (6, [.ref tb, .int ts])), (tb, .inl (cB, 1200, .inl fb))]) [0, 1, 2] (by decide) rfl
              have hK9 := hK.sub (tys' := [(cB, .byte)]) [0] rfl
              exact W.vret hx hb hr (fun t ht hW => ⟨⟨(), rfl, trivial, 1, y_670, y_986, 0, (rg_w (by decide : (1 : Int) ≤ (1 : Int32).toInt ∧ (1 : Int32).toInt ≤ 1) (by decide) (by decide)), (rg_w b_y_670 (by decide) (by decide)), (rg_w b_y_986 (by decide) (by decide)), (by omega), by rw [ht]; exact hP9, va_K.moved hW.alike hK9, hD9⟩, hS.F ht⟩) hS.2.2 dX1_advance_322
            ·
              have n_c_995 : (97 : Int) ≤ z_994.toInt := c_nlt rfl (by decide) c_995
              have b_z_994 : (97 : Int) ≤ z_994.toInt ∧ z_994.toInt ≤ 2147483647 := r_le2 (by decide : (97 : Int) ≤ (97 : Int32).toInt ∧ (97 : Int32).toInt ≤ 97) (ti_rng z_994) n_c_995 (by decide)
              refine lv_aload_n hx hb dX1_advance_134 rfl (lv_at hl 1 rfl) ?_
              refine lv_aload_n hx hb dX1_advance_135 rfl (lv_at hl 2 rfl) ?_
              refine va_get (D := (dC, dI)) (ci := 0) (v := .int y_986) (C := RX1) (T := TX1) (N := 9) hx hb hts iX1_advance_X1 hown hK hP 0 rfl rfl 6 (by decide) (hts (.fieldLink RX1 26 "LuckyTicket$Reader" "stop" "I") (List.mem_of_getElem? (i := 2) rfl)) (fun _ h9 => h9) rfl dX1_advance_136 ?_
              refine va_bald hx hb hK hP 2 0 rfl rfl (vp_in_b b_y_986 (by decide) (by decide)) dX1_advance_139 ?_
              refine lv_topi (fun z_996 e_z_996 => ?_)
              refine lv_bipush (v := 122) hx hb dX1_advance_140 (by decide) ?_
              refine lv_icmp_gt (tgt := 322) hx hb dX1_advance_142 (by decide) (fun c_997 => ?_) (fun c_997 => ?_)
              ·
                have n_c_997 : (122 : Int) < z_996.toInt := c_gt rfl (by decide) c_997
                have b_z_996 : (123 : Int) ≤ z_996.toInt ∧ z_996.toInt ≤ 2147483647 := r_lt2 (by decide : (122 : Int) ≤ (122 : Int32).toInt ∧ (122 : Int32).toInt ≤ 122) (ti_rng z_996) n_c_997 (by decide)
                have hP9 := hP.sub (ws' := [(rd, .inr (0, [.ref tp, .ref sc, .int xf, .int xp, .int 1, .int y_670, .int y_986, .int 0, .int xj])), (tp, .inr (6, [.ref tb, .int ts])), (tb, .inl (cB, 1200, .inl fb))]) [0, 1, 2] rfl
                have hD9 := hD.sub (ws' := [(rd, .inr (0, [.ref tp, .ref sc, .int xf, .int xp, .int 1, .int y_670, .int y_986, .int 0, .int xj])), (tp, .inr (6, [.ref tb, .int ts])), (tb, .inl (cB, 1200, .inl fb))]) [0, 1, 2] (by decide) rfl
                have hK9 := hK.sub (tys' := [(cB, .byte)]) [0] rfl
                exact W.vret hx hb hr (fun t ht hW => ⟨⟨(), rfl, trivial, 1, y_670, y_986, 0, (rg_w (by decide : (1 : Int) ≤ (1 : Int32).toInt ∧ (1 : Int32).toInt ≤ 1) (by decide) (by decide)), (rg_w b_y_670 (by decide) (by decide)), (rg_w b_y_986 (by decide) (by decide)), (by omega), by rw [ht]; exact hP9, va_K.moved hW.alike hK9, hD9⟩, hS.F ht⟩) hS.2.2 dX1_advance_322
              ·
                have n_c_997 : (z_996.toInt : Int) ≤ 122 := c_ngt rfl (by decide) c_997
                have b_z_996 : (-2147483648 : Int) ≤ z_996.toInt ∧ z_996.toInt ≤ 122 := r_le1 (ti_rng z_996) (by decide : (122 : Int) ≤ (122 : Int32).toInt ∧ (122 : Int32).toInt ≤ 122) n_c_997 (by decide)
                refine lv_aload_n hx hb dX1_advance_145 rfl (lv_at hl 2 rfl) ?_
                refine lv_dup hx hb dX1_advance_146 rfl ?_
                refine va_get (D := (dC, dI)) (ci := 0) (v := .int y_986) (C := RX1) (T := TX1) (N := 9) hx hb hts iX1_advance_X1 hown hK hP 0 rfl rfl 6 (by decide) (hts (.fieldLink RX1 26 "LuckyTicket$Reader" "stop" "I") (List.mem_of_getElem? (i := 2) rfl)) (fun _ h9 => h9) rfl dX1_advance_147 ?_
                refine lv_iconst (v := 1) hx hb dX1_advance_150 (by decide) ?_
                refine lv_iadd hx hb dX1_advance_151 ?_
                refine lv_topi (fun z_998 e_z_998 => ?_)
                obtain ⟨q_z_998, b_z_998⟩ := ti_add (lo := 1) (hi := 1200) e_z_998 rfl (by decide : (1 : Int32).toInt = 1) b_y_986 (by decide : (1 : Int) ≤ (1 : Int32).toInt ∧ (1 : Int32).toInt ≤ 1) (by decide)
                refine va_put (D := (dC, dI)) (ci := 0) (v := .int z_998) (ty := .int) (C := RX1) (T := TX1) (N := 9) hx hb hts iX1_advance_X1 tyX1 tyX1_ok nmX1 hown hK hP hD hS 0 rfl rfl 6 (by decide) (hts (.fieldLink RX1 26 "LuckyTicket$Reader" "stop" "I") (List.mem_of_getElem? (i := 2) rfl)) (fun _ h9 => h9) rfl (by decide +kernel) rfl rfl (Nat.le_of_ble_eq_true rfl) dX1_advance_152 (fun H locs hP hD hS => ?_)
                have hP : va_P (dC, dI) vwCl [(rd, .inr (0, [.ref tp, .ref sc, .int xf, .int xp, .int 1, .int y_670, .int z_998, .int 0, .int xj])), (tp, .inr (6, [.ref tb, .int ts])), (tb, .inl (cB, 1200, .inl fb))] H := hP
                have hD : va_D A [(rd, .inr (0, [.ref tp, .ref sc, .int xf, .int xp, .int 1, .int y_670, .int z_998, .int 0, .int xj])), (tp, .inr (6, [.ref tb, .int ts])), (tb, .inl (cB, 1200, .inl fb))] := hD
                refine lv_goto (tgt := 115) hx hb dX1_advance_155 (by decide) ?_
                exact ih_115_992 z_998 _ _ _ ⟨(show (0 : Int) ≤ z_998.toInt ∧ z_998.toInt ≤ 1200 from (rg_w b_z_998 (by decide) (by decide))), (show y_670.toInt ≤ z_998.toInt from (by have zl : (1 : Int32).toInt = 1 := (by decide); have zl : (0 : Int32).toInt = 0 := (by decide); omega)), hP, hD, hS, lv_sub hl [0, 1, 2] rfl⟩ (show (1200 - z_998.toInt).toNat < (1200 - y_986.toInt).toNat by omega)
    ·
      have n_c_845 : (ts.toInt : Int) ≤ y_670.toInt := c_nlt rfl rfl c_845
      refine lv_aload_n hx hb dX1_advance_80 rfl (lv_at hl 2 rfl) ?_
      refine lv_iconst (v := 0) hx hb dX1_advance_81 (by decide) ?_
      refine va_put (D := (dC, dI)) (ci := 0) (v := .int 0) (ty := .int) (C := RX1) (T := TX1) (N := 9) hx hb hts iX1_advance_X1 tyX1 tyX1_ok nmX1 hown hK hP hD hS 0 rfl rfl 4 (by decide) (hts (.fieldLink RX1 39 "LuckyTicket$Reader" "token" "I") (List.mem_of_getElem? (i := 5) rfl)) (fun _ h9 => h9) rfl (by decide +kernel) rfl rfl (Nat.le_of_ble_eq_true rfl) dX1_advance_82 (fun H locs hP hD hS => ?_)
      have hP : va_P (dC, dI) vwCl [(rd, .inr (0, [.ref tp, .ref sc, .int xf, .int xp, .int 0, .int y_670, .int y_670, .int 0, .int xj])), (tp, .inr (6, [.ref tb, .int ts])), (tb, .inl (cB, 1200, .inl fb))] H := hP
      have hD : va_D A [(rd, .inr (0, [.ref tp, .ref sc, .int xf, .int xp, .int 0, .int y_670, .int y_670, .int 0, .int xj])), (tp, .inr (6, [.ref tb, .int ts])), (tb, .inl (cB, 1200, .inl fb))] := hD
      refine lv_goto (tgt := 322) hx hb dX1_advance_85 (by decide) ?_
      have hP9 := hP.sub (ws' := [(rd, .inr (0, [.ref tp, .ref sc, .int xf, .int xp, .int 0, .int y_670, .int y_670, .int 0, .int xj])), (tp, .inr (6, [.ref tb, .int ts])), (tb, .inl (cB, 1200, .inl fb))]) [0, 1, 2] rfl
      have hD9 := hD.sub (ws' := [(rd, .inr (0, [.ref tp, .ref sc, .int xf, .int xp, .int 0, .int y_670, .int y_670, .int 0, .int xj])), (tp, .inr (6, [.ref tb, .int ts])), (tb, .inl (cB, 1200, .inl fb))]) [0, 1, 2] (by decide) rfl
      have hK9 := hK.sub (tys' := [(cB, .byte)]) [0] rfl
      exact W.vret hx hb hr (fun t ht hW => ⟨⟨(), rfl, trivial, 0, y_670, y_670, 0, (rg_w (by decide : (0 : Int) ≤ (0 : Int32).toInt ∧ (0 : Int32).toInt ≤ 0) (by decide) (by decide)), b_y_670, b_y_670, (by omega), by rw [ht]; exact hP9, va_K.moved hW.alike hK9, hD9⟩, hS.F ht⟩) hS.2.2 dX1_advance_322
  ·
    refine lv_icmp_ge (tgt := 59) hx hb dX1_advance_21 (by decide) (fun c_838 => ?_) (fun c_838 => ?_)
    ·
      have n_c_838 : (ts.toInt : Int) ≤ y_670.toInt := c_ge rfl rfl c_838
      exact hj_59_844 () _ _ _ ⟨hP, hD, hS, lv_sub hl [0, 1, 2] rfl⟩
    ·
      have n_c_838 : (y_670.toInt : Int) < ts.toInt := c_nge rfl rfl c_838
      have b_y_670 : (0 : Int) ≤ y_670.toInt ∧ y_670.toInt ≤ 1199 := r_lt1 b_y_670 b_ts n_c_838 (by decide)
      have b_ts : (1 : Int) ≤ ts.toInt ∧ ts.toInt ≤ 1200 := r_lt2 b_y_670 b_ts n_c_838 (by decide)
      refine lv_aload_n hx hb dX1_advance_24 rfl (lv_at hl 1 rfl) ?_
      refine lv_aload_n hx hb dX1_advance_25 rfl (lv_at hl 2 rfl) ?_
      refine va_get (D := (dC, dI)) (ci := 0) (v := .int y_670) (C := RX1) (T := TX1) (N := 9) hx hb hts iX1_advance_X1 hown hK hP 0 rfl rfl 6 (by decide) (hts (.fieldLink RX1 26 "LuckyTicket$Reader" "stop" "I") (List.mem_of_getElem? (i := 2) rfl)) (fun _ h9 => h9) rfl dX1_advance_26 ?_
      refine va_bald hx hb hK hP 2 0 rfl rfl (vp_in_b b_y_670 (by decide) (by decide)) dX1_advance_29 ?_
      refine lv_topi (fun z_999 e_z_999 => ?_)
      refine lv_bipush (v := 32) hx hb dX1_advance_30 (by decide) ?_
      refine lv_icmp_eq (tgt := 46) hx hb dX1_advance_32 (by decide) (fun c_1000 => ?_) (fun c_1000 => ?_)
      ·
        have n_c_1000 : (z_999.toInt : Int) = 32 := c_eq rfl (by decide) c_1000
        have b_z_999 : (32 : Int) ≤ z_999.toInt ∧ z_999.toInt ≤ 32 := r_eq1 (ti_rng z_999) (by decide : (32 : Int) ≤ (32 : Int32).toInt ∧ (32 : Int32).toInt ≤ 32) n_c_1000 (by decide)
        refine lv_aload_n hx hb dX1_advance_46 rfl (lv_at hl 2 rfl) ?_
        refine lv_dup hx hb dX1_advance_47 rfl ?_
        refine va_get (D := (dC, dI)) (ci := 0) (v := .int y_670) (C := RX1) (T := TX1) (N := 9) hx hb hts iX1_advance_X1 hown hK hP 0 rfl rfl 6 (by decide) (hts (.fieldLink RX1 26 "LuckyTicket$Reader" "stop" "I") (List.mem_of_getElem? (i := 2) rfl)) (fun _ h9 => h9) rfl dX1_advance_48 ?_
        refine lv_iconst (v := 1) hx hb dX1_advance_51 (by decide) ?_
        refine lv_iadd hx hb dX1_advance_52 ?_
        refine lv_topi (fun z_1001 e_z_1001 => ?_)
        obtain ⟨q_z_1001, b_z_1001⟩ := ti_add (lo := 1) (hi := 1200) e_z_1001 rfl (by decide : (1 : Int32).toInt = 1) b_y_670 (by decide : (1 : Int) ≤ (1 : Int32).toInt ∧ (1 : Int32).toInt ≤ 1) (by decide)
        refine va_put (D := (dC, dI)) (ci := 0) (v := .int z_1001) (ty := .int) (C := RX1) (T := TX1) (N := 9) hx hb hts iX1_advance_X1 tyX1 tyX1_ok nmX1 hown hK hP hD hS 0 rfl rfl 6 (by decide) (hts (.fieldLink RX1 26 "LuckyTicket$Reader" "stop" "I") (List.mem_of_getElem? (i := 2) rfl)) (fun _ h9 => h9) rfl (by decide +kernel) rfl rfl (Nat.le_of_ble_eq_true rfl) dX1_advance_53 (fun H locs hP hD hS => ?_)
        have hP : va_P (dC, dI) vwCl [(rd, .inr (0, [.ref tp, .ref sc, .int xf, .int xp, .int xt, .int xa, .int z_1001, .int xv, .int xj])), (tp, .inr (6, [.ref tb, .int ts])), (tb, .inl (cB, 1200, .inl fb))] H := hP
        have hD : va_D A [(rd, .inr (0, [.ref tp, .ref sc, .int xf, .int xp, .int xt, .int xa, .int z_1001, .int xv, .int xj])), (tp, .inr (6, [.ref tb, .int ts])), (tb, .inl (cB, 1200, .inl fb))] := hD
        refine lv_goto (tgt := 16) hx hb dX1_advance_56 (by decide) ?_
        exact ih_16_837 z_1001 _ _ _ ⟨(show (0 : Int) ≤ z_1001.toInt ∧ z_1001.toInt ≤ 1200 from (rg_w b_z_1001 (by decide) (by decide))), hP, hD, hS, lv_sub hl [0, 1, 2] rfl⟩ (show (1200 - z_1001.toInt).toNat < (1200 - y_670.toInt).toNat by omega)
      ·
        have n_c_1000 : (z_999.toInt : Int) ≠ 32 := c_ne rfl (by decide) c_1000
        refine lv_aload_n hx hb dX1_advance_35 rfl (lv_at hl 1 rfl) ?_
        refine lv_aload_n hx hb dX1_advance_36 rfl (lv_at hl 2 rfl) ?_
        refine va_get (D := (dC, dI)) (ci := 0) (v := .int y_670) (C := RX1) (T := TX1) (N := 9) hx hb hts iX1_advance_X1 hown hK hP 0 rfl rfl 6 (by decide) (hts (.fieldLink RX1 26 "LuckyTicket$Reader" "stop" "I") (List.mem_of_getElem? (i := 2) rfl)) (fun _ h9 => h9) rfl dX1_advance_37 ?_
        refine va_bald hx hb hK hP 2 0 rfl rfl (vp_in_b b_y_670 (by decide) (by decide)) dX1_advance_40 ?_
        refine lv_topi (fun z_1002 e_z_1002 => ?_)
        refine lv_bipush (v := 10) hx hb dX1_advance_41 (by decide) ?_
        refine lv_icmp_ne (tgt := 59) hx hb dX1_advance_43 (by decide) (fun c_1003 => ?_) (fun c_1003 => ?_)
        ·
          have n_c_1003 : (z_1002.toInt : Int) ≠ 10 := c_ne rfl (by decide) c_1003
          exact hj_59_844 () _ _ _ ⟨hP, hD, hS, lv_sub hl [0, 1, 2] rfl⟩
        ·
          have n_c_1003 : (z_1002.toInt : Int) = 10 := c_eq rfl (by decide) c_1003
          have b_z_1002 : (10 : Int) ≤ z_1002.toInt ∧ z_1002.toInt ≤ 10 := r_eq1 (ti_rng z_1002) (by decide : (10 : Int) ≤ (10 : Int32).toInt ∧ (10 : Int32).toInt ≤ 10) n_c_1003 (by decide)
          refine lv_aload_n hx hb dX1_advance_46 rfl (lv_at hl 2 rfl) ?_
          refine lv_dup hx hb dX1_advance_47 rfl ?_
          refine va_get (D := (dC, dI)) (ci := 0) (v := .int y_670) (C := RX1) (T := TX1) (N := 9) hx hb hts iX1_advance_X1 hown hK hP 0 rfl rfl 6 (by decide) (hts (.fieldLink RX1 26 "LuckyTicket$Reader" "stop" "I") (List.mem_of_getElem? (i := 2) rfl)) (fun _ h9 => h9) rfl dX1_advance_48 ?_
          refine lv_iconst (v := 1) hx hb dX1_advance_51 (by decide) ?_
          refine lv_iadd hx hb dX1_advance_52 ?_
          refine lv_topi (fun z_1004 e_z_1004 => ?_)
          obtain ⟨q_z_1004, b_z_1004⟩ := ti_add (lo := 1) (hi := 1200) e_z_1004 rfl (by decide : (1 : Int32).toInt = 1) b_y_670 (by decide : (1 : Int) ≤ (1 : Int32).toInt ∧ (1 : Int32).toInt ≤ 1) (by decide)
          refine va_put (D := (dC, dI)) (ci := 0) (v := .int z_1004) (ty := .int) (C := RX1) (T := TX1) (N := 9) hx hb hts iX1_advance_X1 tyX1 tyX1_ok nmX1 hown hK hP hD hS 0 rfl rfl 6 (by decide) (hts (.fieldLink RX1 26 "LuckyTicket$Reader" "stop" "I") (List.mem_of_getElem? (i := 2) rfl)) (fun _ h9 => h9) rfl (by decide +kernel) rfl rfl (Nat.le_of_ble_eq_true rfl) dX1_advance_53 (fun H locs hP hD hS => ?_)
          have hP : va_P (dC, dI) vwCl [(rd, .inr (0, [.ref tp, .ref sc, .int xf, .int xp, .int xt, .int xa, .int z_1004, .int xv, .int xj])), (tp, .inr (6, [.ref tb, .int ts])), (tb, .inl (cB, 1200, .inl fb))] H := hP
          have hD : va_D A [(rd, .inr (0, [.ref tp, .ref sc, .int xf, .int xp, .int xt, .int xa, .int z_1004, .int xv, .int xj])), (tp, .inr (6, [.ref tb, .int ts])), (tb, .inl (cB, 1200, .inl fb))] := hD
          refine lv_goto (tgt := 16) hx hb dX1_advance_56 (by decide) ?_
          exact ih_16_837 z_1004 _ _ _ ⟨(show (0 : Int) ≤ z_1004.toInt ∧ z_1004.toInt ≤ 1200 from (rg_w b_z_1004 (by decide) (by decide))), hP, hD, hS, lv_sub hl [0, 1, 2] rfl⟩ (show (1200 - z_1004.toInt).toNat < (1200 - y_670.toInt).toNat by omega)
theorem dX1_passWord_0 : decode cX1_passWord 0 = .ok (.aload_n 0, 1) := by decide +kernel
theorem dX1_passWord_1 : decode cX1_passWord 1 = .ok (.getfield 23, 3) := by decide +kernel
theorem dX1_passWord_4 : decode cX1_passWord 4 = .ok (.ifCond .ne 18, 3) := by decide +kernel
theorem dX1_passWord_7 : decode cX1_passWord 7 = .ok (.aload_n 0, 1) := by decide +kernel
theorem dX1_passWord_8 : decode cX1_passWord 8 = .ok (.aload_n 1, 1) := by decide +kernel
theorem dX1_passWord_9 : decode cX1_passWord 9 = .ok (.invokevirtual 89, 3) := by decide +kernel
theorem dX1_passWord_12 : decode cX1_passWord 12 = .ok (.ifCond .eq 10, 3) := by decide +kernel
theorem dX1_passWord_15 : decode cX1_passWord 15 = .ok (.aload_n 0, 1) := by decide +kernel
theorem dX1_passWord_16 : decode cX1_passWord 16 = .ok (.invokevirtual 34, 3) := by decide +kernel
theorem dX1_passWord_19 : decode cX1_passWord 19 = .ok (.goto 8, 3) := by decide +kernel
theorem dX1_passWord_22 : decode cX1_passWord 22 = .ok (.aload_n 0, 1) := by decide +kernel
theorem dX1_passWord_23 : decode cX1_passWord 23 = .ok (.iconst 1, 1) := by decide +kernel
theorem dX1_passWord_24 : decode cX1_passWord 24 = .ok (.invokevirtual 96, 3) := by decide +kernel
theorem dX1_passWord_27 : decode cX1_passWord 27 = .ok (.return_, 1) := by decide +kernel
theorem hd_yX1_passWord : yX1_passWord.cls = RX1 ∧ yX1_passWord.cls ≠ "java/lang/invoke/MethodHandle" ∧ yX1_passWord.cls ≠ "java/lang/invoke/VarHandle" ∧ (parseMethodDescriptor yX1_passWord.desc).map (fun d => d.parameters.length) = some 1 := by decide +kernel
def uX1_passWord : List Cond := List.cons (.code yX1_passWord cX1_passWord 2 none) (HAppend.hAppend ([.fieldLink RX1 23 "LuckyTicket$Reader" "fault" "I", .methodLink RX1 96 yX1_refuse, .instanceMethod yX1_refuse, .selects RX1 yX1_refuse yX1_refuse, .initialized RX1, .methodLink RX1 89 yX1_isWord, .instanceMethod yX1_isWord, .selects RX1 yX1_isWord yX1_isWord, .methodLink RX1 34 yX1_advance, .instanceMethod yX1_advance, .selects RX1 yX1_advance yX1_advance] : List Cond) (HAppend.hAppend uX1_refuse (HAppend.hAppend uX1_isWord (HAppend.hAppend uX1_advance wsX10))))
theorem iX1_passWord_X1 : ∀ w ∈ wsX10, w ∈ uX1_passWord := fun _ h => (List.mem_cons_of_mem _ (List.mem_append_right _ (List.mem_append_right _ (List.mem_append_right _ (List.mem_append_right _ h)))))
theorem guX1_passWord : GU uX1_passWord := gu_cons (gu_app (by decide +kernel) (gu_ap guX1_refuse (gu_ap guX1_isWord (gu_ap guX1_advance gws_X1))))
theorem gX1_passWord__X1_refuse_V96 : GoodIn uX1_passWord (wsV RX1 96 RX1 yX1_refuse uX1_refuse) := gin_V (List.mem_of_getElem? (i := 2) rfl) (List.mem_of_getElem? (i := 3) rfl) (List.mem_of_getElem? (i := 4) rfl) (List.mem_of_getElem? (i := 5) rfl) (fun _ h => (List.mem_cons_of_mem _ (List.mem_append_right _ (List.mem_append_left _ h)))) guX1_refuse
theorem gX1_passWord__X1_isWord_V89 : GoodIn uX1_passWord (wsV RX1 89 RX1 yX1_isWord uX1_isWord) := gin_V (List.mem_of_getElem? (i := 6) rfl) (List.mem_of_getElem? (i := 7) rfl) (List.mem_of_getElem? (i := 8) rfl) (List.mem_of_getElem? (i := 5) rfl) (fun _ h => (List.mem_cons_of_mem _ (List.mem_append_right _ (List.mem_append_right _ (List.mem_append_left _ h))))) guX1_isWord
theorem gX1_passWord__X1_advance_V34 : GoodIn uX1_passWord (wsV RX1 34 RX1 yX1_advance uX1_advance) := gin_V (List.mem_of_getElem? (i := 9) rfl) (List.mem_of_getElem? (i := 10) rfl) (List.mem_of_getElem? (i := 11) rfl) (List.mem_of_getElem? (i := 5) rfl) (fun _ h => (List.mem_cons_of_mem _ (List.mem_append_right _ (List.mem_append_right _ (List.mem_append_right _ (List.mem_append_left _ h)))))) guX1_advance
set_option maxHeartbeats 4000000 in
set_option maxRecDepth 100000 in
theorem kX1_passWord (l : Launch) (dC : Nat → ClassId) (dI : Nat → Nat → Nat) (rd : Nat) (xf : Int32) (xp : Int32) (xt : Int32) (xa : Int32) (xo : Int32) (xv : Int32) (xj : Int32) (tp : Nat) (tb : Nat) (ts : Int32) (cB : ClassId) (fb : Nat → Int32) (sc : Nat) (tq : Nat) (tn : Nat) (tf : Nat → Int32) (n0 : Nat) (sz : Nat) (b_xf : (0 : Int) ≤ xf.toInt ∧ xf.toInt ≤ 3) (b_xp : (-1 : Int) ≤ xp.toInt ∧ xp.toInt ≤ 1200) (b_xt : (0 : Int) ≤ xt.toInt ∧ xt.toInt ≤ 4) (b_xa : (0 : Int) ≤ xa.toInt ∧ xa.toInt ≤ 1200) (b_xo : (0 : Int) ≤ xo.toInt ∧ xo.toInt ≤ 1200) (b_ts : (0 : Int) ≤ ts.toInt ∧ ts.toInt ≤ 1200) (hrd : xa.toInt ≤ xo.toInt) (htn : 2 ≤ tn ∧ tn ≤ 6) : Met l yX1_passWord uX1_passWord ({ frames := 5, cells := 0, slots := 0, locals := 107 }) (va_Pc [.ref rd, .ref tq] (hx_ (dC, dI) vwCl [(rd, .inr (0, [.ref tp, .ref sc, .int xf, .int xp, .int xt, .int xa, .int xo, .int xv, .int xj])), (tp, .inr (6, [.ref tb, .int ts])), (tb, .inl (cB, 1200, .inl fb))] [(cB, .byte)] sz n0 [(tq, tn, tf)])) (va_Qv (fun (_ : Unit) => True) (fun (_ : Unit) t => ∃ (o0_ : Int32) (o1_ : Int32) (o2_ : Int32) (o3_ : Int32) (o4_ : Int32) (o5_ : Int32), ((0 : Int) ≤ o0_.toInt ∧ o0_.toInt ≤ 3) ∧ ((-1 : Int) ≤ o1_.toInt ∧ o1_.toInt ≤ 1200) ∧ ((0 : Int) ≤ o2_.toInt ∧ o2_.toInt ≤ 4) ∧ ((0 : Int) ≤ o3_.toInt ∧ o3_.toInt ≤ 1200) ∧ ((0 : Int) ≤ o4_.toInt ∧ o4_.toInt ≤ 1200) ∧ (o3_.toInt ≤ o4_.toInt) ∧ (o0_.toInt = 0 → xf.toInt = 0) ∧ va_P (dC, dI) vwCl [(rd, .inr (0, [.ref tp, .ref sc, .int o0_, .int o1_, .int o2_, .int o3_, .int o4_, .int o5_, .int xj])), (tp, .inr (6, [.ref tb, .int ts])), (tb, .inl (cB, 1200, .inl fb))] t.heap ∧ va_K (dC, dI) vwCl [(cB, .byte)] t ∧ va_D (va_A [(rd, .inr (0, [.ref tp, .ref sc, .int xf, .int xp, .int xt, .int xa, .int xo, .int xv, .int xj])), (tp, .inr (6, [.ref tb, .int ts])), (tb, .inl (cB, 1200, .inl fb))] sz) [(rd, .inr (0, [.ref tp, .ref sc, .int o0_, .int o1_, .int o2_, .int o3_, .int o4_, .int o5_, .int xj])), (tp, .inr (6, [.ref tb, .int ts])), (tb, .inl (cB, 1200, .inl fb))]) (va_A [(rd, .inr (0, [.ref tp, .ref sc, .int xf, .int xp, .int xt, .int xa, .int xo, .int xv, .int xj])), (tp, .inr (6, [.ref tb, .int ts])), (tb, .inl (cB, 1200, .inl fb))] sz)) 0 0 (va_A [(rd, .inr (0, [.ref tp, .ref sc, .int xf, .int xp, .int xt, .int xa, .int xo, .int xv, .int xj])), (tp, .inr (6, [.ref tb, .int ts])), (tb, .inl (cB, 1200, .inl fb))] sz) := by
  refine Met.ofW (cc := cX1_passWord) (maxL := 2) (ret := none) pn_X1 rfl ?_
  intro p e s m args below meth c s₁ B hml hv
  obtain ⟨rfl, ⟨hsz, hP, hK, hD0, hN⟩, hn0, hDn, hX, hTx⟩ := hv
  have hx := B.exec
  have hb := B.bytes
  have hr := B.returns
  have hts := atoms_spec (ws := uX1_passWord) B.pre
  have hown : s.vm.findClass RX1 = some m.cls := hown_of B.named rfl
  have hlocks := B.notSynchronized
  subst hsz
  have hD := hD0.self (sz := s.heap.size)
  have hAn : ∀ q, va_A [(rd, .inr (0, [.ref tp, .ref sc, .int xf, .int xp, .int xt, .int xa, .int xo, .int xv, .int xj])), (tp, .inr (6, [.ref tb, .int ts])), (tb, .inl (cB, 1200, .inl fb))] s.heap.size q → n0 ≤ q := fun q h => h.elim (fun ⟨k, e, hk⟩ => hDn.2 k (q, e) hk) (fun h => Nat.le_trans hn0 h)
  generalize hAe : va_A [(rd, .inr (0, [.ref tp, .ref sc, .int xf, .int xp, .int xt, .int xa, .int xo, .int xv, .int xj])), (tp, .inr (6, [.ref tb, .int ts])), (tb, .inl (cB, 1200, .inl fb))] s.heap.size = A at hD hAn ⊢
  have hA : ∀ q : Nat, s.heap.size ≤ q → A q := fun q h => by rw [← hAe]; exact Or.inr h
  have hS : va_S A s.heap s.heap [] := va_S.rf
  have hP : va_P (dC, dI) vwCl [(rd, .inr (0, [.ref tp, .ref sc, .int xf, .int xp, .int xt, .int xa, .int xo, .int xv, .int xj])), (tp, .inr (6, [.ref tb, .int ts])), (tb, .inl (cB, 1200, .inl fb))] s.heap := hP
  have ht_tq : txt n0 tq tn tf s := hTx _ (List.mem_of_getElem? (i := 0) rfl)
  have hl := lv_entry ([.ref rd, .ref tq]) (n := 2) (Nat.le_of_ble_eq_true rfl)
  rw [lg_entry_eq]
  generalize (lg_sl ([.ref rd, .ref tq]) ++ List.replicate (2 - (lg_sl ([.ref rd, .ref tq])).length) Slot.unset).toArray = ls at hl ⊢
  have hl : lv_has ls 2 [(0, .ref rd), (1, .ref tq)] := hl
  refine lv_aload_n hx hb dX1_passWord_0 rfl (lv_at hl 0 rfl) ?_
  refine va_get (D := (dC, dI)) (ci := 0) (v := .int xf) (C := RX1) (T := TX1) (N := 9) hx hb hts iX1_passWord_X1 hown hK hP 0 rfl rfl 2 (by decide) (hts (.fieldLink RX1 23 "LuckyTicket$Reader" "fault" "I") (List.mem_of_getElem? (i := 1) rfl)) (fun _ h9 => h9) rfl dX1_passWord_1 ?_
  refine lv_if_ne (tgt := 22) hx hb dX1_passWord_4 (by decide) (fun c_25 => ?_) (fun c_25 => ?_)
  ·
    have n_c_25 : (xf.toInt : Int) ≠ 0 := c_ne rfl (by decide) c_25
    have b_xf : (1 : Int) ≤ xf.toInt ∧ xf.toInt ≤ 3 := r_ne1 b_xf (by decide : (0 : Int) ≤ (0 : Int32).toInt ∧ (0 : Int32).toInt ≤ 0) n_c_25 (by decide)
    refine lv_aload_n hx hb dX1_passWord_22 rfl (lv_at hl 0 rfl) ?_
    refine lv_iconst (v := 1) hx hb dX1_passWord_23 (by decide) ?_
    have hFc := va_free (wc := [(rd, .inr (0, [.ref tp, .ref sc, .int xf, .int xp, .int xt, .int xa, .int xo, .int xv, .int xj]))]) hD hS hA [0] rfl
    refine va_callv (va_runV (As := [.int 1]) (rest := []) ⟨hx, hb, hml, hown, hts⟩ (kX1_refuse l dC dI rd xf xp xt xa xo xv xj tp sc 1 (s.heap.size) (rg_w b_xf (by decide) (by decide)) b_xp b_xt b_xa b_xo (rg_w (by decide : (1 : Int) ≤ (1 : Int32).toInt ∧ (1 : Int32).toInt ≤ 1) (by decide) (by decide))) (cwV 1 hts gX1_passWord__X1_refuse_V96 rfl rfl rfl hd_yX1_refuse ⟨lel 1 5 rfl, lel 21 107 rfl⟩) ⟨hw_fb, rcv_X1 hK hP (q0 := 0) rfl, (hw_use hP hD hK hN [0] rfl (by decide) rfl [] rfl)⟩ rfl rfl hl.1 rfl (lv_room (Nat.le_of_ble_eq_true rfl)) dX1_passWord_24 ⟨lel 0 0 rfl, lel 0 0 rfl⟩) hS (fun q _ h => hFc q h) hFc (fun u_27 t H1 locs ht hvm hw_r_26 hB hz1 hk1 hS => ?_)
    obtain ⟨o0_28, o1_29, b_o0_28, b_o1_29, hf_30, hf_31, hP1, hK1, hD1⟩ := hB
    rw [ht] at hP1
    have hK1 := va_K.moved hvm.symm hK1
    obtain ⟨hP, hD⟩ := va_join (wr := [(tp, .inr (6, [.ref tb, .int ts])), (tb, .inl (cB, 1200, .inl fb))]) (w1 := [(rd, .inr (0, [.ref tp, .ref sc, .int o0_28, .int o1_29, .int xt, .int xa, .int xo, .int xv, .int xj]))]) hP hD [0] [1, 2] rfl rfl (by decide) (by decide) hk1 hFc hP1 hD1
    have hK := (hK.sub (tys' := [(cB, .byte)]) [0] rfl).app hK1
    generalize H1 = H at hP hS ⊢
    have hP := hP.sub (ws' := [(rd, .inr (0, [.ref tp, .ref sc, .int o0_28, .int o1_29, .int xt, .int xa, .int xo, .int xv, .int xj])), (tp, .inr (6, [.ref tb, .int ts])), (tb, .inl (cB, 1200, .inl fb))]) [2, 0, 1] rfl
    have hD := hD.sub (ws' := [(rd, .inr (0, [.ref tp, .ref sc, .int o0_28, .int o1_29, .int xt, .int xa, .int xo, .int xv, .int xj])), (tp, .inr (6, [.ref tb, .int ts])), (tb, .inl (cB, 1200, .inl fb))]) [2, 0, 1] (by decide) rfl
    have hP : va_P (dC, dI) vwCl [(rd, .inr (0, [.ref tp, .ref sc, .int o0_28, .int o1_29, .int xt, .int xa, .int xo, .int xv, .int xj])), (tp, .inr (6, [.ref tb, .int ts])), (tb, .inl (cB, 1200, .inl fb))] H := hP
    have hD : va_D A [(rd, .inr (0, [.ref tp, .ref sc, .int o0_28, .int o1_29, .int xt, .int xa, .int xo, .int xv, .int xj])), (tp, .inr (6, [.ref tb, .int ts])), (tb, .inl (cB, 1200, .inl fb))] := hD
    have hK : va_K (dC, dI) vwCl [(cB, .byte)] s := hK
    have hP9 := hP.sub (ws' := [(rd, .inr (0, [.ref tp, .ref sc, .int o0_28, .int o1_29, .int xt, .int xa, .int xo, .int xv, .int xj])), (tp, .inr (6, [.ref tb, .int ts])), (tb, .inl (cB, 1200, .inl fb))]) [0, 1, 2] rfl
    have hD9 := hD.sub (ws' := [(rd, .inr (0, [.ref tp, .ref sc, .int o0_28, .int o1_29, .int xt, .int xa, .int xo, .int xv, .int xj])), (tp, .inr (6, [.ref tb, .int ts])), (tb, .inl (cB, 1200, .inl fb))]) [0, 1, 2] (by decide) rfl
    have hK9 := hK.sub (tys' := [(cB, .byte)]) [0] rfl
    exact W.vret hx hb hr (fun t ht hW => ⟨⟨(), rfl, trivial, o0_28, o1_29, xt, xa, xo, xv, (rg_w b_o0_28 (by decide) (by decide)), b_o1_29, b_xt, b_xa, b_xo, (by omega), (by omega), by rw [ht]; exact hP9, va_K.moved hW.alike hK9, hD9⟩, hS.F ht⟩) hS.2.2 dX1_passWord_27
  ·
    have n_c_25 : (xf.toInt : Int) = 0 := c_eq rfl (by decide) c_25
    have b_xf : (0 : Int) ≤ xf.toInt ∧ xf.toInt ≤ 0 := r_eq1 b_xf (by decide : (0 : Int) ≤ (0 : Int32).toInt ∧ (0 : Int32).toInt ≤ 0) n_c_25 (by decide)
    refine lv_aload_n hx hb dX1_passWord_7 rfl (lv_at hl 0 rfl) ?_
    refine lv_aload_n hx hb dX1_passWord_8 rfl (lv_at hl 1 rfl) ?_
    refine vp_callSi (W.runV (As := [.ref tq]) (rest := []) ⟨hx, hb, hml, hown, hts⟩ (kX1_isWord l dC dI rd xf xp xt xa xo xv xj tp tb ts cB fb sc tq tn tf n0 (rg_w b_xf (by decide) (by decide)) b_xp b_xt b_xa b_xo b_ts (by omega) (by omega)) (cwV 1 hts gX1_passWord__X1_isWord_V89 rfl rfl rfl hd_yX1_isWord ⟨lel 5 5 rfl, lel 107 107 rfl⟩) ⟨px_fb, rcv_X1 hK hP (q0 := 0) rfl, (px_use hP hK hN hX (vs_up hS hAn) [0, 1, 2] rfl [0] rfl (tts_1 ht_tq) tbs_0)⟩ rfl rfl hl.1 rfl (lv_room (Nat.le_of_ble_eq_true rfl)) dX1_passWord_9 ⟨lel 0 0 rfl, lel 0 0 rfl⟩) (fun r_32 h_r_32 => ?_)
    obtain ⟨b_r_32, nz_r_32, zz_r_32⟩ := h_r_32
    have b_r_32 : (0 : Int) ≤ r_32.toInt ∧ r_32.toInt ≤ 1 := b_r_32
    refine lv_if_eq (tgt := 22) hx hb dX1_passWord_12 (by decide) (fun c_33 => ?_) (fun c_33 => ?_)
    ·
      have n_c_33 : (r_32.toInt : Int) = 0 := c_eq rfl (by decide) c_33
      have b_r_32 : (0 : Int) ≤ r_32.toInt ∧ r_32.toInt ≤ 0 := r_eq1 b_r_32 (by decide : (0 : Int) ≤ (0 : Int32).toInt ∧ (0 : Int32).toInt ≤ 0) n_c_33 (by decide)
      have g_34 := zz_r_32 c_33
      refine lv_aload_n hx hb dX1_passWord_22 rfl (lv_at hl 0 rfl) ?_
      refine lv_iconst (v := 1) hx hb dX1_passWord_23 (by decide) ?_
      have hFc := va_free (wc := [(rd, .inr (0, [.ref tp, .ref sc, .int xf, .int xp, .int xt, .int xa, .int xo, .int xv, .int xj]))]) hD hS hA [0] rfl
      refine va_callv (va_runV (As := [.int 1]) (rest := []) ⟨hx, hb, hml, hown, hts⟩ (kX1_refuse l dC dI rd xf xp xt xa xo xv xj tp sc 1 (s.heap.size) (rg_w b_xf (by decide) (by decide)) b_xp b_xt b_xa b_xo (rg_w (by decide : (1 : Int) ≤ (1 : Int32).toInt ∧ (1 : Int32).toInt ≤ 1) (by decide) (by decide))) (cwV 1 hts gX1_passWord__X1_refuse_V96 rfl rfl rfl hd_yX1_refuse ⟨lel 1 5 rfl, lel 21 107 rfl⟩) ⟨hw_fb, rcv_X1 hK hP (q0 := 0) rfl, (hw_use hP hD hK hN [0] rfl (by decide) rfl [] rfl)⟩ rfl rfl hl.1 rfl (lv_room (Nat.le_of_ble_eq_true rfl)) dX1_passWord_24 ⟨lel 0 0 rfl, lel 0 0 rfl⟩) hS (fun q _ h => hFc q h) hFc (fun u_36 t H1 locs ht hvm hw_r_35 hB hz1 hk1 hS => ?_)
      obtain ⟨o0_37, o1_38, b_o0_37, b_o1_38, hf_39, hf_40, hP1, hK1, hD1⟩ := hB
      rw [ht] at hP1
      have hK1 := va_K.moved hvm.symm hK1
      obtain ⟨hP, hD⟩ := va_join (wr := [(tp, .inr (6, [.ref tb, .int ts])), (tb, .inl (cB, 1200, .inl fb))]) (w1 := [(rd, .inr (0, [.ref tp, .ref sc, .int o0_37, .int o1_38, .int xt, .int xa, .int xo, .int xv, .int xj]))]) hP hD [0] [1, 2] rfl rfl (by decide) (by decide) hk1 hFc hP1 hD1
      have hK := (hK.sub (tys' := [(cB, .byte)]) [0] rfl).app hK1
      generalize H1 = H at hP hS ⊢
      have hP := hP.sub (ws' := [(rd, .inr (0, [.ref tp, .ref sc, .int o0_37, .int o1_38, .int xt, .int xa, .int xo, .int xv, .int xj])), (tp, .inr (6, [.ref tb, .int ts])), (tb, .inl (cB, 1200, .inl fb))]) [2, 0, 1] rfl
      have hD := hD.sub (ws' := [(rd, .inr (0, [.ref tp, .ref sc, .int o0_37, .int o1_38, .int xt, .int xa, .int xo, .int xv, .int xj])), (tp, .inr (6, [.ref tb, .int ts])), (tb, .inl (cB, 1200, .inl fb))]) [2, 0, 1] (by decide) rfl
      have hP : va_P (dC, dI) vwCl [(rd, .inr (0, [.ref tp, .ref sc, .int o0_37, .int o1_38, .int xt, .int xa, .int xo, .int xv, .int xj])), (tp, .inr (6, [.ref tb, .int ts])), (tb, .inl (cB, 1200, .inl fb))] H := hP
      have hD : va_D A [(rd, .inr (0, [.ref tp, .ref sc, .int o0_37, .int o1_38, .int xt, .int xa, .int xo, .int xv, .int xj])), (tp, .inr (6, [.ref tb, .int ts])), (tb, .inl (cB, 1200, .inl fb))] := hD
      have hK : va_K (dC, dI) vwCl [(cB, .byte)] s := hK
      have hP9 := hP.sub (ws' := [(rd, .inr (0, [.ref tp, .ref sc, .int o0_37, .int o1_38, .int xt, .int xa, .int xo, .int xv, .int xj])), (tp, .inr (6, [.ref tb, .int ts])), (tb, .inl (cB, 1200, .inl fb))]) [0, 1, 2] rfl
      have hD9 := hD.sub (ws' := [(rd, .inr (0, [.ref tp, .ref sc, .int o0_37, .int o1_38, .int xt, .int xa, .int xo, .int xv, .int xj])), (tp, .inr (6, [.ref tb, .int ts])), (tb, .inl (cB, 1200, .inl fb))]) [0, 1, 2] (by decide) rfl
      have hK9 := hK.sub (tys' := [(cB, .byte)]) [0] rfl
      exact W.vret hx hb hr (fun t ht hW => ⟨⟨(), rfl, trivial, o0_37, o1_38, xt, xa, xo, xv, (rg_w b_o0_37 (by decide) (by decide)), b_o1_38, b_xt, b_xa, b_xo, (by omega), (by omega), by rw [ht]; exact hP9, va_K.moved hW.alike hK9, hD9⟩, hS.F ht⟩) hS.2.2 dX1_passWord_27
    ·
      have n_c_33 : (r_32.toInt : Int) ≠ 0 := c_ne rfl (by decide) c_33
      have b_r_32 : (1 : Int) ≤ r_32.toInt ∧ r_32.toInt ≤ 1 := r_ne1 b_r_32 (by decide : (0 : Int) ≤ (0 : Int32).toInt ∧ (0 : Int32).toInt ≤ 0) n_c_33 (by decide)
      have g_41 := nz_r_32 c_33
      refine lv_aload_n hx hb dX1_passWord_15 rfl (lv_at hl 0 rfl) ?_
      have hFc := va_free (wc := [(rd, .inr (0, [.ref tp, .ref sc, .int xf, .int xp, .int xt, .int xa, .int xo, .int xv, .int xj])), (tp, .inr (6, [.ref tb, .int ts])), (tb, .inl (cB, 1200, .inl fb))]) hD hS hA [0, 1, 2] rfl
      refine va_callv (va_runV (As := []) (rest := []) ⟨hx, hb, hml, hown, hts⟩ (kX1_advance l dC dI rd xf xp xt xa xo xv xj tp tb ts cB fb sc (s.heap.size) (rg_w b_xf (by decide) (by decide)) b_xp b_xt b_xa b_xo b_ts (by omega)) (cwV 0 hts gX1_passWord__X1_advance_V34 rfl rfl rfl hd_yX1_advance ⟨lel 1 5 rfl, lel 22 107 rfl⟩) ⟨hw_fb, rcv_X1 hK hP (q0 := 0) rfl, (hw_use hP hD hK hN [0, 1, 2] rfl (by decide) rfl [0] rfl)⟩ rfl rfl hl.1 rfl (lv_room (Nat.le_of_ble_eq_true rfl)) dX1_passWord_16 ⟨lel 0 0 rfl, lel 0 0 rfl⟩) hS (fun q _ h => hFc q h) hFc (fun u_43 t H1 locs ht hvm hw_r_42 hB hz1 hk1 hS => ?_)
      obtain ⟨o0_44, o1_45, o2_46, o3_47, b_o0_44, b_o1_45, b_o2_46, hf_48, hP1, hK1, hD1⟩ := hB
      rw [ht] at hP1
      have hK1 := va_K.moved hvm.symm hK1
      obtain ⟨hP, hD⟩ := va_join (wr := []) (w1 := [(rd, .inr (0, [.ref tp, .ref sc, .int xf, .int xp, .int o0_44, .int o1_45, .int o2_46, .int o3_47, .int xj])), (tp, .inr (6, [.ref tb, .int ts])), (tb, .inl (cB, 1200, .inl fb))]) hP hD [0, 1, 2] [] rfl rfl (by decide) (by decide) hk1 hFc hP1 hD1
      have hK := (hK.sub (tys' := []) [] rfl).app hK1
      generalize H1 = H at hP hS ⊢
      have hP : va_P (dC, dI) vwCl [(rd, .inr (0, [.ref tp, .ref sc, .int xf, .int xp, .int o0_44, .int o1_45, .int o2_46, .int o3_47, .int xj])), (tp, .inr (6, [.ref tb, .int ts])), (tb, .inl (cB, 1200, .inl fb))] H := hP
      have hD : va_D A [(rd, .inr (0, [.ref tp, .ref sc, .int xf, .int xp, .int o0_44, .int o1_45, .int o2_46, .int o3_47, .int xj])), (tp, .inr (6, [.ref tb, .int ts])), (tb, .inl (cB, 1200, .inl fb))] := hD
      have hK : va_K (dC, dI) vwCl [(cB, .byte)] s := hK
      refine lv_goto (tgt := 27) hx hb dX1_passWord_19 (by decide) ?_
      have hP9 := hP.sub (ws' := [(rd, .inr (0, [.ref tp, .ref sc, .int xf, .int xp, .int o0_44, .int o1_45, .int o2_46, .int o3_47, .int xj])), (tp, .inr (6, [.ref tb, .int ts])), (tb, .inl (cB, 1200, .inl fb))]) [0, 1, 2] rfl
      have hD9 := hD.sub (ws' := [(rd, .inr (0, [.ref tp, .ref sc, .int xf, .int xp, .int o0_44, .int o1_45, .int o2_46, .int o3_47, .int xj])), (tp, .inr (6, [.ref tb, .int ts])), (tb, .inl (cB, 1200, .inl fb))]) [0, 1, 2] (by decide) rfl
      have hK9 := hK.sub (tys' := [(cB, .byte)]) [0] rfl
      exact W.vret hx hb hr (fun t ht hW => ⟨⟨(), rfl, trivial, xf, xp, o0_44, o1_45, o2_46, o3_47, (rg_w b_xf (by decide) (by decide)), b_xp, b_o0_44, b_o1_45, b_o2_46, (by omega), (by omega), by rw [ht]; exact hP9, va_K.moved hW.alike hK9, hD9⟩, hS.F ht⟩) hS.2.2 dX1_passWord_27
theorem dX1_passSign_0 : decode cX1_passSign 0 = .ok (.aload_n 0, 1) := by decide +kernel
theorem dX1_passSign_1 : decode cX1_passSign 1 = .ok (.getfield 23, 3) := by decide +kernel
theorem dX1_passSign_4 : decode cX1_passSign 4 = .ok (.ifCond .ne 18, 3) := by decide +kernel
theorem dX1_passSign_7 : decode cX1_passSign 7 = .ok (.aload_n 0, 1) := by decide +kernel
theorem dX1_passSign_8 : decode cX1_passSign 8 = .ok (.iload_n 1, 1) := by decide +kernel
theorem dX1_passSign_9 : decode cX1_passSign 9 = .ok (.invokevirtual 119, 3) := by decide +kernel
theorem dX1_passSign_12 : decode cX1_passSign 12 = .ok (.ifCond .eq 10, 3) := by decide +kernel
theorem dX1_passSign_15 : decode cX1_passSign 15 = .ok (.aload_n 0, 1) := by decide +kernel
theorem dX1_passSign_16 : decode cX1_passSign 16 = .ok (.invokevirtual 34, 3) := by decide +kernel
theorem dX1_passSign_19 : decode cX1_passSign 19 = .ok (.goto 8, 3) := by decide +kernel
theorem dX1_passSign_22 : decode cX1_passSign 22 = .ok (.aload_n 0, 1) := by decide +kernel
theorem dX1_passSign_23 : decode cX1_passSign 23 = .ok (.iconst 1, 1) := by decide +kernel
theorem dX1_passSign_24 : decode cX1_passSign 24 = .ok (.invokevirtual 96, 3) := by decide +kernel
theorem dX1_passSign_27 : decode cX1_passSign 27 = .ok (.return_, 1) := by decide +kernel
theorem hd_yX1_passSign : yX1_passSign.cls = RX1 ∧ yX1_passSign.cls ≠ "java/lang/invoke/MethodHandle" ∧ yX1_passSign.cls ≠ "java/lang/invoke/VarHandle" ∧ (parseMethodDescriptor yX1_passSign.desc).map (fun d => d.parameters.length) = some 1 := by decide +kernel
def uX1_passSign : List Cond := List.cons (.code yX1_passSign cX1_passSign 2 none) (HAppend.hAppend ([.fieldLink RX1 23 "LuckyTicket$Reader" "fault" "I", .methodLink RX1 96 yX1_refuse, .instanceMethod yX1_refuse, .selects RX1 yX1_refuse yX1_refuse, .initialized RX1, .methodLink RX1 119 yX1_isSign, .instanceMethod yX1_isSign, .selects RX1 yX1_isSign yX1_isSign, .methodLink RX1 34 yX1_advance, .instanceMethod yX1_advance, .selects RX1 yX1_advance yX1_advance] : List Cond) (HAppend.hAppend uX1_refuse (HAppend.hAppend uX1_isSign (HAppend.hAppend uX1_advance wsX10))))
theorem iX1_passSign_X1 : ∀ w ∈ wsX10, w ∈ uX1_passSign := fun _ h => (List.mem_cons_of_mem _ (List.mem_append_right _ (List.mem_append_right _ (List.mem_append_right _ (List.mem_append_right _ h)))))
theorem guX1_passSign : GU uX1_passSign := gu_cons (gu_app (by decide +kernel) (gu_ap guX1_refuse (gu_ap guX1_isSign (gu_ap guX1_advance gws_X1))))
theorem gX1_passSign__X1_refuse_V96 : GoodIn uX1_passSign (wsV RX1 96 RX1 yX1_refuse uX1_refuse) := gin_V (List.mem_of_getElem? (i := 2) rfl) (List.mem_of_getElem? (i := 3) rfl) (List.mem_of_getElem? (i := 4) rfl) (List.mem_of_getElem? (i := 5) rfl) (fun _ h => (List.mem_cons_of_mem _ (List.mem_append_right _ (List.mem_append_left _ h)))) guX1_refuse
theorem gX1_passSign__X1_isSign_V119 : GoodIn uX1_passSign (wsV RX1 119 RX1 yX1_isSign uX1_isSign) := gin_V (List.mem_of_getElem? (i := 6) rfl) (List.mem_of_getElem? (i := 7) rfl) (List.mem_of_getElem? (i := 8) rfl) (List.mem_of_getElem? (i := 5) rfl) (fun _ h => (List.mem_cons_of_mem _ (List.mem_append_right _ (List.mem_append_right _ (List.mem_append_left _ h))))) guX1_isSign
theorem gX1_passSign__X1_advance_V34 : GoodIn uX1_passSign (wsV RX1 34 RX1 yX1_advance uX1_advance) := gin_V (List.mem_of_getElem? (i := 9) rfl) (List.mem_of_getElem? (i := 10) rfl) (List.mem_of_getElem? (i := 11) rfl) (List.mem_of_getElem? (i := 5) rfl) (fun _ h => (List.mem_cons_of_mem _ (List.mem_append_right _ (List.mem_append_right _ (List.mem_append_right _ (List.mem_append_left _ h)))))) guX1_advance
set_option maxHeartbeats 4000000 in
set_option maxRecDepth 100000 in
theorem kX1_passSign (l : Launch) (dC : Nat → ClassId) (dI : Nat → Nat → Nat) (rd : Nat) (xf : Int32) (xp : Int32) (xt : Int32) (xa : Int32) (xo : Int32) (xv : Int32) (xj : Int32) (tp : Nat) (tb : Nat) (ts : Int32) (cB : ClassId) (fb : Nat → Int32) (sc : Nat) (a1 : Int32) (sz : Nat) (b_xf : (0 : Int) ≤ xf.toInt ∧ xf.toInt ≤ 3) (b_xp : (-1 : Int) ≤ xp.toInt ∧ xp.toInt ≤ 1200) (b_xt : (0 : Int) ≤ xt.toInt ∧ xt.toInt ≤ 4) (b_xa : (0 : Int) ≤ xa.toInt ∧ xa.toInt ≤ 1200) (b_xo : (0 : Int) ≤ xo.toInt ∧ xo.toInt ≤ 1200) (b_ts : (0 : Int) ≤ ts.toInt ∧ ts.toInt ≤ 1200) (hrd : xa.toInt ≤ xo.toInt) : Met l yX1_passSign uX1_passSign ({ frames := 1, cells := 0, slots := 0, locals := 22 }) (va_Pc [.ref rd, .int a1] (hw (dC, dI) vwCl [(rd, .inr (0, [.ref tp, .ref sc, .int xf, .int xp, .int xt, .int xa, .int xo, .int xv, .int xj])), (tp, .inr (6, [.ref tb, .int ts])), (tb, .inl (cB, 1200, .inl fb))] [(cB, .byte)] sz)) (va_Qv (fun (_ : Unit) => True) (fun (_ : Unit) t => ∃ (o0_ : Int32) (o1_ : Int32) (o2_ : Int32) (o3_ : Int32) (o4_ : Int32) (o5_ : Int32), ((0 : Int) ≤ o0_.toInt ∧ o0_.toInt ≤ 3) ∧ ((-1 : Int) ≤ o1_.toInt ∧ o1_.toInt ≤ 1200) ∧ ((0 : Int) ≤ o2_.toInt ∧ o2_.toInt ≤ 4) ∧ ((0 : Int) ≤ o3_.toInt ∧ o3_.toInt ≤ 1200) ∧ ((0 : Int) ≤ o4_.toInt ∧ o4_.toInt ≤ 1200) ∧ (o3_.toInt ≤ o4_.toInt) ∧ (o0_.toInt = 0 → xf.toInt = 0) ∧ va_P (dC, dI) vwCl [(rd, .inr (0, [.ref tp, .ref sc, .int o0_, .int o1_, .int o2_, .int o3_, .int o4_, .int o5_, .int xj])), (tp, .inr (6, [.ref tb, .int ts])), (tb, .inl (cB, 1200, .inl fb))] t.heap ∧ va_K (dC, dI) vwCl [(cB, .byte)] t ∧ va_D (va_A [(rd, .inr (0, [.ref tp, .ref sc, .int xf, .int xp, .int xt, .int xa, .int xo, .int xv, .int xj])), (tp, .inr (6, [.ref tb, .int ts])), (tb, .inl (cB, 1200, .inl fb))] sz) [(rd, .inr (0, [.ref tp, .ref sc, .int o0_, .int o1_, .int o2_, .int o3_, .int o4_, .int o5_, .int xj])), (tp, .inr (6, [.ref tb, .int ts])), (tb, .inl (cB, 1200, .inl fb))]) (va_A [(rd, .inr (0, [.ref tp, .ref sc, .int xf, .int xp, .int xt, .int xa, .int xo, .int xv, .int xj])), (tp, .inr (6, [.ref tb, .int ts])), (tb, .inl (cB, 1200, .inl fb))] sz)) 0 0 (va_A [(rd, .inr (0, [.ref tp, .ref sc, .int xf, .int xp, .int xt, .int xa, .int xo, .int xv, .int xj])), (tp, .inr (6, [.ref tb, .int ts])), (tb, .inl (cB, 1200, .inl fb))] sz) := by
  refine Met.ofW (cc := cX1_passSign) (maxL := 2) (ret := none) pn_X1 rfl ?_
  intro p e s m args below meth c s₁ B hml hv
  obtain ⟨rfl, hsz, hP, hK, hD0, hN⟩ := hv
  have hx := B.exec
  have hb := B.bytes
  have hr := B.returns
  have hts := atoms_spec (ws := uX1_passSign) B.pre
  have hown : s.vm.findClass RX1 = some m.cls := hown_of B.named rfl
  have hlocks := B.notSynchronized
  subst hsz
  have hD := hD0.self (sz := s.heap.size)
  generalize hAe : va_A [(rd, .inr (0, [.ref tp, .ref sc, .int xf, .int xp, .int xt, .int xa, .int xo, .int xv, .int xj])), (tp, .inr (6, [.ref tb, .int ts])), (tb, .inl (cB, 1200, .inl fb))] s.heap.size = A at hD ⊢
  have hA : ∀ q : Nat, s.heap.size ≤ q → A q := fun q h => by rw [← hAe]; exact Or.inr h
  have hS : va_S A s.heap s.heap [] := va_S.rf
  have hP : va_P (dC, dI) vwCl [(rd, .inr (0, [.ref tp, .ref sc, .int xf, .int xp, .int xt, .int xa, .int xo, .int xv, .int xj])), (tp, .inr (6, [.ref tb, .int ts])), (tb, .inl (cB, 1200, .inl fb))] s.heap := hP
  have hl := lv_entry ([.ref rd, .int a1]) (n := 2) (Nat.le_of_ble_eq_true rfl)
  rw [lg_entry_eq]
  generalize (lg_sl ([.ref rd, .int a1]) ++ List.replicate (2 - (lg_sl ([.ref rd, .int a1])).length) Slot.unset).toArray = ls at hl ⊢
  have hl : lv_has ls 2 [(0, .ref rd), (1, .int a1)] := hl
  refine lv_aload_n hx hb dX1_passSign_0 rfl (lv_at hl 0 rfl) ?_
  refine va_get (D := (dC, dI)) (ci := 0) (v := .int xf) (C := RX1) (T := TX1) (N := 9) hx hb hts iX1_passSign_X1 hown hK hP 0 rfl rfl 2 (by decide) (hts (.fieldLink RX1 23 "LuckyTicket$Reader" "fault" "I") (List.mem_of_getElem? (i := 1) rfl)) (fun _ h9 => h9) rfl dX1_passSign_1 ?_
  refine lv_if_ne (tgt := 22) hx hb dX1_passSign_4 (by decide) (fun c_25 => ?_) (fun c_25 => ?_)
  ·
    have n_c_25 : (xf.toInt : Int) ≠ 0 := c_ne rfl (by decide) c_25
    have b_xf : (1 : Int) ≤ xf.toInt ∧ xf.toInt ≤ 3 := r_ne1 b_xf (by decide : (0 : Int) ≤ (0 : Int32).toInt ∧ (0 : Int32).toInt ≤ 0) n_c_25 (by decide)
    refine lv_aload_n hx hb dX1_passSign_22 rfl (lv_at hl 0 rfl) ?_
    refine lv_iconst (v := 1) hx hb dX1_passSign_23 (by decide) ?_
    have hFc := va_free (wc := [(rd, .inr (0, [.ref tp, .ref sc, .int xf, .int xp, .int xt, .int xa, .int xo, .int xv, .int xj]))]) hD hS hA [0] rfl
    refine va_callv (va_runV (As := [.int 1]) (rest := []) ⟨hx, hb, hml, hown, hts⟩ (kX1_refuse l dC dI rd xf xp xt xa xo xv xj tp sc 1 (s.heap.size) (rg_w b_xf (by decide) (by decide)) b_xp b_xt b_xa b_xo (rg_w (by decide : (1 : Int) ≤ (1 : Int32).toInt ∧ (1 : Int32).toInt ≤ 1) (by decide) (by decide))) (cwV 1 hts gX1_passSign__X1_refuse_V96 rfl rfl rfl hd_yX1_refuse ⟨lel 1 1 rfl, lel 21 22 rfl⟩) ⟨hw_fb, rcv_X1 hK hP (q0 := 0) rfl, (hw_use hP hD hK hN [0] rfl (by decide) rfl [] rfl)⟩ rfl rfl hl.1 rfl (lv_room (Nat.le_of_ble_eq_true rfl)) dX1_passSign_24 ⟨lel 0 0 rfl, lel 0 0 rfl⟩) hS (fun q _ h => hFc q h) hFc (fun u_27 t H1 locs ht hvm hw_r_26 hB hz1 hk1 hS => ?_)
    obtain ⟨o0_28, o1_29, b_o0_28, b_o1_29, hf_30, hf_31, hP1, hK1, hD1⟩ := hB
    rw [ht] at hP1
    have hK1 := va_K.moved hvm.symm hK1
    obtain ⟨hP, hD⟩ := va_join (wr := [(tp, .inr (6, [.ref tb, .int ts])), (tb, .inl (cB, 1200, .inl fb))]) (w1 := [(rd, .inr (0, [.ref tp, .ref sc, .int o0_28, .int o1_29, .int xt, .int xa, .int xo, .int xv, .int xj]))]) hP hD [0] [1, 2] rfl rfl (by decide) (by decide) hk1 hFc hP1 hD1
    have hK := (hK.sub (tys' := [(cB, .byte)]) [0] rfl).app hK1
    generalize H1 = H at hP hS ⊢
    have hP := hP.sub (ws' := [(rd, .inr (0, [.ref tp, .ref sc, .int o0_28, .int o1_29, .int xt, .int xa, .int xo, .int xv, .int xj])), (tp, .inr (6, [.ref tb, .int ts])), (tb, .inl (cB, 1200, .inl fb))]) [2, 0, 1] rfl
    have hD := hD.sub (ws' := [(rd, .inr (0, [.ref tp, .ref sc, .int o0_28, .int o1_29, .int xt, .int xa, .int xo, .int xv, .int xj])), (tp, .inr (6, [.ref tb, .int ts])), (tb, .inl (cB, 1200, .inl fb))]) [2, 0, 1] (by decide) rfl
    have hP : va_P (dC, dI) vwCl [(rd, .inr (0, [.ref tp, .ref sc, .int o0_28, .int o1_29, .int xt, .int xa, .int xo, .int xv, .int xj])), (tp, .inr (6, [.ref tb, .int ts])), (tb, .inl (cB, 1200, .inl fb))] H := hP
    have hD : va_D A [(rd, .inr (0, [.ref tp, .ref sc, .int o0_28, .int o1_29, .int xt, .int xa, .int xo, .int xv, .int xj])), (tp, .inr (6, [.ref tb, .int ts])), (tb, .inl (cB, 1200, .inl fb))] := hD
    have hK : va_K (dC, dI) vwCl [(cB, .byte)] s := hK
    have hP9 := hP.sub (ws' := [(rd, .inr (0, [.ref tp, .ref sc, .int o0_28, .int o1_29, .int xt, .int xa, .int xo, .int xv, .int xj])), (tp, .inr (6, [.ref tb, .int ts])), (tb, .inl (cB, 1200, .inl fb))]) [0, 1, 2] rfl
    have hD9 := hD.sub (ws' := [(rd, .inr (0, [.ref tp, .ref sc, .int o0_28, .int o1_29, .int xt, .int xa, .int xo, .int xv, .int xj])), (tp, .inr (6, [.ref tb, .int ts])), (tb, .inl (cB, 1200, .inl fb))]) [0, 1, 2] (by decide) rfl
    have hK9 := hK.sub (tys' := [(cB, .byte)]) [0] rfl
    exact W.vret hx hb hr (fun t ht hW => ⟨⟨(), rfl, trivial, o0_28, o1_29, xt, xa, xo, xv, (rg_w b_o0_28 (by decide) (by decide)), b_o1_29, b_xt, b_xa, b_xo, (by omega), (by omega), by rw [ht]; exact hP9, va_K.moved hW.alike hK9, hD9⟩, hS.F ht⟩) hS.2.2 dX1_passSign_27
  ·
    have n_c_25 : (xf.toInt : Int) = 0 := c_eq rfl (by decide) c_25
    have b_xf : (0 : Int) ≤ xf.toInt ∧ xf.toInt ≤ 0 := r_eq1 b_xf (by decide : (0 : Int) ≤ (0 : Int32).toInt ∧ (0 : Int32).toInt ≤ 0) n_c_25 (by decide)
    refine lv_aload_n hx hb dX1_passSign_7 rfl (lv_at hl 0 rfl) ?_
    refine lv_iload_n hx hb dX1_passSign_8 rfl (lv_at hl 1 rfl) ?_
    refine vp_callSi (W.runV (As := [.int a1]) (rest := []) ⟨hx, hb, hml, hown, hts⟩ (kX1_isSign l dC dI rd xf xp xt xa xo xv xj tp sc a1 (rg_w b_xf (by decide) (by decide)) b_xp b_xt b_xa b_xo) (cwV 1 hts gX1_passSign__X1_isSign_V119 rfl rfl rfl hd_yX1_isSign ⟨lel 1 1 rfl, lel 21 22 rfl⟩) ⟨pw_fb, rcv_X1 hK hP (q0 := 0) rfl, (pw_use hP hK hN [0] rfl [] rfl)⟩ rfl rfl hl.1 rfl (lv_room (Nat.le_of_ble_eq_true rfl)) dX1_passSign_9 ⟨lel 0 0 rfl, lel 0 0 rfl⟩) (fun r_32 h_r_32 => ?_)
    obtain ⟨b_r_32, nz_r_32, zz_r_32⟩ := h_r_32
    have b_r_32 : (0 : Int) ≤ r_32.toInt ∧ r_32.toInt ≤ 1 := b_r_32
    refine lv_if_eq (tgt := 22) hx hb dX1_passSign_12 (by decide) (fun c_33 => ?_) (fun c_33 => ?_)
    ·
      have n_c_33 : (r_32.toInt : Int) = 0 := c_eq rfl (by decide) c_33
      have b_r_32 : (0 : Int) ≤ r_32.toInt ∧ r_32.toInt ≤ 0 := r_eq1 b_r_32 (by decide : (0 : Int) ≤ (0 : Int32).toInt ∧ (0 : Int32).toInt ≤ 0) n_c_33 (by decide)
      have g_34 := zz_r_32 c_33
      refine lv_aload_n hx hb dX1_passSign_22 rfl (lv_at hl 0 rfl) ?_
      refine lv_iconst (v := 1) hx hb dX1_passSign_23 (by decide) ?_
      have hFc := va_free (wc := [(rd, .inr (0, [.ref tp, .ref sc, .int xf, .int xp, .int xt, .int xa, .int xo, .int xv, .int xj]))]) hD hS hA [0] rfl
      refine va_callv (va_runV (As := [.int 1]) (rest := []) ⟨hx, hb, hml, hown, hts⟩ (kX1_refuse l dC dI rd xf xp xt xa xo xv xj tp sc 1 (s.heap.size) (rg_w b_xf (by decide) (by decide)) b_xp b_xt b_xa b_xo (rg_w (by decide : (1 : Int) ≤ (1 : Int32).toInt ∧ (1 : Int32).toInt ≤ 1) (by decide) (by decide))) (cwV 1 hts gX1_passSign__X1_refuse_V96 rfl rfl rfl hd_yX1_refuse ⟨lel 1 1 rfl, lel 21 22 rfl⟩) ⟨hw_fb, rcv_X1 hK hP (q0 := 0) rfl, (hw_use hP hD hK hN [0] rfl (by decide) rfl [] rfl)⟩ rfl rfl hl.1 rfl (lv_room (Nat.le_of_ble_eq_true rfl)) dX1_passSign_24 ⟨lel 0 0 rfl, lel 0 0 rfl⟩) hS (fun q _ h => hFc q h) hFc (fun u_36 t H1 locs ht hvm hw_r_35 hB hz1 hk1 hS => ?_)
      obtain ⟨o0_37, o1_38, b_o0_37, b_o1_38, hf_39, hf_40, hP1, hK1, hD1⟩ := hB
      rw [ht] at hP1
      have hK1 := va_K.moved hvm.symm hK1
      obtain ⟨hP, hD⟩ := va_join (wr := [(tp, .inr (6, [.ref tb, .int ts])), (tb, .inl (cB, 1200, .inl fb))]) (w1 := [(rd, .inr (0, [.ref tp, .ref sc, .int o0_37, .int o1_38, .int xt, .int xa, .int xo, .int xv, .int xj]))]) hP hD [0] [1, 2] rfl rfl (by decide) (by decide) hk1 hFc hP1 hD1
      have hK := (hK.sub (tys' := [(cB, .byte)]) [0] rfl).app hK1
      generalize H1 = H at hP hS ⊢
      have hP := hP.sub (ws' := [(rd, .inr (0, [.ref tp, .ref sc, .int o0_37, .int o1_38, .int xt, .int xa, .int xo, .int xv, .int xj])), (tp, .inr (6, [.ref tb, .int ts])), (tb, .inl (cB, 1200, .inl fb))]) [2, 0, 1] rfl
      have hD := hD.sub (ws' := [(rd, .inr (0, [.ref tp, .ref sc, .int o0_37, .int o1_38, .int xt, .int xa, .int xo, .int xv, .int xj])), (tp, .inr (6, [.ref tb, .int ts])), (tb, .inl (cB, 1200, .inl fb))]) [2, 0, 1] (by decide) rfl
      have hP : va_P (dC, dI) vwCl [(rd, .inr (0, [.ref tp, .ref sc, .int o0_37, .int o1_38, .int xt, .int xa, .int xo, .int xv, .int xj])), (tp, .inr (6, [.ref tb, .int ts])), (tb, .inl (cB, 1200, .inl fb))] H := hP
      have hD : va_D A [(rd, .inr (0, [.ref tp, .ref sc, .int o0_37, .int o1_38, .int xt, .int xa, .int xo, .int xv, .int xj])), (tp, .inr (6, [.ref tb, .int ts])), (tb, .inl (cB, 1200, .inl fb))] := hD
      have hK : va_K (dC, dI) vwCl [(cB, .byte)] s := hK
      have hP9 := hP.sub (ws' := [(rd, .inr (0, [.ref tp, .ref sc, .int o0_37, .int o1_38, .int xt, .int xa, .int xo, .int xv, .int xj])), (tp, .inr (6, [.ref tb, .int ts])), (tb, .inl (cB, 1200, .inl fb))]) [0, 1, 2] rfl
      have hD9 := hD.sub (ws' := [(rd, .inr (0, [.ref tp, .ref sc, .int o0_37, .int o1_38, .int xt, .int xa, .int xo, .int xv, .int xj])), (tp, .inr (6, [.ref tb, .int ts])), (tb, .inl (cB, 1200, .inl fb))]) [0, 1, 2] (by decide) rfl
      have hK9 := hK.sub (tys' := [(cB, .byte)]) [0] rfl
      exact W.vret hx hb hr (fun t ht hW => ⟨⟨(), rfl, trivial, o0_37, o1_38, xt, xa, xo, xv, (rg_w b_o0_37 (by decide) (by decide)), b_o1_38, b_xt, b_xa, b_xo, (by omega), (by omega), by rw [ht]; exact hP9, va_K.moved hW.alike hK9, hD9⟩, hS.F ht⟩) hS.2.2 dX1_passSign_27
    ·
      have n_c_33 : (r_32.toInt : Int) ≠ 0 := c_ne rfl (by decide) c_33
      have b_r_32 : (1 : Int) ≤ r_32.toInt ∧ r_32.toInt ≤ 1 := r_ne1 b_r_32 (by decide : (0 : Int) ≤ (0 : Int32).toInt ∧ (0 : Int32).toInt ≤ 0) n_c_33 (by decide)
      have g_41 := nz_r_32 c_33
      refine lv_aload_n hx hb dX1_passSign_15 rfl (lv_at hl 0 rfl) ?_
      have hFc := va_free (wc := [(rd, .inr (0, [.ref tp, .ref sc, .int xf, .int xp, .int xt, .int xa, .int xo, .int xv, .int xj])), (tp, .inr (6, [.ref tb, .int ts])), (tb, .inl (cB, 1200, .inl fb))]) hD hS hA [0, 1, 2] rfl
      refine va_callv (va_runV (As := []) (rest := []) ⟨hx, hb, hml, hown, hts⟩ (kX1_advance l dC dI rd xf xp xt xa xo xv xj tp tb ts cB fb sc (s.heap.size) (rg_w b_xf (by decide) (by decide)) b_xp b_xt b_xa b_xo b_ts (by omega)) (cwV 0 hts gX1_passSign__X1_advance_V34 rfl rfl rfl hd_yX1_advance ⟨lel 1 1 rfl, lel 22 22 rfl⟩) ⟨hw_fb, rcv_X1 hK hP (q0 := 0) rfl, (hw_use hP hD hK hN [0, 1, 2] rfl (by decide) rfl [0] rfl)⟩ rfl rfl hl.1 rfl (lv_room (Nat.le_of_ble_eq_true rfl)) dX1_passSign_16 ⟨lel 0 0 rfl, lel 0 0 rfl⟩) hS (fun q _ h => hFc q h) hFc (fun u_43 t H1 locs ht hvm hw_r_42 hB hz1 hk1 hS => ?_)
      obtain ⟨o0_44, o1_45, o2_46, o3_47, b_o0_44, b_o1_45, b_o2_46, hf_48, hP1, hK1, hD1⟩ := hB
      rw [ht] at hP1
      have hK1 := va_K.moved hvm.symm hK1
      obtain ⟨hP, hD⟩ := va_join (wr := []) (w1 := [(rd, .inr (0, [.ref tp, .ref sc, .int xf, .int xp, .int o0_44, .int o1_45, .int o2_46, .int o3_47, .int xj])), (tp, .inr (6, [.ref tb, .int ts])), (tb, .inl (cB, 1200, .inl fb))]) hP hD [0, 1, 2] [] rfl rfl (by decide) (by decide) hk1 hFc hP1 hD1
      have hK := (hK.sub (tys' := []) [] rfl).app hK1
      generalize H1 = H at hP hS ⊢
      have hP : va_P (dC, dI) vwCl [(rd, .inr (0, [.ref tp, .ref sc, .int xf, .int xp, .int o0_44, .int o1_45, .int o2_46, .int o3_47, .int xj])), (tp, .inr (6, [.ref tb, .int ts])), (tb, .inl (cB, 1200, .inl fb))] H := hP
      have hD : va_D A [(rd, .inr (0, [.ref tp, .ref sc, .int xf, .int xp, .int o0_44, .int o1_45, .int o2_46, .int o3_47, .int xj])), (tp, .inr (6, [.ref tb, .int ts])), (tb, .inl (cB, 1200, .inl fb))] := hD
      have hK : va_K (dC, dI) vwCl [(cB, .byte)] s := hK
      refine lv_goto (tgt := 27) hx hb dX1_passSign_19 (by decide) ?_
      have hP9 := hP.sub (ws' := [(rd, .inr (0, [.ref tp, .ref sc, .int xf, .int xp, .int o0_44, .int o1_45, .int o2_46, .int o3_47, .int xj])), (tp, .inr (6, [.ref tb, .int ts])), (tb, .inl (cB, 1200, .inl fb))]) [0, 1, 2] rfl
      have hD9 := hD.sub (ws' := [(rd, .inr (0, [.ref tp, .ref sc, .int xf, .int xp, .int o0_44, .int o1_45, .int o2_46, .int o3_47, .int xj])), (tp, .inr (6, [.ref tb, .int ts])), (tb, .inl (cB, 1200, .inl fb))]) [0, 1, 2] (by decide) rfl
      have hK9 := hK.sub (tys' := [(cB, .byte)]) [0] rfl
      exact W.vret hx hb hr (fun t ht hW => ⟨⟨(), rfl, trivial, xf, xp, o0_44, o1_45, o2_46, o3_47, (rg_w b_xf (by decide) (by decide)), b_xp, b_o0_44, b_o1_45, b_o2_46, (by omega), (by omega), by rw [ht]; exact hP9, va_K.moved hW.alike hK9, hD9⟩, hS.F ht⟩) hS.2.2 dX1_passSign_27
theorem dX1_passNumber_0 : decode cX1_passNumber 0 = .ok (.aload_n 0, 1) := by decide +kernel
theorem dX1_passNumber_1 : decode cX1_passNumber 1 = .ok (.getfield 172, 3) := by decide +kernel
theorem dX1_passNumber_4 : decode cX1_passNumber 4 = .ok (.istore_n 3, 1) := by decide +kernel
theorem dX1_passNumber_5 : decode cX1_passNumber 5 = .ok (.aload_n 0, 1) := by decide +kernel
theorem dX1_passNumber_6 : decode cX1_passNumber 6 = .ok (.getfield 39, 3) := by decide +kernel
theorem dX1_passNumber_9 : decode cX1_passNumber 9 = .ok (.iconst 2, 1) := by decide +kernel
theorem dX1_passNumber_10 : decode cX1_passNumber 10 = .ok (.if_icmp .eq 11, 3) := by decide +kernel
theorem dX1_passNumber_13 : decode cX1_passNumber 13 = .ok (.aload_n 0, 1) := by decide +kernel
theorem dX1_passNumber_14 : decode cX1_passNumber 14 = .ok (.iconst 1, 1) := by decide +kernel
theorem dX1_passNumber_15 : decode cX1_passNumber 15 = .ok (.invokevirtual 96, 3) := by decide +kernel
theorem dX1_passNumber_18 : decode cX1_passNumber 18 = .ok (.goto 18, 3) := by decide +kernel
theorem dX1_passNumber_21 : decode cX1_passNumber 21 = .ok (.iload_n 3, 1) := by decide +kernel
theorem dX1_passNumber_22 : decode cX1_passNumber 22 = .ok (.iload_n 1, 1) := by decide +kernel
theorem dX1_passNumber_23 : decode cX1_passNumber 23 = .ok (.if_icmp .lt 8, 3) := by decide +kernel
theorem dX1_passNumber_26 : decode cX1_passNumber 26 = .ok (.iload_n 3, 1) := by decide +kernel
theorem dX1_passNumber_27 : decode cX1_passNumber 27 = .ok (.iload_n 2, 1) := by decide +kernel
theorem dX1_passNumber_28 : decode cX1_passNumber 28 = .ok (.if_icmp .le 8, 3) := by decide +kernel
theorem dX1_passNumber_31 : decode cX1_passNumber 31 = .ok (.aload_n 0, 1) := by decide +kernel
theorem dX1_passNumber_32 : decode cX1_passNumber 32 = .ok (.iconst 2, 1) := by decide +kernel
theorem dX1_passNumber_33 : decode cX1_passNumber 33 = .ok (.invokevirtual 96, 3) := by decide +kernel
theorem dX1_passNumber_36 : decode cX1_passNumber 36 = .ok (.aload_n 0, 1) := by decide +kernel
theorem dX1_passNumber_37 : decode cX1_passNumber 37 = .ok (.getfield 23, 3) := by decide +kernel
theorem dX1_passNumber_40 : decode cX1_passNumber 40 = .ok (.ifCond .eq 5, 3) := by decide +kernel
theorem dX1_passNumber_43 : decode cX1_passNumber 43 = .ok (.iconst 0, 1) := by decide +kernel
theorem dX1_passNumber_44 : decode cX1_passNumber 44 = .ok (.ireturn, 1) := by decide +kernel
theorem dX1_passNumber_45 : decode cX1_passNumber 45 = .ok (.aload_n 0, 1) := by decide +kernel
theorem dX1_passNumber_46 : decode cX1_passNumber 46 = .ok (.invokevirtual 34, 3) := by decide +kernel
theorem dX1_passNumber_49 : decode cX1_passNumber 49 = .ok (.iload_n 3, 1) := by decide +kernel
theorem dX1_passNumber_50 : decode cX1_passNumber 50 = .ok (.ireturn, 1) := by decide +kernel
theorem hd_yX1_passNumber : yX1_passNumber.cls = RX1 ∧ yX1_passNumber.cls ≠ "java/lang/invoke/MethodHandle" ∧ yX1_passNumber.cls ≠ "java/lang/invoke/VarHandle" ∧ (parseMethodDescriptor yX1_passNumber.desc).map (fun d => d.parameters.length) = some 2 := by decide +kernel
def uX1_passNumber : List Cond := List.cons (.code yX1_passNumber cX1_passNumber 4 (some .int)) (HAppend.hAppend ([.fieldLink RX1 172 "LuckyTicket$Reader" "value" "I", .fieldLink RX1 39 "LuckyTicket$Reader" "token" "I", .methodLink RX1 96 yX1_refuse, .instanceMethod yX1_refuse, .selects RX1 yX1_refuse yX1_refuse, .initialized RX1, .fieldLink RX1 23 "LuckyTicket$Reader" "fault" "I", .methodLink RX1 34 yX1_advance, .instanceMethod yX1_advance, .selects RX1 yX1_advance yX1_advance] : List Cond) (HAppend.hAppend uX1_refuse (HAppend.hAppend uX1_advance wsX10)))
theorem iX1_passNumber_X1 : ∀ w ∈ wsX10, w ∈ uX1_passNumber := fun _ h => (List.mem_cons_of_mem _ (List.mem_append_right _ (List.mem_append_right _ (List.mem_append_right _ h))))
theorem guX1_passNumber : GU uX1_passNumber := gu_cons (gu_app (by decide +kernel) (gu_ap guX1_refuse (gu_ap guX1_advance gws_X1)))
theorem gX1_passNumber__X1_refuse_V96 : GoodIn uX1_passNumber (wsV RX1 96 RX1 yX1_refuse uX1_refuse) := gin_V (List.mem_of_getElem? (i := 3) rfl) (List.mem_of_getElem? (i := 4) rfl) (List.mem_of_getElem? (i := 5) rfl) (List.mem_of_getElem? (i := 6) rfl) (fun _ h => (List.mem_cons_of_mem _ (List.mem_append_right _ (List.mem_append_left _ h)))) guX1_refuse
theorem gX1_passNumber__X1_advance_V34 : GoodIn uX1_passNumber (wsV RX1 34 RX1 yX1_advance uX1_advance) := gin_V (List.mem_of_getElem? (i := 8) rfl) (List.mem_of_getElem? (i := 9) rfl) (List.mem_of_getElem? (i := 10) rfl) (List.mem_of_getElem? (i := 6) rfl) (fun _ h => (List.mem_cons_of_mem _ (List.mem_append_right _ (List.mem_append_right _ (List.mem_append_left _ h))))) guX1_advance
set_option maxHeartbeats 4000000 in
set_option maxRecDepth 100000 in
theorem kX1_passNumber (l : Launch) (dC : Nat → ClassId) (dI : Nat → Nat → Nat) (rd : Nat) (xf : Int32) (xp : Int32) (xt : Int32) (xa : Int32) (xo : Int32) (xv : Int32) (xj : Int32) (tp : Nat) (tb : Nat) (ts : Int32) (cB : ClassId) (fb : Nat → Int32) (sc : Nat) (a1 : Int32) (a2 : Int32) (sz : Nat) (b_xf : (0 : Int) ≤ xf.toInt ∧ xf.toInt ≤ 3) (b_xp : (-1 : Int) ≤ xp.toInt ∧ xp.toInt ≤ 1200) (b_xt : (0 : Int) ≤ xt.toInt ∧ xt.toInt ≤ 4) (b_xa : (0 : Int) ≤ xa.toInt ∧ xa.toInt ≤ 1200) (b_xo : (0 : Int) ≤ xo.toInt ∧ xo.toInt ≤ 1200) (b_ts : (0 : Int) ≤ ts.toInt ∧ ts.toInt ≤ 1200) (hrd : xa.toInt ≤ xo.toInt) : Met l yX1_passNumber uX1_passNumber ({ frames := 1, cells := 0, slots := 0, locals := 22 }) (va_Pc [.ref rd, .int a1, .int a2] (hw (dC, dI) vwCl [(rd, .inr (0, [.ref tp, .ref sc, .int xf, .int xp, .int xt, .int xa, .int xo, .int xv, .int xj])), (tp, .inr (6, [.ref tb, .int ts])), (tb, .inl (cB, 1200, .inl fb))] [(cB, .byte)] sz)) (va_Qi (fun (r : Int32) (u_ : Int32) => r = u_ ∧ (r.toInt = 0 ∨ (a1.toInt ≤ r.toInt ∧ r.toInt ≤ a2.toInt))) (fun (r : Int32) t => ∃ (o0_ : Int32) (o1_ : Int32) (o2_ : Int32) (o3_ : Int32) (o4_ : Int32) (o5_ : Int32), ((0 : Int) ≤ o0_.toInt ∧ o0_.toInt ≤ 3) ∧ ((-1 : Int) ≤ o1_.toInt ∧ o1_.toInt ≤ 1200) ∧ ((0 : Int) ≤ o2_.toInt ∧ o2_.toInt ≤ 4) ∧ ((0 : Int) ≤ o3_.toInt ∧ o3_.toInt ≤ 1200) ∧ ((0 : Int) ≤ o4_.toInt ∧ o4_.toInt ≤ 1200) ∧ (o3_.toInt ≤ o4_.toInt) ∧ (o0_.toInt = 0 → xf.toInt = 0) ∧ (o0_.toInt = 0 → a1.toInt ≤ r.toInt ∧ r.toInt ≤ a2.toInt) ∧ va_P (dC, dI) vwCl [(rd, .inr (0, [.ref tp, .ref sc, .int o0_, .int o1_, .int o2_, .int o3_, .int o4_, .int o5_, .int xj])), (tp, .inr (6, [.ref tb, .int ts])), (tb, .inl (cB, 1200, .inl fb))] t.heap ∧ va_K (dC, dI) vwCl [(cB, .byte)] t ∧ va_D (va_A [(rd, .inr (0, [.ref tp, .ref sc, .int xf, .int xp, .int xt, .int xa, .int xo, .int xv, .int xj])), (tp, .inr (6, [.ref tb, .int ts])), (tb, .inl (cB, 1200, .inl fb))] sz) [(rd, .inr (0, [.ref tp, .ref sc, .int o0_, .int o1_, .int o2_, .int o3_, .int o4_, .int o5_, .int xj])), (tp, .inr (6, [.ref tb, .int ts])), (tb, .inl (cB, 1200, .inl fb))]) (va_A [(rd, .inr (0, [.ref tp, .ref sc, .int xf, .int xp, .int xt, .int xa, .int xo, .int xv, .int xj])), (tp, .inr (6, [.ref tb, .int ts])), (tb, .inl (cB, 1200, .inl fb))] sz)) 0 0 (va_A [(rd, .inr (0, [.ref tp, .ref sc, .int xf, .int xp, .int xt, .int xa, .int xo, .int xv, .int xj])), (tp, .inr (6, [.ref tb, .int ts])), (tb, .inl (cB, 1200, .inl fb))] sz) := by
  refine Met.ofW (cc := cX1_passNumber) (maxL := 4) (ret := (some .int)) pn_X1 rfl ?_
  intro p e s m args below meth c s₁ B hml hv
  obtain ⟨rfl, hsz, hP, hK, hD0, hN⟩ := hv
  have hx := B.exec
  have hb := B.bytes
  have hr := B.returns
  have hts := atoms_spec (ws := uX1_passNumber) B.pre
  have hown : s.vm.findClass RX1 = some m.cls := hown_of B.named rfl
  have hlocks := B.notSynchronized
  subst hsz
  have hD := hD0.self (sz := s.heap.size)
  generalize hAe : va_A [(rd, .inr (0, [.ref tp, .ref sc, .int xf, .int xp, .int xt, .int xa, .int xo, .int xv, .int xj])), (tp, .inr (6, [.ref tb, .int ts])), (tb, .inl (cB, 1200, .inl fb))] s.heap.size = A at hD ⊢
  have hA : ∀ q : Nat, s.heap.size ≤ q → A q := fun q h => by rw [← hAe]; exact Or.inr h
  have hS : va_S A s.heap s.heap [] := va_S.rf
  have hP : va_P (dC, dI) vwCl [(rd, .inr (0, [.ref tp, .ref sc, .int xf, .int xp, .int xt, .int xa, .int xo, .int xv, .int xj])), (tp, .inr (6, [.ref tb, .int ts])), (tb, .inl (cB, 1200, .inl fb))] s.heap := hP
  have hl := lv_entry ([.ref rd, .int a1, .int a2]) (n := 4) (Nat.le_of_ble_eq_true rfl)
  rw [lg_entry_eq]
  generalize (lg_sl ([.ref rd, .int a1, .int a2]) ++ List.replicate (4 - (lg_sl ([.ref rd, .int a1, .int a2])).length) Slot.unset).toArray = ls at hl ⊢
  have hl : lv_has ls 4 [(0, .ref rd), (1, .int a1), (2, .int a2)] := hl
  refine lv_aload_n hx hb dX1_passNumber_0 rfl (lv_at hl 0 rfl) ?_
  refine va_get (D := (dC, dI)) (ci := 0) (v := .int xv) (C := RX1) (T := TX1) (N := 9) hx hb hts iX1_passNumber_X1 hown hK hP 0 rfl rfl 7 (by decide) (hts (.fieldLink RX1 172 "LuckyTicket$Reader" "value" "I") (List.mem_of_getElem? (i := 1) rfl)) (fun _ h9 => h9) rfl dX1_passNumber_1 ?_
  refine lv_istore_n (lv' := [(3, .int xv), (0, .ref rd), (1, .int a1), (2, .int a2)]) hx hb dX1_passNumber_4 rfl hl (by decide) rfl (fun ls hl => ?_)
  refine lv_aload_n hx hb dX1_passNumber_5 rfl (lv_at hl 1 rfl) ?_
  refine va_get (D := (dC, dI)) (ci := 0) (v := .int xt) (C := RX1) (T := TX1) (N := 9) hx hb hts iX1_passNumber_X1 hown hK hP 0 rfl rfl 4 (by decide) (hts (.fieldLink RX1 39 "LuckyTicket$Reader" "token" "I") (List.mem_of_getElem? (i := 2) rfl)) (fun _ h9 => h9) rfl dX1_passNumber_6 ?_
  refine lv_iconst (v := 2) hx hb dX1_passNumber_9 (by decide) ?_
  refine cutW (σ := Int32 × Int32) (pc2 := 36) (st2 := fun v => []) (cells2 := 0) (slots2 := 0) (fun v H locs ls => ((0 : Int) ≤ v.1.toInt ∧ v.1.toInt ≤ 3) ∧ ((-1 : Int) ≤ v.2.toInt ∧ v.2.toInt ≤ 1200) ∧ (v.1.toInt = 0 → xf.toInt = 0 ∧ a1.toInt ≤ xv.toInt ∧ xv.toInt ≤ a2.toInt) ∧ va_P (dC, dI) vwCl [(rd, .inr (0, [.ref tp, .ref sc, .int v.1, .int v.2, .int xt, .int xa, .int xo, .int xv, .int xj])), (tp, .inr (6, [.ref tb, .int ts])), (tb, .inl (cB, 1200, .inl fb))] H ∧ va_D A [(rd, .inr (0, [.ref tp, .ref sc, .int v.1, .int v.2, .int xt, .int xa, .int xo, .int xv, .int xj])), (tp, .inr (6, [.ref tb, .int ts])), (tb, .inl (cB, 1200, .inl fb))] ∧ va_S A s.heap H locs ∧ lv_has ls 4 [(3, .int xv), (0, .ref rd), (1, .int a1), (2, .int a2)]) (fun v H locs ls hI => ?_) (fun hj_36_74 => ?_)
  ·
    obtain ⟨y_73, y_74⟩ := v
    obtain ⟨b_y_73, b_y_74, hjn, hP, hD, hS, hl⟩ := hI
    have b_y_73 : (0 : Int) ≤ y_73.toInt ∧ y_73.toInt ≤ 3 := b_y_73
    have b_y_74 : (-1 : Int) ≤ y_74.toInt ∧ y_74.toInt ≤ 1200 := b_y_74
    have hjn : y_73.toInt = 0 → xf.toInt = 0 ∧ a1.toInt ≤ xv.toInt ∧ xv.toInt ≤ a2.toInt := hjn
    have hP : va_P (dC, dI) vwCl [(rd, .inr (0, [.ref tp, .ref sc, .int y_73, .int y_74, .int xt, .int xa, .int xo, .int xv, .int xj])), (tp, .inr (6, [.ref tb, .int ts])), (tb, .inl (cB, 1200, .inl fb))] H := hP
    have hD : va_D A [(rd, .inr (0, [.ref tp, .ref sc, .int y_73, .int y_74, .int xt, .int xa, .int xo, .int xv, .int xj])), (tp, .inr (6, [.ref tb, .int ts])), (tb, .inl (cB, 1200, .inl fb))] := hD
    have hl : lv_has ls 4 [(3, .int xv), (0, .ref rd), (1, .int a1), (2, .int a2)] := hl
    refine lv_aload_n hx hb dX1_passNumber_36 rfl (lv_at hl 1 rfl) ?_
    refine va_get (D := (dC, dI)) (ci := 0) (v := .int y_73) (C := RX1) (T := TX1) (N := 9) hx hb hts iX1_passNumber_X1 hown hK hP 0 rfl rfl 2 (by decide) (hts (.fieldLink RX1 23 "LuckyTicket$Reader" "fault" "I") (List.mem_of_getElem? (i := 7) rfl)) (fun _ h9 => h9) rfl dX1_passNumber_37 ?_
    refine lv_if_eq (tgt := 45) hx hb dX1_passNumber_40 (by decide) (fun c_75 => ?_) (fun c_75 => ?_)
    ·
      have n_c_75 : (y_73.toInt : Int) = 0 := c_eq rfl (by decide) c_75
      have b_y_73 : (0 : Int) ≤ y_73.toInt ∧ y_73.toInt ≤ 0 := r_eq1 b_y_73 (by decide : (0 : Int) ≤ (0 : Int32).toInt ∧ (0 : Int32).toInt ≤ 0) n_c_75 (by decide)
      refine lv_aload_n hx hb dX1_passNumber_45 rfl (lv_at hl 1 rfl) ?_
      have hFc := va_free (wc := [(rd, .inr (0, [.ref tp, .ref sc, .int y_73, .int y_74, .int xt, .int xa, .int xo, .int xv, .int xj])), (tp, .inr (6, [.ref tb, .int ts])), (tb, .inl (cB, 1200, .inl fb))]) hD hS hA [0, 1, 2] rfl
      refine va_callv (va_runV (As := []) (rest := []) ⟨hx, hb, hml, hown, hts⟩ (kX1_advance l dC dI rd y_73 y_74 xt xa xo xv xj tp tb ts cB fb sc (H.size) (rg_w b_y_73 (by decide) (by decide)) b_y_74 b_xt b_xa b_xo b_ts (by omega)) (cwV 0 hts gX1_passNumber__X1_advance_V34 rfl rfl rfl hd_yX1_advance ⟨lel 1 1 rfl, lel 22 22 rfl⟩) ⟨hw_fb, rcv_X1 hK hP (q0 := 0) rfl, (hw_use hP hD hK hN [0, 1, 2] rfl (by decide) rfl [0] rfl)⟩ rfl rfl hl.1 rfl (lv_room (Nat.le_of_ble_eq_true rfl)) dX1_passNumber_46 ⟨lel 0 0 rfl, lel 0 0 rfl⟩) hS (fun q _ h => hFc q h) hFc (fun u_77 t H1 locs ht hvm hw_r_76 hB hz1 hk1 hS => ?_)
      obtain ⟨o0_78, o1_79, o2_80, o3_81, b_o0_78, b_o1_79, b_o2_80, hf_82, hP1, hK1, hD1⟩ := hB
      rw [ht] at hP1
      have hK1 := va_K.moved hvm.symm hK1
      obtain ⟨hP, hD⟩ := va_join (wr := []) (w1 := [(rd, .inr (0, [.ref tp, .ref sc, .int y_73, .int y_74, .int o0_78, .int o1_79, .int o2_80, .int o3_81, .int xj])), (tp, .inr (6, [.ref tb, .int ts])), (tb, .inl (cB, 1200, .inl fb))]) hP hD [0, 1, 2] [] rfl rfl (by decide) (by decide) hk1 hFc hP1 hD1
      have hK := (hK.sub (tys' := []) [] rfl).app hK1
      generalize H1 = H at hP hS ⊢
      have hP : va_P (dC, dI) vwCl [(rd, .inr (0, [.ref tp, .ref sc, .int y_73, .int y_74, .int o0_78, .int o1_79, .int o2_80, .int o3_81, .int xj])), (tp, .inr (6, [.ref tb, .int ts])), (tb, .inl (cB, 1200, .inl fb))] H := hP
      have hD : va_D A [(rd, .inr (0, [.ref tp, .ref sc, .int y_73, .int y_74, .int o0_78, .int o1_79, .int o2_80, .int o3_81, .int xj])), (tp, .inr (6, [.ref tb, .int ts])), (tb, .inl (cB, 1200, .inl fb))] := hD
      have hK : va_K (dC, dI) vwCl [(cB, .byte)] s := hK
      refine lv_iload_n hx hb dX1_passNumber_49 rfl (lv_at hl 0 rfl) ?_
      have hP9 := hP.sub (ws' := [(rd, .inr (0, [.ref tp, .ref sc, .int y_73, .int y_74, .int o0_78, .int o1_79, .int o2_80, .int o3_81, .int xj])), (tp, .inr (6, [.ref tb, .int ts])), (tb, .inl (cB, 1200, .inl fb))]) [0, 1, 2] rfl
      have hD9 := hD.sub (ws' := [(rd, .inr (0, [.ref tp, .ref sc, .int y_73, .int y_74, .int o0_78, .int o1_79, .int o2_80, .int o3_81, .int xj])), (tp, .inr (6, [.ref tb, .int ts])), (tb, .inl (cB, 1200, .inl fb))]) [0, 1, 2] (by decide) rfl
      have hK9 := hK.sub (tys' := [(cB, .byte)]) [0] rfl
      exact W.iret (v := xv) hx hb hr (fun t ht hW => ⟨⟨xv, xv, rfl, ⟨rfl, (by first | omega | exact Or.inl (by decide))⟩, y_73, y_74, o0_78, o1_79, o2_80, o3_81, (rg_w b_y_73 (by decide) (by decide)), b_y_74, b_o0_78, b_o1_79, b_o2_80, (by omega), (by omega), (by omega), by rw [ht]; exact hP9, va_K.moved hW.alike hK9, hD9⟩, hS.F ht⟩) hS.2.2 dX1_passNumber_50
    ·
      have n_c_75 : (y_73.toInt : Int) ≠ 0 := c_ne rfl (by decide) c_75
      have b_y_73 : (1 : Int) ≤ y_73.toInt ∧ y_73.toInt ≤ 3 := r_ne1 b_y_73 (by decide : (0 : Int) ≤ (0 : Int32).toInt ∧ (0 : Int32).toInt ≤ 0) n_c_75 (by decide)
      refine lv_iconst (v := 0) hx hb dX1_passNumber_43 (by decide) ?_
      have hP9 := hP.sub (ws' := [(rd, .inr (0, [.ref tp, .ref sc, .int y_73, .int y_74, .int xt, .int xa, .int xo, .int xv, .int xj])), (tp, .inr (6, [.ref tb, .int ts])), (tb, .inl (cB, 1200, .inl fb))]) [0, 1, 2] rfl
      have hD9 := hD.sub (ws' := [(rd, .inr (0, [.ref tp, .ref sc, .int y_73, .int y_74, .int xt, .int xa, .int xo, .int xv, .int xj])), (tp, .inr (6, [.ref tb, .int ts])), (tb, .inl (cB, 1200, .inl fb))]) [0, 1, 2] (by decide) rfl
      have hK9 := hK.sub (tys' := [(cB, .byte)]) [0] rfl
      exact W.iret (v := 0) hx hb hr (fun t ht hW => ⟨⟨0, 0, rfl, ⟨rfl, (by first | omega | exact Or.inl (by decide))⟩, y_73, y_74, xt, xa, xo, xv, (rg_w b_y_73 (by decide) (by decide)), b_y_74, b_xt, b_xa, b_xo, (by omega), (by omega), (by omega), by rw [ht]; exact hP9, va_K.moved hW.alike hK9, hD9⟩, hS.F ht⟩) hS.2.2 dX1_passNumber_44
  ·
    refine lv_icmp_eq (tgt := 21) hx hb dX1_passNumber_10 (by decide) (fun c_52 => ?_) (fun c_52 => ?_)
    ·
      have n_c_52 : (xt.toInt : Int) = 2 := c_eq rfl (by decide) c_52
      have b_xt : (2 : Int) ≤ xt.toInt ∧ xt.toInt ≤ 2 := r_eq1 b_xt (by decide : (2 : Int) ≤ (2 : Int32).toInt ∧ (2 : Int32).toInt ≤ 2) n_c_52 (by decide)
      refine lv_iload_n hx hb dX1_passNumber_21 rfl (lv_at hl 0 rfl) ?_
      refine lv_iload_n hx hb dX1_passNumber_22 rfl (lv_at hl 2 rfl) ?_
      refine lv_icmp_lt (tgt := 31) hx hb dX1_passNumber_23 (by decide) (fun c_83 => ?_) (fun c_83 => ?_)
      ·
        have n_c_83 : (xv.toInt : Int) < a1.toInt := c_lt rfl rfl c_83
        have b_xv : (-2147483648 : Int) ≤ xv.toInt ∧ xv.toInt ≤ 2147483646 := r_lt1 (ti_rng xv) (ti_rng a1) n_c_83 (by decide)
        have b_a1 : (-2147483647 : Int) ≤ a1.toInt ∧ a1.toInt ≤ 2147483647 := r_lt2 (ti_rng xv) (ti_rng a1) n_c_83 (by decide)
        refine lv_aload_n hx hb dX1_passNumber_31 rfl (lv_at hl 1 rfl) ?_
        refine lv_iconst (v := 2) hx hb dX1_passNumber_32 (by decide) ?_
        have hFc := va_free (wc := [(rd, .inr (0, [.ref tp, .ref sc, .int xf, .int xp, .int xt, .int xa, .int xo, .int xv, .int xj]))]) hD hS hA [0] rfl
        refine va_callv (va_runV (As := [.int 2]) (rest := []) ⟨hx, hb, hml, hown, hts⟩ (kX1_refuse l dC dI rd xf xp xt xa xo xv xj tp sc 2 (s.heap.size) b_xf b_xp (rg_w b_xt (by decide) (by decide)) b_xa b_xo (rg_w (by decide : (2 : Int) ≤ (2 : Int32).toInt ∧ (2 : Int32).toInt ≤ 2) (by decide) (by decide))) (cwV 1 hts gX1_passNumber__X1_refuse_V96 rfl rfl rfl hd_yX1_refuse ⟨lel 1 1 rfl, lel 21 22 rfl⟩) ⟨hw_fb, rcv_X1 hK hP (q0 := 0) rfl, (hw_use hP hD hK hN [0] rfl (by decide) rfl [] rfl)⟩ rfl rfl hl.1 rfl (lv_room (Nat.le_of_ble_eq_true rfl)) dX1_passNumber_33 ⟨lel 0 0 rfl, lel 0 0 rfl⟩) hS (fun q _ h => hFc q h) hFc (fun u_85 t H1 locs ht hvm hw_r_84 hB hz1 hk1 hS => ?_)
        obtain ⟨o0_86, o1_87, b_o0_86, b_o1_87, hf_88, hf_89, hP1, hK1, hD1⟩ := hB
        rw [ht] at hP1
        have hK1 := va_K.moved hvm.symm hK1
        obtain ⟨hP, hD⟩ := va_join (wr := [(tp, .inr (6, [.ref tb, .int ts])), (tb, .inl (cB, 1200, .inl fb))]) (w1 := [(rd, .inr (0, [.ref tp, .ref sc, .int o0_86, .int o1_87, .int xt, .int xa, .int xo, .int xv, .int xj]))]) hP hD [0] [1, 2] rfl rfl (by decide) (by decide) hk1 hFc hP1 hD1
        have hK := (hK.sub (tys' := [(cB, .byte)]) [0] rfl).app hK1
        generalize H1 = H at hP hS ⊢
        have hP := hP.sub (ws' := [(rd, .inr (0, [.ref tp, .ref sc, .int o0_86, .int o1_87, .int xt, .int xa, .int xo, .int xv, .int xj])), (tp, .inr (6, [.ref tb, .int ts])), (tb, .inl (cB, 1200, .inl fb))]) [2, 0, 1] rfl
        have hD := hD.sub (ws' := [(rd, .inr (0, [.ref tp, .ref sc, .int o0_86, .int o1_87, .int xt, .int xa, .int xo, .int xv, .int xj])), (tp, .inr (6, [.ref tb, .int ts])), (tb, .inl (cB, 1200, .inl fb))]) [2, 0, 1] (by decide) rfl
        have hP : va_P (dC, dI) vwCl [(rd, .inr (0, [.ref tp, .ref sc, .int o0_86, .int o1_87, .int xt, .int xa, .int xo, .int xv, .int xj])), (tp, .inr (6, [.ref tb, .int ts])), (tb, .inl (cB, 1200, .inl fb))] H := hP
        have hD : va_D A [(rd, .inr (0, [.ref tp, .ref sc, .int o0_86, .int o1_87, .int xt, .int xa, .int xo, .int xv, .int xj])), (tp, .inr (6, [.ref tb, .int ts])), (tb, .inl (cB, 1200, .inl fb))] := hD
        have hK : va_K (dC, dI) vwCl [(cB, .byte)] s := hK
        exact hj_36_74 (o0_86, o1_87) _ _ _ ⟨(show (0 : Int) ≤ o0_86.toInt ∧ o0_86.toInt ≤ 3 from (rg_w b_o0_86 (by decide) (by decide))), (show (-1 : Int) ≤ o1_87.toInt ∧ o1_87.toInt ≤ 1200 from b_o1_87), (show o0_86.toInt = 0 → xf.toInt = 0 ∧ a1.toInt ≤ xv.toInt ∧ xv.toInt ≤ a2.toInt from (by omega)), hP, hD, hS, lv_sub hl [0, 1, 2, 3] rfl⟩
      ·
        have n_c_83 : (a1.toInt : Int) ≤ xv.toInt := c_nlt rfl rfl c_83
        refine lv_iload_n hx hb dX1_passNumber_26 rfl (lv_at hl 0 rfl) ?_
        refine lv_iload_n hx hb dX1_passNumber_27 rfl (lv_at hl 3 rfl) ?_
        refine lv_icmp_le (tgt := 36) hx hb dX1_passNumber_28 (by decide) (fun c_90 => ?_) (fun c_90 => ?_)
        ·
          have n_c_90 : (xv.toInt : Int) ≤ a2.toInt := c_le rfl rfl c_90
          exact hj_36_74 (xf, xp) _ _ _ ⟨(show (0 : Int) ≤ xf.toInt ∧ xf.toInt ≤ 3 from b_xf), (show (-1 : Int) ≤ xp.toInt ∧ xp.toInt ≤ 1200 from b_xp), (show xf.toInt = 0 → xf.toInt = 0 ∧ a1.toInt ≤ xv.toInt ∧ xv.toInt ≤ a2.toInt from (by omega)), hP, hD, hS, lv_sub hl [0, 1, 2, 3] rfl⟩
        ·
          have n_c_90 : (a2.toInt : Int) < xv.toInt := c_nle rfl rfl c_90
          have b_a2 : (-2147483648 : Int) ≤ a2.toInt ∧ a2.toInt ≤ 2147483646 := r_lt1 (ti_rng a2) (ti_rng xv) n_c_90 (by decide)
          have b_xv : (-2147483647 : Int) ≤ xv.toInt ∧ xv.toInt ≤ 2147483647 := r_lt2 (ti_rng a2) (ti_rng xv) n_c_90 (by decide)
          refine lv_aload_n hx hb dX1_passNumber_31 rfl (lv_at hl 1 rfl) ?_
          refine lv_iconst (v := 2) hx hb dX1_passNumber_32 (by decide) ?_
          have hFc := va_free (wc := [(rd, .inr (0, [.ref tp, .ref sc, .int xf, .int xp, .int xt, .int xa, .int xo, .int xv, .int xj]))]) hD hS hA [0] rfl
          refine va_callv (va_runV (As := [.int 2]) (rest := []) ⟨hx, hb, hml, hown, hts⟩ (kX1_refuse l dC dI rd xf xp xt xa xo xv xj tp sc 2 (s.heap.size) b_xf b_xp (rg_w b_xt (by decide) (by decide)) b_xa b_xo (rg_w (by decide : (2 : Int) ≤ (2 : Int32).toInt ∧ (2 : Int32).toInt ≤ 2) (by decide) (by decide))) (cwV 1 hts gX1_passNumber__X1_refuse_V96 rfl rfl rfl hd_yX1_refuse ⟨lel 1 1 rfl, lel 21 22 rfl⟩) ⟨hw_fb, rcv_X1 hK hP (q0 := 0) rfl, (hw_use hP hD hK hN [0] rfl (by decide) rfl [] rfl)⟩ rfl rfl hl.1 rfl (lv_room (Nat.le_of_ble_eq_true rfl)) dX1_passNumber_33 ⟨lel 0 0 rfl, lel 0 0 rfl⟩) hS (fun q _ h => hFc q h) hFc (fun u_92 t H1 locs ht hvm hw_r_91 hB hz1 hk1 hS => ?_)
          obtain ⟨o0_93, o1_94, b_o0_93, b_o1_94, hf_95, hf_96, hP1, hK1, hD1⟩ := hB
          rw [ht] at hP1
          have hK1 := va_K.moved hvm.symm hK1
          obtain ⟨hP, hD⟩ := va_join (wr := [(tp, .inr (6, [.ref tb, .int ts])), (tb, .inl (cB, 1200, .inl fb))]) (w1 := [(rd, .inr (0, [.ref tp, .ref sc, .int o0_93, .int o1_94, .int xt, .int xa, .int xo, .int xv, .int xj]))]) hP hD [0] [1, 2] rfl rfl (by decide) (by decide) hk1 hFc hP1 hD1
          have hK := (hK.sub (tys' := [(cB, .byte)]) [0] rfl).app hK1
          generalize H1 = H at hP hS ⊢
          have hP := hP.sub (ws' := [(rd, .inr (0, [.ref tp, .ref sc, .int o0_93, .int o1_94, .int xt, .int xa, .int xo, .int xv, .int xj])), (tp, .inr (6, [.ref tb, .int ts])), (tb, .inl (cB, 1200, .inl fb))]) [2, 0, 1] rfl
          have hD := hD.sub (ws' := [(rd, .inr (0, [.ref tp, .ref sc, .int o0_93, .int o1_94, .int xt, .int xa, .int xo, .int xv, .int xj])), (tp, .inr (6, [.ref tb, .int ts])), (tb, .inl (cB, 1200, .inl fb))]) [2, 0, 1] (by decide) rfl
          have hP : va_P (dC, dI) vwCl [(rd, .inr (0, [.ref tp, .ref sc, .int o0_93, .int o1_94, .int xt, .int xa, .int xo, .int xv, .int xj])), (tp, .inr (6, [.ref tb, .int ts])), (tb, .inl (cB, 1200, .inl fb))] H := hP
          have hD : va_D A [(rd, .inr (0, [.ref tp, .ref sc, .int o0_93, .int o1_94, .int xt, .int xa, .int xo, .int xv, .int xj])), (tp, .inr (6, [.ref tb, .int ts])), (tb, .inl (cB, 1200, .inl fb))] := hD
          have hK : va_K (dC, dI) vwCl [(cB, .byte)] s := hK
          exact hj_36_74 (o0_93, o1_94) _ _ _ ⟨(show (0 : Int) ≤ o0_93.toInt ∧ o0_93.toInt ≤ 3 from (rg_w b_o0_93 (by decide) (by decide))), (show (-1 : Int) ≤ o1_94.toInt ∧ o1_94.toInt ≤ 1200 from b_o1_94), (show o0_93.toInt = 0 → xf.toInt = 0 ∧ a1.toInt ≤ xv.toInt ∧ xv.toInt ≤ a2.toInt from (by omega)), hP, hD, hS, lv_sub hl [0, 1, 2, 3] rfl⟩
    ·
      have n_c_52 : (xt.toInt : Int) ≠ 2 := c_ne rfl (by decide) c_52
      refine lv_aload_n hx hb dX1_passNumber_13 rfl (lv_at hl 1 rfl) ?_
      refine lv_iconst (v := 1) hx hb dX1_passNumber_14 (by decide) ?_
      have hFc := va_free (wc := [(rd, .inr (0, [.ref tp, .ref sc, .int xf, .int xp, .int xt, .int xa, .int xo, .int xv, .int xj]))]) hD hS hA [0] rfl
      refine va_callv (va_runV (As := [.int 1]) (rest := []) ⟨hx, hb, hml, hown, hts⟩ (kX1_refuse l dC dI rd xf xp xt xa xo xv xj tp sc 1 (s.heap.size) b_xf b_xp b_xt b_xa b_xo (rg_w (by decide : (1 : Int) ≤ (1 : Int32).toInt ∧ (1 : Int32).toInt ≤ 1) (by decide) (by decide))) (cwV 1 hts gX1_passNumber__X1_refuse_V96 rfl rfl rfl hd_yX1_refuse ⟨lel 1 1 rfl, lel 21 22 rfl⟩) ⟨hw_fb, rcv_X1 hK hP (q0 := 0) rfl, (hw_use hP hD hK hN [0] rfl (by decide) rfl [] rfl)⟩ rfl rfl hl.1 rfl (lv_room (Nat.le_of_ble_eq_true rfl)) dX1_passNumber_15 ⟨lel 0 0 rfl, lel 0 0 rfl⟩) hS (fun q _ h => hFc q h) hFc (fun u_98 t H1 locs ht hvm hw_r_97 hB hz1 hk1 hS => ?_)
      obtain ⟨o0_99, o1_100, b_o0_99, b_o1_100, hf_101, hf_102, hP1, hK1, hD1⟩ := hB
      rw [ht] at hP1
      have hK1 := va_K.moved hvm.symm hK1
      obtain ⟨hP, hD⟩ := va_join (wr := [(tp, .inr (6, [.ref tb, .int ts])), (tb, .inl (cB, 1200, .inl fb))]) (w1 := [(rd, .inr (0, [.ref tp, .ref sc, .int o0_99, .int o1_100, .int xt, .int xa, .int xo, .int xv, .int xj]))]) hP hD [0] [1, 2] rfl rfl (by decide) (by decide) hk1 hFc hP1 hD1
      have hK := (hK.sub (tys' := [(cB, .byte)]) [0] rfl).app hK1
      generalize H1 = H at hP hS ⊢
      have hP := hP.sub (ws' := [(rd, .inr (0, [.ref tp, .ref sc, .int o0_99, .int o1_100, .int xt, .int xa, .int xo, .int xv, .int xj])), (tp, .inr (6, [.ref tb, .int ts])), (tb, .inl (cB, 1200, .inl fb))]) [2, 0, 1] rfl
      have hD := hD.sub (ws' := [(rd, .inr (0, [.ref tp, .ref sc, .int o0_99, .int o1_100, .int xt, .int xa, .int xo, .int xv, .int xj])), (tp, .inr (6, [.ref tb, .int ts])), (tb, .inl (cB, 1200, .inl fb))]) [2, 0, 1] (by decide) rfl
      have hP : va_P (dC, dI) vwCl [(rd, .inr (0, [.ref tp, .ref sc, .int o0_99, .int o1_100, .int xt, .int xa, .int xo, .int xv, .int xj])), (tp, .inr (6, [.ref tb, .int ts])), (tb, .inl (cB, 1200, .inl fb))] H := hP
      have hD : va_D A [(rd, .inr (0, [.ref tp, .ref sc, .int o0_99, .int o1_100, .int xt, .int xa, .int xo, .int xv, .int xj])), (tp, .inr (6, [.ref tb, .int ts])), (tb, .inl (cB, 1200, .inl fb))] := hD
      have hK : va_K (dC, dI) vwCl [(cB, .byte)] s := hK
      refine lv_goto (tgt := 36) hx hb dX1_passNumber_18 (by decide) ?_
      exact hj_36_74 (o0_99, o1_100) _ _ _ ⟨(show (0 : Int) ≤ o0_99.toInt ∧ o0_99.toInt ≤ 3 from (rg_w b_o0_99 (by decide) (by decide))), (show (-1 : Int) ≤ o1_100.toInt ∧ o1_100.toInt ≤ 1200 from b_o1_100), (show o0_99.toInt = 0 → xf.toInt = 0 ∧ a1.toInt ≤ xv.toInt ∧ xv.toInt ≤ a2.toInt from (by omega)), hP, hD, hS, lv_sub hl [0, 1, 2, 3] rfl⟩
theorem dX1_passLawWord_0 : decode cX1_passLawWord 0 = .ok (.aload_n 0, 1) := by decide +kernel
theorem dX1_passLawWord_1 : decode cX1_passLawWord 1 = .ok (.ldc 87, 2) := by decide +kernel
theorem dX1_passLawWord_3 : decode cX1_passLawWord 3 = .ok (.invokevirtual 89, 3) := by decide +kernel
theorem dX1_passLawWord_6 : decode cX1_passLawWord 6 = .ok (.ifCond .eq 20, 3) := by decide +kernel
theorem dX1_passLawWord_9 : decode cX1_passLawWord 9 = .ok (.aload_n 0, 1) := by decide +kernel
theorem dX1_passLawWord_10 : decode cX1_passLawWord 10 = .ok (.getfield 19, 3) := by decide +kernel
theorem dX1_passLawWord_13 : decode cX1_passLawWord 13 = .ok (.getfield 93, 3) := by decide +kernel
theorem dX1_passLawWord_16 : decode cX1_passLawWord 16 = .ok (.bipush 9, 2) := by decide +kernel
theorem dX1_passLawWord_18 : decode cX1_passLawWord 18 = .ok (.if_icmp .ne 8, 3) := by decide +kernel
theorem dX1_passLawWord_21 : decode cX1_passLawWord 21 = .ok (.aload_n 0, 1) := by decide +kernel
theorem dX1_passLawWord_22 : decode cX1_passLawWord 22 = .ok (.iconst 3, 1) := by decide +kernel
theorem dX1_passLawWord_23 : decode cX1_passLawWord 23 = .ok (.invokevirtual 96, 3) := by decide +kernel
theorem dX1_passLawWord_26 : decode cX1_passLawWord 26 = .ok (.aload_n 0, 1) := by decide +kernel
theorem dX1_passLawWord_27 : decode cX1_passLawWord 27 = .ok (.ldc 87, 2) := by decide +kernel
theorem dX1_passLawWord_29 : decode cX1_passLawWord 29 = .ok (.invokevirtual 64, 3) := by decide +kernel
theorem dX1_passLawWord_32 : decode cX1_passLawWord 32 = .ok (.aload_n 0, 1) := by decide +kernel
theorem dX1_passLawWord_33 : decode cX1_passLawWord 33 = .ok (.iconst 0, 1) := by decide +kernel
theorem dX1_passLawWord_34 : decode cX1_passLawWord 34 = .ok (.putfield 99, 3) := by decide +kernel
theorem dX1_passLawWord_37 : decode cX1_passLawWord 37 = .ok (.return_, 1) := by decide +kernel
theorem hd_yX1_passLawWord : yX1_passLawWord.cls = RX1 ∧ yX1_passLawWord.cls ≠ "java/lang/invoke/MethodHandle" ∧ yX1_passLawWord.cls ≠ "java/lang/invoke/VarHandle" ∧ (parseMethodDescriptor yX1_passLawWord.desc).map (fun d => d.parameters.length) = some 0 := by decide +kernel
def uX1_passLawWord : List Cond := List.cons (.code yX1_passLawWord cX1_passLawWord 1 none) (HAppend.hAppend ([.methodLink RX1 89 yX1_isWord, .instanceMethod yX1_isWord, .selects RX1 yX1_isWord yX1_isWord, .initialized RX1, .fieldLink RX1 19 "LuckyTicket$Reader" "script" "LLuckyTicket$Script;", .methodLink RX1 96 yX1_refuse, .instanceMethod yX1_refuse, .selects RX1 yX1_refuse yX1_refuse, .methodLink RX1 64 yX1_passWord, .instanceMethod yX1_passWord, .selects RX1 yX1_passWord yX1_passWord, .fieldLink RX1 99 "LuckyTicket$Reader" "joins" "I"] : List Cond) (HAppend.hAppend uX1_isWord (HAppend.hAppend uX1_refuse (HAppend.hAppend uX1_passWord (HAppend.hAppend wsX10 wsX40)))))
theorem iX1_passLawWord_X1 : ∀ w ∈ wsX10, w ∈ uX1_passLawWord := fun _ h => (List.mem_cons_of_mem _ (List.mem_append_right _ (List.mem_append_right _ (List.mem_append_right _ (List.mem_append_right _ (List.mem_append_left _ h))))))
theorem iX1_passLawWord_X4 : ∀ w ∈ wsX40, w ∈ uX1_passLawWord := fun _ h => (List.mem_cons_of_mem _ (List.mem_append_right _ (List.mem_append_right _ (List.mem_append_right _ (List.mem_append_right _ (List.mem_append_right _ h))))))
theorem guX1_passLawWord : GU uX1_passLawWord := gu_cons (gu_app (by decide +kernel) (gu_ap guX1_isWord (gu_ap guX1_refuse (gu_ap guX1_passWord (gu_ap gws_X1 gws_X4)))))
theorem gX1_passLawWord__X1_isWord_V89 : GoodIn uX1_passLawWord (wsV RX1 89 RX1 yX1_isWord uX1_isWord) := gin_V (List.mem_of_getElem? (i := 1) rfl) (List.mem_of_getElem? (i := 2) rfl) (List.mem_of_getElem? (i := 3) rfl) (List.mem_of_getElem? (i := 4) rfl) (fun _ h => (List.mem_cons_of_mem _ (List.mem_append_right _ (List.mem_append_left _ h)))) guX1_isWord
theorem gX1_passLawWord__X1_refuse_V96 : GoodIn uX1_passLawWord (wsV RX1 96 RX1 yX1_refuse uX1_refuse) := gin_V (List.mem_of_getElem? (i := 6) rfl) (List.mem_of_getElem? (i := 7) rfl) (List.mem_of_getElem? (i := 8) rfl) (List.mem_of_getElem? (i := 4) rfl) (fun _ h => (List.mem_cons_of_mem _ (List.mem_append_right _ (List.mem_append_right _ (List.mem_append_left _ h))))) guX1_refuse
theorem gX1_passLawWord__X1_passWord_V64 : GoodIn uX1_passLawWord (wsV RX1 64 RX1 yX1_passWord uX1_passWord) := gin_V (List.mem_of_getElem? (i := 9) rfl) (List.mem_of_getElem? (i := 10) rfl) (List.mem_of_getElem? (i := 11) rfl) (List.mem_of_getElem? (i := 4) rfl) (fun _ h => (List.mem_cons_of_mem _ (List.mem_append_right _ (List.mem_append_right _ (List.mem_append_right _ (List.mem_append_left _ h)))))) guX1_passWord
set_option maxHeartbeats 4000000 in
set_option maxRecDepth 100000 in
theorem kX1_passLawWord (l : Launch) (dC : Nat → ClassId) (dI : Nat → Nat → Nat) (rd : Nat) (xf : Int32) (xp : Int32) (xt : Int32) (xa : Int32) (xo : Int32) (xv : Int32) (xj : Int32) (tp : Nat) (tb : Nat) (ts : Int32) (cB : ClassId) (fb : Nat → Int32) (sc : Nat) (sn : Int32) (sb : Int32) (si : Int32) (sw : Int32) (ss : Int32) (en : Nat) (ki : Nat) (on : Nat) (ot : Nat) (cK : ClassId) (fk : Nat → Int32) (cO : ClassId) (fo : Nat → Int64) (cT : ClassId) (ft : Nat → Int64) (n0 : Nat) (sz : Nat) (b_xf : (0 : Int) ≤ xf.toInt ∧ xf.toInt ≤ 3) (b_xp : (-1 : Int) ≤ xp.toInt ∧ xp.toInt ≤ 1200) (b_xt : (0 : Int) ≤ xt.toInt ∧ xt.toInt ≤ 4) (b_xa : (0 : Int) ≤ xa.toInt ∧ xa.toInt ≤ 1200) (b_xo : (0 : Int) ≤ xo.toInt ∧ xo.toInt ≤ 1200) (b_ts : (0 : Int) ≤ ts.toInt ∧ ts.toInt ≤ 1200) (b_sn : (0 : Int) ≤ sn.toInt ∧ sn.toInt ≤ 12) (b_sb : (0 : Int) ≤ sb.toInt ∧ sb.toInt ≤ 16) (b_si : (0 : Int) ≤ si.toInt ∧ si.toInt ≤ 1300) (b_sw : (0 : Int) ≤ sw.toInt ∧ sw.toInt ≤ 9) (b_ss : (0 : Int) ≤ ss.toInt ∧ ss.toInt ≤ 600) (hrd : xa.toInt ≤ xo.toInt) : Met l yX1_passLawWord uX1_passLawWord ({ frames := 6, cells := 0, slots := 0, locals := 128 }) (va_Pc [.ref rd] (hx_ (dC, dI) vwCl [(rd, .inr (0, [.ref tp, .ref sc, .int xf, .int xp, .int xt, .int xa, .int xo, .int xv, .int xj])), (tp, .inr (6, [.ref tb, .int ts])), (tb, .inl (cB, 1200, .inl fb)), (sc, .inr (3, [.int sn, .int sb, .int si, .int sw, .int ss, .ref en, .ref ki, .ref on, .ref ot])), (ki, .inl (cK, 600, .inl fk)), (on, .inl (cO, 600, .inr (.inl fo))), (ot, .inl (cT, 600, .inr (.inl ft)))] [(cB, .byte), (cK, .int), (cO, .long), (cT, .long)] sz n0 [])) (va_Qv (fun (_ : Unit) => True) (fun (_ : Unit) t => ∃ (o0_ : Int32) (o1_ : Int32) (o2_ : Int32) (o3_ : Int32) (o4_ : Int32) (o5_ : Int32), ((0 : Int) ≤ o0_.toInt ∧ o0_.toInt ≤ 3) ∧ ((-1 : Int) ≤ o1_.toInt ∧ o1_.toInt ≤ 1200) ∧ ((0 : Int) ≤ o2_.toInt ∧ o2_.toInt ≤ 4) ∧ ((0 : Int) ≤ o3_.toInt ∧ o3_.toInt ≤ 1200) ∧ ((0 : Int) ≤ o4_.toInt ∧ o4_.toInt ≤ 1200) ∧ (o3_.toInt ≤ o4_.toInt) ∧ va_P (dC, dI) vwCl [(rd, .inr (0, [.ref tp, .ref sc, .int o0_, .int o1_, .int o2_, .int o3_, .int o4_, .int o5_, .int 0])), (tp, .inr (6, [.ref tb, .int ts])), (tb, .inl (cB, 1200, .inl fb)), (sc, .inr (3, [.int sn, .int sb, .int si, .int sw, .int ss, .ref en, .ref ki, .ref on, .ref ot])), (ki, .inl (cK, 600, .inl fk)), (on, .inl (cO, 600, .inr (.inl fo))), (ot, .inl (cT, 600, .inr (.inl ft)))] t.heap ∧ va_K (dC, dI) vwCl [(cB, .byte), (cK, .int), (cO, .long), (cT, .long)] t ∧ va_D (va_A [(rd, .inr (0, [.ref tp, .ref sc, .int xf, .int xp, .int xt, .int xa, .int xo, .int xv, .int xj])), (tp, .inr (6, [.ref tb, .int ts])), (tb, .inl (cB, 1200, .inl fb)), (sc, .inr (3, [.int sn, .int sb, .int si, .int sw, .int ss, .ref en, .ref ki, .ref on, .ref ot])), (ki, .inl (cK, 600, .inl fk)), (on, .inl (cO, 600, .inr (.inl fo))), (ot, .inl (cT, 600, .inr (.inl ft)))] sz) [(rd, .inr (0, [.ref tp, .ref sc, .int o0_, .int o1_, .int o2_, .int o3_, .int o4_, .int o5_, .int 0])), (tp, .inr (6, [.ref tb, .int ts])), (tb, .inl (cB, 1200, .inl fb)), (sc, .inr (3, [.int sn, .int sb, .int si, .int sw, .int ss, .ref en, .ref ki, .ref on, .ref ot])), (ki, .inl (cK, 600, .inl fk)), (on, .inl (cO, 600, .inr (.inl fo))), (ot, .inl (cT, 600, .inr (.inl ft)))]) (va_A [(rd, .inr (0, [.ref tp, .ref sc, .int xf, .int xp, .int xt, .int xa, .int xo, .int xv, .int xj])), (tp, .inr (6, [.ref tb, .int ts])), (tb, .inl (cB, 1200, .inl fb)), (sc, .inr (3, [.int sn, .int sb, .int si, .int sw, .int ss, .ref en, .ref ki, .ref on, .ref ot])), (ki, .inl (cK, 600, .inl fk)), (on, .inl (cO, 600, .inr (.inl fo))), (ot, .inl (cT, 600, .inr (.inl ft)))] sz)) 0 0 (va_A [(rd, .inr (0, [.ref tp, .ref sc, .int xf, .int xp, .int xt, .int xa, .int xo, .int xv, .int xj])), (tp, .inr (6, [.ref tb, .int ts])), (tb, .inl (cB, 1200, .inl fb)), (sc, .inr (3, [.int sn, .int sb, .int si, .int sw, .int ss, .ref en, .ref ki, .ref on, .ref ot])), (ki, .inl (cK, 600, .inl fk)), (on, .inl (cO, 600, .inr (.inl fo))), (ot, .inl (cT, 600, .inr (.inl ft)))] sz) := by
  refine Met.ofW (cc := cX1_passLawWord) (maxL := 1) (ret := none) pn_X1 rfl ?_
  intro p e s m args below meth c s₁ B hml hv
  obtain ⟨rfl, ⟨hsz, hP, hK, hD0, hN⟩, hn0, hDn, hX, hTx⟩ := hv
  have hx := B.exec
  have hb := B.bytes
  have hr := B.returns
  have hts := atoms_spec (ws := uX1_passLawWord) B.pre
  have hown : s.vm.findClass RX1 = some m.cls := hown_of B.named rfl
  have hlocks := B.notSynchronized
  subst hsz
  have hD := hD0.self (sz := s.heap.size)
  have hAn : ∀ q, va_A [(rd, .inr (0, [.ref tp, .ref sc, .int xf, .int xp, .int xt, .int xa, .int xo, .int xv, .int xj])), (tp, .inr (6, [.ref tb, .int ts])), (tb, .inl (cB, 1200, .inl fb)), (sc, .inr (3, [.int sn, .int sb, .int si, .int sw, .int ss, .ref en, .ref ki, .ref on, .ref ot])), (ki, .inl (cK, 600, .inl fk)), (on, .inl (cO, 600, .inr (.inl fo))), (ot, .inl (cT, 600, .inr (.inl ft)))] s.heap.size q → n0 ≤ q := fun q h => h.elim (fun ⟨k, e, hk⟩ => hDn.2 k (q, e) hk) (fun h => Nat.le_trans hn0 h)
  generalize hAe : va_A [(rd, .inr (0, [.ref tp, .ref sc, .int xf, .int xp, .int xt, .int xa, .int xo, .int xv, .int xj])), (tp, .inr (6, [.ref tb, .int ts])), (tb, .inl (cB, 1200, .inl fb)), (sc, .inr (3, [.int sn, .int sb, .int si, .int sw, .int ss, .ref en, .ref ki, .ref on, .ref ot])), (ki, .inl (cK, 600, .inl fk)), (on, .inl (cO, 600, .inr (.inl fo))), (ot, .inl (cT, 600, .inr (.inl ft)))] s.heap.size = A at hD hAn ⊢
  have hA : ∀ q : Nat, s.heap.size ≤ q → A q := fun q h => by rw [← hAe]; exact Or.inr h
  have hS : va_S A s.heap s.heap [] := va_S.rf
  have hP : va_P (dC, dI) vwCl [(rd, .inr (0, [.ref tp, .ref sc, .int xf, .int xp, .int xt, .int xa, .int xo, .int xv, .int xj])), (tp, .inr (6, [.ref tb, .int ts])), (tb, .inl (cB, 1200, .inl fb)), (sc, .inr (3, [.int sn, .int sb, .int si, .int sw, .int ss, .ref en, .ref ki, .ref on, .ref ot])), (ki, .inl (cK, 600, .inl fk)), (on, .inl (cO, 600, .inr (.inl fo))), (ot, .inl (cT, 600, .inr (.inl ft)))] s.heap := hP
  obtain ⟨tq_87, tf_87, hR_87, ht_87⟩ := hX.2.2.1 (RX1, 87, "law", 3) (List.mem_of_getElem? (i := 3) rfl)
  have hR_87 : vk_R RX1 87 "law" tq_87 s := hR_87
  have ht_87 : txt n0 tq_87 3 tf_87 s := ht_87
  have hl := lv_entry ([.ref rd]) (n := 1) (Nat.le_of_ble_eq_true rfl)
  rw [lg_entry_eq]
  generalize (lg_sl ([.ref rd]) ++ List.replicate (1 - (lg_sl ([.ref rd])).length) Slot.unset).toArray = ls at hl ⊢
  have hl : lv_has ls 1 [(0, .ref rd)] := hl
  refine lv_aload_n hx hb dX1_passLawWord_0 rfl (lv_at hl 0 rfl) ?_
  refine va_ldcS hx hb hown hR_87 dX1_passLawWord_1 ?_
  refine vp_callSi (W.runV (As := [.ref tq_87]) (rest := []) ⟨hx, hb, hml, hown, hts⟩ (kX1_isWord l dC dI rd xf xp xt xa xo xv xj tp tb ts cB fb sc tq_87 3 tf_87 n0 b_xf b_xp b_xt b_xa b_xo b_ts (by omega) (by omega)) (cwV 1 hts gX1_passLawWord__X1_isWord_V89 rfl rfl rfl hd_yX1_isWord ⟨lel 5 6 rfl, lel 107 128 rfl⟩) ⟨px_fb, rcv_X1 hK hP (q0 := 0) rfl, (px_use hP hK hN hX (vs_up hS hAn) [0, 1, 2] rfl [0] rfl (tts_1 ht_87) tbs_0)⟩ rfl rfl hl.1 rfl (lv_room (Nat.le_of_ble_eq_true rfl)) dX1_passLawWord_3 ⟨lel 0 0 rfl, lel 0 0 rfl⟩) (fun r_33 h_r_33 => ?_)
  obtain ⟨b_r_33, nz_r_33, zz_r_33⟩ := h_r_33
  have b_r_33 : (0 : Int) ≤ r_33.toInt ∧ r_33.toInt ≤ 1 := b_r_33
  refine cutW (σ := Int32 × Int32) (pc2 := 26) (st2 := fun v => []) (cells2 := 0) (slots2 := 0) (fun v H locs ls => ((0 : Int) ≤ v.1.toInt ∧ v.1.toInt ≤ 3) ∧ ((-1 : Int) ≤ v.2.toInt ∧ v.2.toInt ≤ 1200) ∧ va_P (dC, dI) vwCl [(rd, .inr (0, [.ref tp, .ref sc, .int v.1, .int v.2, .int xt, .int xa, .int xo, .int xv, .int xj])), (tp, .inr (6, [.ref tb, .int ts])), (tb, .inl (cB, 1200, .inl fb)), (sc, .inr (3, [.int sn, .int sb, .int si, .int sw, .int ss, .ref en, .ref ki, .ref on, .ref ot])), (ki, .inl (cK, 600, .inl fk)), (on, .inl (cO, 600, .inr (.inl fo))), (ot, .inl (cT, 600, .inr (.inl ft)))] H ∧ va_D A [(rd, .inr (0, [.ref tp, .ref sc, .int v.1, .int v.2, .int xt, .int xa, .int xo, .int xv, .int xj])), (tp, .inr (6, [.ref tb, .int ts])), (tb, .inl (cB, 1200, .inl fb)), (sc, .inr (3, [.int sn, .int sb, .int si, .int sw, .int ss, .ref en, .ref ki, .ref on, .ref ot])), (ki, .inl (cK, 600, .inl fk)), (on, .inl (cO, 600, .inr (.inl fo))), (ot, .inl (cT, 600, .inr (.inl ft)))] ∧ va_S A s.heap H locs ∧ lv_has ls 1 [(0, .ref rd)]) (fun v H locs ls hI => ?_) (fun hj_26_45 => ?_)
  ·
    obtain ⟨y_44, y_45⟩ := v
    obtain ⟨b_y_44, b_y_45, hP, hD, hS, hl⟩ := hI
    have b_y_44 : (0 : Int) ≤ y_44.toInt ∧ y_44.toInt ≤ 3 := b_y_44
    have b_y_45 : (-1 : Int) ≤ y_45.toInt ∧ y_45.toInt ≤ 1200 := b_y_45
    have hP : va_P (dC, dI) vwCl [(rd, .inr (0, [.ref tp, .ref sc, .int y_44, .int y_45, .int xt, .int xa, .int xo, .int xv, .int xj])), (tp, .inr (6, [.ref tb, .int ts])), (tb, .inl (cB, 1200, .inl fb)), (sc, .inr (3, [.int sn, .int sb, .int si, .int sw, .int ss, .ref en, .ref ki, .ref on, .ref ot])), (ki, .inl (cK, 600, .inl fk)), (on, .inl (cO, 600, .inr (.inl fo))), (ot, .inl (cT, 600, .inr (.inl ft)))] H := hP
    have hD : va_D A [(rd, .inr (0, [.ref tp, .ref sc, .int y_44, .int y_45, .int xt, .int xa, .int xo, .int xv, .int xj])), (tp, .inr (6, [.ref tb, .int ts])), (tb, .inl (cB, 1200, .inl fb)), (sc, .inr (3, [.int sn, .int sb, .int si, .int sw, .int ss, .ref en, .ref ki, .ref on, .ref ot])), (ki, .inl (cK, 600, .inl fk)), (on, .inl (cO, 600, .inr (.inl fo))), (ot, .inl (cT, 600, .inr (.inl ft)))] := hD
    have hl : lv_has ls 1 [(0, .ref rd)] := hl
    refine lv_aload_n hx hb dX1_passLawWord_26 rfl (lv_at hl 0 rfl) ?_
    refine va_ldcS hx hb hown hR_87 dX1_passLawWord_27 ?_
    have hFc := va_free (wc := [(rd, .inr (0, [.ref tp, .ref sc, .int y_44, .int y_45, .int xt, .int xa, .int xo, .int xv, .int xj])), (tp, .inr (6, [.ref tb, .int ts])), (tb, .inl (cB, 1200, .inl fb))]) hD hS hA [0, 1, 2] rfl
    refine va_callv (va_runV (As := [.ref tq_87]) (rest := []) ⟨hx, hb, hml, hown, hts⟩ (kX1_passWord l dC dI rd y_44 y_45 xt xa xo xv xj tp tb ts cB fb sc tq_87 3 tf_87 n0 (H.size) b_y_44 b_y_45 b_xt b_xa b_xo b_ts (by omega) (by omega)) (cwV 1 hts gX1_passLawWord__X1_passWord_V64 rfl rfl rfl hd_yX1_passWord ⟨lel 6 6 rfl, lel 128 128 rfl⟩) ⟨hx_fb, rcv_X1 hK hP (q0 := 0) rfl, (hx_use hP hD hK hN hX hS hAn hn0 [0, 1, 2] rfl (by decide) rfl [0] rfl (tts_1 ht_87))⟩ rfl rfl hl.1 rfl (lv_room (Nat.le_of_ble_eq_true rfl)) dX1_passLawWord_29 ⟨lel 0 0 rfl, lel 0 0 rfl⟩) hS (fun q _ h => hFc q h) hFc (fun u_47 t H1 locs ht hvm hw_r_46 hB hz1 hk1 hS => ?_)
    obtain ⟨o0_48, o1_49, o2_50, o3_51, o4_52, o5_53, b_o0_48, b_o1_49, b_o2_50, b_o3_51, b_o4_52, hf_54, hf_55, hP1, hK1, hD1⟩ := hB
    rw [ht] at hP1
    have hK1 := va_K.moved hvm.symm hK1
    obtain ⟨hP, hD⟩ := va_join (wr := [(sc, .inr (3, [.int sn, .int sb, .int si, .int sw, .int ss, .ref en, .ref ki, .ref on, .ref ot])), (ki, .inl (cK, 600, .inl fk)), (on, .inl (cO, 600, .inr (.inl fo))), (ot, .inl (cT, 600, .inr (.inl ft)))]) (w1 := [(rd, .inr (0, [.ref tp, .ref sc, .int o0_48, .int o1_49, .int o2_50, .int o3_51, .int o4_52, .int o5_53, .int xj])), (tp, .inr (6, [.ref tb, .int ts])), (tb, .inl (cB, 1200, .inl fb))]) hP hD [0, 1, 2] [3, 4, 5, 6] rfl rfl (by decide) (by decide) hk1 hFc hP1 hD1
    have hK := (hK.sub (tys' := [(cK, .int), (cO, .long), (cT, .long)]) [1, 2, 3] rfl).app hK1
    generalize H1 = H at hP hS ⊢
    have hP := hP.sub (ws' := [(rd, .inr (0, [.ref tp, .ref sc, .int o0_48, .int o1_49, .int o2_50, .int o3_51, .int o4_52, .int o5_53, .int xj])), (tp, .inr (6, [.ref tb, .int ts])), (tb, .inl (cB, 1200, .inl fb)), (sc, .inr (3, [.int sn, .int sb, .int si, .int sw, .int ss, .ref en, .ref ki, .ref on, .ref ot])), (ki, .inl (cK, 600, .inl fk)), (on, .inl (cO, 600, .inr (.inl fo))), (ot, .inl (cT, 600, .inr (.inl ft)))]) [4, 5, 6, 0, 1, 2, 3] rfl
    have hD := hD.sub (ws' := [(rd, .inr (0, [.ref tp, .ref sc, .int o0_48, .int o1_49, .int o2_50, .int o3_51, .int o4_52, .int o5_53, .int xj])), (tp, .inr (6, [.ref tb, .int ts])), (tb, .inl (cB, 1200, .inl fb)), (sc, .inr (3, [.int sn, .int sb, .int si, .int sw, .int ss, .ref en, .ref ki, .ref on, .ref ot])), (ki, .inl (cK, 600, .inl fk)), (on, .inl (cO, 600, .inr (.inl fo))), (ot, .inl (cT, 600, .inr (.inl ft)))]) [4, 5, 6, 0, 1, 2, 3] (by decide) rfl
    have hK := hK.sub (tys' := [(cB, .byte), (cK, .int), (cO, .long), (cT, .long)]) [3, 0, 1, 2] rfl
    have hP : va_P (dC, dI) vwCl [(rd, .inr (0, [.ref tp, .ref sc, .int o0_48, .int o1_49, .int o2_50, .int o3_51, .int o4_52, .int o5_53, .int xj])), (tp, .inr (6, [.ref tb, .int ts])), (tb, .inl (cB, 1200, .inl fb)), (sc, .inr (3, [.int sn, .int sb, .int si, .int sw, .int ss, .ref en, .ref ki, .ref on, .ref ot])), (ki, .inl (cK, 600, .inl fk)), (on, .inl (cO, 600, .inr (.inl fo))), (ot, .inl (cT, 600, .inr (.inl ft)))] H := hP
    have hD : va_D A [(rd, .inr (0, [.ref tp, .ref sc, .int o0_48, .int o1_49, .int o2_50, .int o3_51, .int o4_52, .int o5_53, .int xj])), (tp, .inr (6, [.ref tb, .int ts])), (tb, .inl (cB, 1200, .inl fb)), (sc, .inr (3, [.int sn, .int sb, .int si, .int sw, .int ss, .ref en, .ref ki, .ref on, .ref ot])), (ki, .inl (cK, 600, .inl fk)), (on, .inl (cO, 600, .inr (.inl fo))), (ot, .inl (cT, 600, .inr (.inl ft)))] := hD
    have hK : va_K (dC, dI) vwCl [(cB, .byte), (cK, .int), (cO, .long), (cT, .long)] s := hK
    refine lv_aload_n hx hb dX1_passLawWord_32 rfl (lv_at hl 0 rfl) ?_
    refine lv_iconst (v := 0) hx hb dX1_passLawWord_33 (by decide) ?_
    refine va_put (D := (dC, dI)) (ci := 0) (v := .int 0) (ty := .int) (C := RX1) (T := TX1) (N := 9) hx hb hts iX1_passLawWord_X1 tyX1 tyX1_ok nmX1 hown hK hP hD hS 0 rfl rfl 8 (by decide) (hts (.fieldLink RX1 99 "LuckyTicket$Reader" "joins" "I") (List.mem_of_getElem? (i := 12) rfl)) (fun _ h9 => h9) rfl (by decide +kernel) rfl rfl (Nat.le_of_ble_eq_true rfl) dX1_passLawWord_34 (fun H locs hP hD hS => ?_)
    have hP : va_P (dC, dI) vwCl [(rd, .inr (0, [.ref tp, .ref sc, .int o0_48, .int o1_49, .int o2_50, .int o3_51, .int o4_52, .int o5_53, .int 0])), (tp, .inr (6, [.ref tb, .int ts])), (tb, .inl (cB, 1200, .inl fb)), (sc, .inr (3, [.int sn, .int sb, .int si, .int sw, .int ss, .ref en, .ref ki, .ref on, .ref ot])), (ki, .inl (cK, 600, .inl fk)), (on, .inl (cO, 600, .inr (.inl fo))), (ot, .inl (cT, 600, .inr (.inl ft)))] H := hP
    have hD : va_D A [(rd, .inr (0, [.ref tp, .ref sc, .int o0_48, .int o1_49, .int o2_50, .int o3_51, .int o4_52, .int o5_53, .int 0])), (tp, .inr (6, [.ref tb, .int ts])), (tb, .inl (cB, 1200, .inl fb)), (sc, .inr (3, [.int sn, .int sb, .int si, .int sw, .int ss, .ref en, .ref ki, .ref on, .ref ot])), (ki, .inl (cK, 600, .inl fk)), (on, .inl (cO, 600, .inr (.inl fo))), (ot, .inl (cT, 600, .inr (.inl ft)))] := hD
    have hP9 := hP.sub (ws' := [(rd, .inr (0, [.ref tp, .ref sc, .int o0_48, .int o1_49, .int o2_50, .int o3_51, .int o4_52, .int o5_53, .int 0])), (tp, .inr (6, [.ref tb, .int ts])), (tb, .inl (cB, 1200, .inl fb)), (sc, .inr (3, [.int sn, .int sb, .int si, .int sw, .int ss, .ref en, .ref ki, .ref on, .ref ot])), (ki, .inl (cK, 600, .inl fk)), (on, .inl (cO, 600, .inr (.inl fo))), (ot, .inl (cT, 600, .inr (.inl ft)))]) [0, 1, 2, 3, 4, 5, 6] rfl
    have hD9 := hD.sub (ws' := [(rd, .inr (0, [.ref tp, .ref sc, .int o0_48, .int o1_49, .int o2_50, .int o3_51, .int o4_52, .int o5_53, .int 0])), (tp, .inr (6, [.ref tb, .int ts])), (tb, .inl (cB, 1200, .inl fb)), (sc, .inr (3, [.int sn, .int sb, .int si, .int sw, .int ss, .ref en, .ref ki, .ref on, .ref ot])), (ki, .inl (cK, 600, .inl fk)), (on, .inl (cO, 600, .inr (.inl fo))), (ot, .inl (cT, 600, .inr (.inl ft)))]) [0, 1, 2, 3, 4, 5, 6] (by decide) rfl
    have hK9 := hK.sub (tys' := [(cB, .byte), (cK, .int), (cO, .long), (cT, .long)]) [0, 1, 2, 3] rfl
    exact W.vret hx hb hr (fun t ht hW => ⟨⟨(), rfl, trivial, o0_48, o1_49, o2_50, o3_51, o4_52, o5_53, b_o0_48, b_o1_49, b_o2_50, b_o3_51, b_o4_52, (by omega), by rw [ht]; exact hP9, va_K.moved hW.alike hK9, hD9⟩, hS.F ht⟩) hS.2.2 dX1_passLawWord_37
  ·
    refine lv_if_eq (tgt := 26) hx hb dX1_passLawWord_6 (by decide) (fun c_34 => ?_) (fun c_34 => ?_)
    ·
      have n_c_34 : (r_33.toInt : Int) = 0 := c_eq rfl (by decide) c_34
      have b_r_33 : (0 : Int) ≤ r_33.toInt ∧ r_33.toInt ≤ 0 := r_eq1 b_r_33 (by decide : (0 : Int) ≤ (0 : Int32).toInt ∧ (0 : Int32).toInt ≤ 0) n_c_34 (by decide)
      have g_56 := zz_r_33 c_34
      exact hj_26_45 (xf, xp) _ _ _ ⟨(show (0 : Int) ≤ xf.toInt ∧ xf.toInt ≤ 3 from b_xf), (show (-1 : Int) ≤ xp.toInt ∧ xp.toInt ≤ 1200 from b_xp), hP, hD, hS, lv_sub hl [0] rfl⟩
    ·
      have n_c_34 : (r_33.toInt : Int) ≠ 0 := c_ne rfl (by decide) c_34
      have b_r_33 : (1 : Int) ≤ r_33.toInt ∧ r_33.toInt ≤ 1 := r_ne1 b_r_33 (by decide : (0 : Int) ≤ (0 : Int32).toInt ∧ (0 : Int32).toInt ≤ 0) n_c_34 (by decide)
      have g_57 := nz_r_33 c_34
      refine lv_aload_n hx hb dX1_passLawWord_9 rfl (lv_at hl 0 rfl) ?_
      refine va_get (D := (dC, dI)) (ci := 0) (v := .ref sc) (C := RX1) (T := TX1) (N := 9) hx hb hts iX1_passLawWord_X1 hown hK hP 0 rfl rfl 1 (by decide) (hts (.fieldLink RX1 19 "LuckyTicket$Reader" "script" "LLuckyTicket$Script;") (List.mem_of_getElem? (i := 5) rfl)) (fun _ h9 => h9) rfl dX1_passLawWord_10 ?_
      refine va_getN (own := RX1) (index := 93) (ref := RX4) (host := RX9) (D := (dC, dI)) (ci := 3) (v := .int sw) (C := RX4) (T := TX4) (N := 9) hx hb hts iX1_passLawWord_X4 hown hK hP 3 rfl rfl 3 (by decide) (va_Nw.use rfl (hN _ (List.mem_of_getElem? (i := 10) rfl))) (fun _ h9 => h9) rfl dX1_passLawWord_13 ?_
      refine lv_bipush (v := 9) hx hb dX1_passLawWord_16 (by decide) ?_
      refine lv_icmp_ne (tgt := 26) hx hb dX1_passLawWord_18 (by decide) (fun c_58 => ?_) (fun c_58 => ?_)
      ·
        have n_c_58 : (sw.toInt : Int) ≠ 9 := c_ne rfl (by decide) c_58
        have b_sw : (0 : Int) ≤ sw.toInt ∧ sw.toInt ≤ 8 := r_ne2 b_sw (by decide : (9 : Int) ≤ (9 : Int32).toInt ∧ (9 : Int32).toInt ≤ 9) n_c_58 (by decide)
        exact hj_26_45 (xf, xp) _ _ _ ⟨(show (0 : Int) ≤ xf.toInt ∧ xf.toInt ≤ 3 from b_xf), (show (-1 : Int) ≤ xp.toInt ∧ xp.toInt ≤ 1200 from b_xp), hP, hD, hS, lv_sub hl [0] rfl⟩
      ·
        have n_c_58 : (sw.toInt : Int) = 9 := c_eq rfl (by decide) c_58
        have b_sw : (9 : Int) ≤ sw.toInt ∧ sw.toInt ≤ 9 := r_eq1 b_sw (by decide : (9 : Int) ≤ (9 : Int32).toInt ∧ (9 : Int32).toInt ≤ 9) n_c_58 (by decide)
        refine lv_aload_n hx hb dX1_passLawWord_21 rfl (lv_at hl 0 rfl) ?_
        refine lv_iconst (v := 3) hx hb dX1_passLawWord_22 (by decide) ?_
        have hFc := va_free (wc := [(rd, .inr (0, [.ref tp, .ref sc, .int xf, .int xp, .int xt, .int xa, .int xo, .int xv, .int xj]))]) hD hS hA [0] rfl
        refine va_callv (va_runV (As := [.int 3]) (rest := []) ⟨hx, hb, hml, hown, hts⟩ (kX1_refuse l dC dI rd xf xp xt xa xo xv xj tp sc 3 (s.heap.size) b_xf b_xp b_xt b_xa b_xo (rg_w (by decide : (3 : Int) ≤ (3 : Int32).toInt ∧ (3 : Int32).toInt ≤ 3) (by decide) (by decide))) (cwV 1 hts gX1_passLawWord__X1_refuse_V96 rfl rfl rfl hd_yX1_refuse ⟨lel 1 6 rfl, lel 21 128 rfl⟩) ⟨hw_fb, rcv_X1 hK hP (q0 := 0) rfl, (hw_use hP hD hK hN [0] rfl (by decide) rfl [] rfl)⟩ rfl rfl hl.1 rfl (lv_room (Nat.le_of_ble_eq_true rfl)) dX1_passLawWord_23 ⟨lel 0 0 rfl, lel 0 0 rfl⟩) hS (fun q _ h => hFc q h) hFc (fun u_60 t H1 locs ht hvm hw_r_59 hB hz1 hk1 hS => ?_)
        obtain ⟨o0_61, o1_62, b_o0_61, b_o1_62, hf_63, hf_64, hP1, hK1, hD1⟩ := hB
        rw [ht] at hP1
        have hK1 := va_K.moved hvm.symm hK1
        obtain ⟨hP, hD⟩ := va_join (wr := [(tp, .inr (6, [.ref tb, .int ts])), (tb, .inl (cB, 1200, .inl fb)), (sc, .inr (3, [.int sn, .int sb, .int si, .int sw, .int ss, .ref en, .ref ki, .ref on, .ref ot])), (ki, .inl (cK, 600, .inl fk)), (on, .inl (cO, 600, .inr (.inl fo))), (ot, .inl (cT, 600, .inr (.inl ft)))]) (w1 := [(rd, .inr (0, [.ref tp, .ref sc, .int o0_61, .int o1_62, .int xt, .int xa, .int xo, .int xv, .int xj]))]) hP hD [0] [1, 2, 3, 4, 5, 6] rfl rfl (by decide) (by decide) hk1 hFc hP1 hD1
        have hK := (hK.sub (tys' := [(cB, .byte), (cK, .int), (cO, .long), (cT, .long)]) [0, 1, 2, 3] rfl).app hK1
        generalize H1 = H at hP hS ⊢
        have hP := hP.sub (ws' := [(rd, .inr (0, [.ref tp, .ref sc, .int o0_61, .int o1_62, .int xt, .int xa, .int xo, .int xv, .int xj])), (tp, .inr (6, [.ref tb, .int ts])), (tb, .inl (cB, 1200, .inl fb)), (sc, .inr (3, [.int sn, .int sb, .int si, .int sw, .int ss, .ref en, .ref ki, .ref on, .ref ot])), (ki, .inl (cK, 600, .inl fk)), (on, .inl (cO, 600, .inr (.inl fo))), (ot, .inl (cT, 600, .inr (.inl ft)))]) [6, 0, 1, 2, 3, 4, 5] rfl
        have hD := hD.sub (ws' := [(rd, .inr (0, [.ref tp, .ref sc, .int o0_61, .int o1_62, .int xt, .int xa, .int xo, .int xv, .int xj])), (tp, .inr (6, [.ref tb, .int ts])), (tb, .inl (cB, 1200, .inl fb)), (sc, .inr (3, [.int sn, .int sb, .int si, .int sw, .int ss, .ref en, .ref ki, .ref on, .ref ot])), (ki, .inl (cK, 600, .inl fk)), (on, .inl (cO, 600, .inr (.inl fo))), (ot, .inl (cT, 600, .inr (.inl ft)))]) [6, 0, 1, 2, 3, 4, 5] (by decide) rfl
        have hP : va_P (dC, dI) vwCl [(rd, .inr (0, [.ref tp, .ref sc, .int o0_61, .int o1_62, .int xt, .int xa, .int xo, .int xv, .int xj])), (tp, .inr (6, [.ref tb, .int ts])), (tb, .inl (cB, 1200, .inl fb)), (sc, .inr (3, [.int sn, .int sb, .int si, .int sw, .int ss, .ref en, .ref ki, .ref on, .ref ot])), (ki, .inl (cK, 600, .inl fk)), (on, .inl (cO, 600, .inr (.inl fo))), (ot, .inl (cT, 600, .inr (.inl ft)))] H := hP
        have hD : va_D A [(rd, .inr (0, [.ref tp, .ref sc, .int o0_61, .int o1_62, .int xt, .int xa, .int xo, .int xv, .int xj])), (tp, .inr (6, [.ref tb, .int ts])), (tb, .inl (cB, 1200, .inl fb)), (sc, .inr (3, [.int sn, .int sb, .int si, .int sw, .int ss, .ref en, .ref ki, .ref on, .ref ot])), (ki, .inl (cK, 600, .inl fk)), (on, .inl (cO, 600, .inr (.inl fo))), (ot, .inl (cT, 600, .inr (.inl ft)))] := hD
        have hK : va_K (dC, dI) vwCl [(cB, .byte), (cK, .int), (cO, .long), (cT, .long)] s := hK
        exact hj_26_45 (o0_61, o1_62) _ _ _ ⟨(show (0 : Int) ≤ o0_61.toInt ∧ o0_61.toInt ≤ 3 from (rg_w b_o0_61 (by decide) (by decide))), (show (-1 : Int) ≤ o1_62.toInt ∧ o1_62.toInt ≤ 1200 from b_o1_62), hP, hD, hS, lv_sub hl [0] rfl⟩
theorem dX1_passJoin_0 : decode cX1_passJoin 0 = .ok (.aload_n 0, 1) := by decide +kernel
theorem dX1_passJoin_1 : decode cX1_passJoin 1 = .ok (.dup, 1) := by decide +kernel
theorem dX1_passJoin_2 : decode cX1_passJoin 2 = .ok (.getfield 99, 3) := by decide +kernel
theorem dX1_passJoin_5 : decode cX1_passJoin 5 = .ok (.iconst 1, 1) := by decide +kernel
theorem dX1_passJoin_6 : decode cX1_passJoin 6 = .ok (.iadd, 1) := by decide +kernel
theorem dX1_passJoin_7 : decode cX1_passJoin 7 = .ok (.putfield 99, 3) := by decide +kernel
theorem dX1_passJoin_10 : decode cX1_passJoin 10 = .ok (.aload_n 0, 1) := by decide +kernel
theorem dX1_passJoin_11 : decode cX1_passJoin 11 = .ok (.getfield 99, 3) := by decide +kernel
theorem dX1_passJoin_14 : decode cX1_passJoin 14 = .ok (.bipush 24, 2) := by decide +kernel
theorem dX1_passJoin_16 : decode cX1_passJoin 16 = .ok (.if_icmp .le 11, 3) := by decide +kernel
theorem dX1_passJoin_19 : decode cX1_passJoin 19 = .ok (.aload_n 0, 1) := by decide +kernel
theorem dX1_passJoin_20 : decode cX1_passJoin 20 = .ok (.iconst 3, 1) := by decide +kernel
theorem dX1_passJoin_21 : decode cX1_passJoin 21 = .ok (.invokevirtual 96, 3) := by decide +kernel
theorem dX1_passJoin_24 : decode cX1_passJoin 24 = .ok (.goto 7, 3) := by decide +kernel
theorem dX1_passJoin_27 : decode cX1_passJoin 27 = .ok (.aload_n 0, 1) := by decide +kernel
theorem dX1_passJoin_28 : decode cX1_passJoin 28 = .ok (.invokevirtual 34, 3) := by decide +kernel
theorem dX1_passJoin_31 : decode cX1_passJoin 31 = .ok (.return_, 1) := by decide +kernel
theorem hd_yX1_passJoin : yX1_passJoin.cls = RX1 ∧ yX1_passJoin.cls ≠ "java/lang/invoke/MethodHandle" ∧ yX1_passJoin.cls ≠ "java/lang/invoke/VarHandle" ∧ (parseMethodDescriptor yX1_passJoin.desc).map (fun d => d.parameters.length) = some 0 := by decide +kernel
def uX1_passJoin : List Cond := List.cons (.code yX1_passJoin cX1_passJoin 1 none) (HAppend.hAppend ([.fieldLink RX1 99 "LuckyTicket$Reader" "joins" "I", .methodLink RX1 34 yX1_advance, .instanceMethod yX1_advance, .selects RX1 yX1_advance yX1_advance, .initialized RX1, .methodLink RX1 96 yX1_refuse, .instanceMethod yX1_refuse, .selects RX1 yX1_refuse yX1_refuse] : List Cond) (HAppend.hAppend uX1_advance (HAppend.hAppend uX1_refuse wsX10)))
theorem iX1_passJoin_X1 : ∀ w ∈ wsX10, w ∈ uX1_passJoin := fun _ h => (List.mem_cons_of_mem _ (List.mem_append_right _ (List.mem_append_right _ (List.mem_append_right _ h))))
theorem guX1_passJoin : GU uX1_passJoin := gu_cons (gu_app (by decide +kernel) (gu_ap guX1_advance (gu_ap guX1_refuse gws_X1)))
theorem gX1_passJoin__X1_advance_V34 : GoodIn uX1_passJoin (wsV RX1 34 RX1 yX1_advance uX1_advance) := gin_V (List.mem_of_getElem? (i := 2) rfl) (List.mem_of_getElem? (i := 3) rfl) (List.mem_of_getElem? (i := 4) rfl) (List.mem_of_getElem? (i := 5) rfl) (fun _ h => (List.mem_cons_of_mem _ (List.mem_append_right _ (List.mem_append_left _ h)))) guX1_advance
theorem gX1_passJoin__X1_refuse_V96 : GoodIn uX1_passJoin (wsV RX1 96 RX1 yX1_refuse uX1_refuse) := gin_V (List.mem_of_getElem? (i := 6) rfl) (List.mem_of_getElem? (i := 7) rfl) (List.mem_of_getElem? (i := 8) rfl) (List.mem_of_getElem? (i := 5) rfl) (fun _ h => (List.mem_cons_of_mem _ (List.mem_append_right _ (List.mem_append_right _ (List.mem_append_left _ h))))) guX1_refuse
set_option maxHeartbeats 4000000 in
set_option maxRecDepth 100000 in
theorem kX1_passJoin (l : Launch) (dC : Nat → ClassId) (dI : Nat → Nat → Nat) (rd : Nat) (xf : Int32) (xp : Int32) (xt : Int32) (xa : Int32) (xo : Int32) (xv : Int32) (xj : Int32) (tp : Nat) (tb : Nat) (ts : Int32) (cB : ClassId) (fb : Nat → Int32) (sc : Nat) (sz : Nat) (b_xf : (0 : Int) ≤ xf.toInt ∧ xf.toInt ≤ 3) (b_xp : (-1 : Int) ≤ xp.toInt ∧ xp.toInt ≤ 1200) (b_xt : (0 : Int) ≤ xt.toInt ∧ xt.toInt ≤ 4) (b_xa : (0 : Int) ≤ xa.toInt ∧ xa.toInt ≤ 1200) (b_xo : (0 : Int) ≤ xo.toInt ∧ xo.toInt ≤ 1200) (b_ts : (0 : Int) ≤ ts.toInt ∧ ts.toInt ≤ 1200) (hrd : xa.toInt ≤ xo.toInt) : Met l yX1_passJoin uX1_passJoin ({ frames := 1, cells := 0, slots := 0, locals := 22 }) (va_Pc [.ref rd] (hw (dC, dI) vwCl [(rd, .inr (0, [.ref tp, .ref sc, .int xf, .int xp, .int xt, .int xa, .int xo, .int xv, .int xj])), (tp, .inr (6, [.ref tb, .int ts])), (tb, .inl (cB, 1200, .inl fb))] [(cB, .byte)] sz)) (va_Qv (fun (_ : Unit) => True) (fun (_ : Unit) t => ∃ (o0_ : Int32) (o1_ : Int32) (o2_ : Int32) (o3_ : Int32) (o4_ : Int32) (o5_ : Int32) (o6_ : Int32), ((0 : Int) ≤ o0_.toInt ∧ o0_.toInt ≤ 3) ∧ ((-1 : Int) ≤ o1_.toInt ∧ o1_.toInt ≤ 1200) ∧ ((0 : Int) ≤ o2_.toInt ∧ o2_.toInt ≤ 4) ∧ ((0 : Int) ≤ o3_.toInt ∧ o3_.toInt ≤ 1200) ∧ ((0 : Int) ≤ o4_.toInt ∧ o4_.toInt ≤ 1200) ∧ (o3_.toInt ≤ o4_.toInt) ∧ va_P (dC, dI) vwCl [(rd, .inr (0, [.ref tp, .ref sc, .int o0_, .int o1_, .int o2_, .int o3_, .int o4_, .int o5_, .int o6_])), (tp, .inr (6, [.ref tb, .int ts])), (tb, .inl (cB, 1200, .inl fb))] t.heap ∧ va_K (dC, dI) vwCl [(cB, .byte)] t ∧ va_D (va_A [(rd, .inr (0, [.ref tp, .ref sc, .int xf, .int xp, .int xt, .int xa, .int xo, .int xv, .int xj])), (tp, .inr (6, [.ref tb, .int ts])), (tb, .inl (cB, 1200, .inl fb))] sz) [(rd, .inr (0, [.ref tp, .ref sc, .int o0_, .int o1_, .int o2_, .int o3_, .int o4_, .int o5_, .int o6_])), (tp, .inr (6, [.ref tb, .int ts])), (tb, .inl (cB, 1200, .inl fb))]) (va_A [(rd, .inr (0, [.ref tp, .ref sc, .int xf, .int xp, .int xt, .int xa, .int xo, .int xv, .int xj])), (tp, .inr (6, [.ref tb, .int ts])), (tb, .inl (cB, 1200, .inl fb))] sz)) 0 0 (va_A [(rd, .inr (0, [.ref tp, .ref sc, .int xf, .int xp, .int xt, .int xa, .int xo, .int xv, .int xj])), (tp, .inr (6, [.ref tb, .int ts])), (tb, .inl (cB, 1200, .inl fb))] sz) := by
  refine Met.ofW (cc := cX1_passJoin) (maxL := 1) (ret := none) pn_X1 rfl ?_
  intro p e s m args below meth c s₁ B hml hv
  obtain ⟨rfl, hsz, hP, hK, hD0, hN⟩ := hv
  have hx := B.exec
  have hb := B.bytes
  have hr := B.returns
  have hts := atoms_spec (ws := uX1_passJoin) B.pre
  have hown : s.vm.findClass RX1 = some m.cls := hown_of B.named rfl
  have hlocks := B.notSynchronized
  subst hsz
  have hD := hD0.self (sz := s.heap.size)
  generalize hAe : va_A [(rd, .inr (0, [.ref tp, .ref sc, .int xf, .int xp, .int xt, .int xa, .int xo, .int xv, .int xj])), (tp, .inr (6, [.ref tb, .int ts])), (tb, .inl (cB, 1200, .inl fb))] s.heap.size = A at hD ⊢
  have hA : ∀ q : Nat, s.heap.size ≤ q → A q := fun q h => by rw [← hAe]; exact Or.inr h
  have hS : va_S A s.heap s.heap [] := va_S.rf
  have hP : va_P (dC, dI) vwCl [(rd, .inr (0, [.ref tp, .ref sc, .int xf, .int xp, .int xt, .int xa, .int xo, .int xv, .int xj])), (tp, .inr (6, [.ref tb, .int ts])), (tb, .inl (cB, 1200, .inl fb))] s.heap := hP
  have hl := lv_entry ([.ref rd]) (n := 1) (Nat.le_of_ble_eq_true rfl)
  rw [lg_entry_eq]
  generalize (lg_sl ([.ref rd]) ++ List.replicate (1 - (lg_sl ([.ref rd])).length) Slot.unset).toArray = ls at hl ⊢
  have hl : lv_has ls 1 [(0, .ref rd)] := hl
  refine lv_aload_n hx hb dX1_passJoin_0 rfl (lv_at hl 0 rfl) ?_
  refine lv_dup hx hb dX1_passJoin_1 rfl ?_
  refine va_get (D := (dC, dI)) (ci := 0) (v := .int xj) (C := RX1) (T := TX1) (N := 9) hx hb hts iX1_passJoin_X1 hown hK hP 0 rfl rfl 8 (by decide) (hts (.fieldLink RX1 99 "LuckyTicket$Reader" "joins" "I") (List.mem_of_getElem? (i := 1) rfl)) (fun _ h9 => h9) rfl dX1_passJoin_2 ?_
  refine lv_iconst (v := 1) hx hb dX1_passJoin_5 (by decide) ?_
  refine lv_iadd hx hb dX1_passJoin_6 ?_
  refine lv_topi (fun z_16 e_z_16 => ?_)
  refine va_put (D := (dC, dI)) (ci := 0) (v := .int z_16) (ty := .int) (C := RX1) (T := TX1) (N := 9) hx hb hts iX1_passJoin_X1 tyX1 tyX1_ok nmX1 hown hK hP hD hS 0 rfl rfl 8 (by decide) (hts (.fieldLink RX1 99 "LuckyTicket$Reader" "joins" "I") (List.mem_of_getElem? (i := 1) rfl)) (fun _ h9 => h9) rfl (by decide +kernel) rfl rfl (Nat.le_of_ble_eq_true rfl) dX1_passJoin_7 (fun H locs hP hD hS => ?_)
  have hP : va_P (dC, dI) vwCl [(rd, .inr (0, [.ref tp, .ref sc, .int xf, .int xp, .int xt, .int xa, .int xo, .int xv, .int z_16])), (tp, .inr (6, [.ref tb, .int ts])), (tb, .inl (cB, 1200, .inl fb))] H := hP
  have hD : va_D A [(rd, .inr (0, [.ref tp, .ref sc, .int xf, .int xp, .int xt, .int xa, .int xo, .int xv, .int z_16])), (tp, .inr (6, [.ref tb, .int ts])), (tb, .inl (cB, 1200, .inl fb))] := hD
  refine lv_aload_n hx hb dX1_passJoin_10 rfl (lv_at hl 0 rfl) ?_
  refine va_get (D := (dC, dI)) (ci := 0) (v := .int z_16) (C := RX1) (T := TX1) (N := 9) hx hb hts iX1_passJoin_X1 hown hK hP 0 rfl rfl 8 (by decide) (hts (.fieldLink RX1 99 "LuckyTicket$Reader" "joins" "I") (List.mem_of_getElem? (i := 1) rfl)) (fun _ h9 => h9) rfl dX1_passJoin_11 ?_
  refine lv_bipush (v := 24) hx hb dX1_passJoin_14 (by decide) ?_
  refine lv_icmp_le (tgt := 27) hx hb dX1_passJoin_16 (by decide) (fun c_17 => ?_) (fun c_17 => ?_)
  ·
    have n_c_17 : (z_16.toInt : Int) ≤ 24 := c_le rfl (by decide) c_17
    have b_z_16 : (-2147483648 : Int) ≤ z_16.toInt ∧ z_16.toInt ≤ 24 := r_le1 (ti_rng z_16) (by decide : (24 : Int) ≤ (24 : Int32).toInt ∧ (24 : Int32).toInt ≤ 24) n_c_17 (by decide)
    refine lv_aload_n hx hb dX1_passJoin_27 rfl (lv_at hl 0 rfl) ?_
    have hFc := va_free (wc := [(rd, .inr (0, [.ref tp, .ref sc, .int xf, .int xp, .int xt, .int xa, .int xo, .int xv, .int z_16])), (tp, .inr (6, [.ref tb, .int ts])), (tb, .inl (cB, 1200, .inl fb))]) hD hS hA [0, 1, 2] rfl
    refine va_callv (va_runV (As := []) (rest := []) ⟨hx, hb, hml, hown, hts⟩ (kX1_advance l dC dI rd xf xp xt xa xo xv z_16 tp tb ts cB fb sc (H.size) b_xf b_xp b_xt b_xa b_xo b_ts (by omega)) (cwV 0 hts gX1_passJoin__X1_advance_V34 rfl rfl rfl hd_yX1_advance ⟨lel 1 1 rfl, lel 22 22 rfl⟩) ⟨hw_fb, rcv_X1 hK hP (q0 := 0) rfl, (hw_use hP hD hK hN [0, 1, 2] rfl (by decide) rfl [0] rfl)⟩ rfl rfl hl.1 rfl (lv_room (Nat.le_of_ble_eq_true rfl)) dX1_passJoin_28 ⟨lel 0 0 rfl, lel 0 0 rfl⟩) hS (fun q _ h => hFc q h) hFc (fun u_19 t H1 locs ht hvm hw_r_18 hB hz1 hk1 hS => ?_)
    obtain ⟨o0_20, o1_21, o2_22, o3_23, b_o0_20, b_o1_21, b_o2_22, hf_24, hP1, hK1, hD1⟩ := hB
    rw [ht] at hP1
    have hK1 := va_K.moved hvm.symm hK1
    obtain ⟨hP, hD⟩ := va_join (wr := []) (w1 := [(rd, .inr (0, [.ref tp, .ref sc, .int xf, .int xp, .int o0_20, .int o1_21, .int o2_22, .int o3_23, .int z_16])), (tp, .inr (6, [.ref tb, .int ts])), (tb, .inl (cB, 1200, .inl fb))]) hP hD [0, 1, 2] [] rfl rfl (by decide) (by decide) hk1 hFc hP1 hD1
    have hK := (hK.sub (tys' := []) [] rfl).app hK1
    generalize H1 = H at hP hS ⊢
    have hP : va_P (dC, dI) vwCl [(rd, .inr (0, [.ref tp, .ref sc, .int xf, .int xp, .int o0_20, .int o1_21, .int o2_22, .int o3_23, .int z_16])), (tp, .inr (6, [.ref tb, .int ts])), (tb, .inl (cB, 1200, .inl fb))] H := hP
    have hD : va_D A [(rd, .inr (0, [.ref tp, .ref sc, .int xf, .int xp, .int o0_20, .int o1_21, .int o2_22, .int o3_23, .int z_16])), (tp, .inr (6, [.ref tb, .int ts])), (tb, .inl (cB, 1200, .inl fb))] := hD
    have hK : va_K (dC, dI) vwCl [(cB, .byte)] s := hK
    have hP9 := hP.sub (ws' := [(rd, .inr (0, [.ref tp, .ref sc, .int xf, .int xp, .int o0_20, .int o1_21, .int o2_22, .int o3_23, .int z_16])), (tp, .inr (6, [.ref tb, .int ts])), (tb, .inl (cB, 1200, .inl fb))]) [0, 1, 2] rfl
    have hD9 := hD.sub (ws' := [(rd, .inr (0, [.ref tp, .ref sc, .int xf, .int xp, .int o0_20, .int o1_21, .int o2_22, .int o3_23, .int z_16])), (tp, .inr (6, [.ref tb, .int ts])), (tb, .inl (cB, 1200, .inl fb))]) [0, 1, 2] (by decide) rfl
    have hK9 := hK.sub (tys' := [(cB, .byte)]) [0] rfl
    exact W.vret hx hb hr (fun t ht hW => ⟨⟨(), rfl, trivial, xf, xp, o0_20, o1_21, o2_22, o3_23, z_16, b_xf, b_xp, b_o0_20, b_o1_21, b_o2_22, (by omega), by rw [ht]; exact hP9, va_K.moved hW.alike hK9, hD9⟩, hS.F ht⟩) hS.2.2 dX1_passJoin_31
  ·
    have n_c_17 : (24 : Int) < z_16.toInt := c_nle rfl (by decide) c_17
    have b_z_16 : (25 : Int) ≤ z_16.toInt ∧ z_16.toInt ≤ 2147483647 := r_lt2 (by decide : (24 : Int) ≤ (24 : Int32).toInt ∧ (24 : Int32).toInt ≤ 24) (ti_rng z_16) n_c_17 (by decide)
    refine lv_aload_n hx hb dX1_passJoin_19 rfl (lv_at hl 0 rfl) ?_
    refine lv_iconst (v := 3) hx hb dX1_passJoin_20 (by decide) ?_
    have hFc := va_free (wc := [(rd, .inr (0, [.ref tp, .ref sc, .int xf, .int xp, .int xt, .int xa, .int xo, .int xv, .int z_16]))]) hD hS hA [0] rfl
    refine va_callv (va_runV (As := [.int 3]) (rest := []) ⟨hx, hb, hml, hown, hts⟩ (kX1_refuse l dC dI rd xf xp xt xa xo xv z_16 tp sc 3 (H.size) b_xf b_xp b_xt b_xa b_xo (rg_w (by decide : (3 : Int) ≤ (3 : Int32).toInt ∧ (3 : Int32).toInt ≤ 3) (by decide) (by decide))) (cwV 1 hts gX1_passJoin__X1_refuse_V96 rfl rfl rfl hd_yX1_refuse ⟨lel 1 1 rfl, lel 21 22 rfl⟩) ⟨hw_fb, rcv_X1 hK hP (q0 := 0) rfl, (hw_use hP hD hK hN [0] rfl (by decide) rfl [] rfl)⟩ rfl rfl hl.1 rfl (lv_room (Nat.le_of_ble_eq_true rfl)) dX1_passJoin_21 ⟨lel 0 0 rfl, lel 0 0 rfl⟩) hS (fun q _ h => hFc q h) hFc (fun u_26 t H1 locs ht hvm hw_r_25 hB hz1 hk1 hS => ?_)
    obtain ⟨o0_27, o1_28, b_o0_27, b_o1_28, hf_29, hf_30, hP1, hK1, hD1⟩ := hB
    rw [ht] at hP1
    have hK1 := va_K.moved hvm.symm hK1
    obtain ⟨hP, hD⟩ := va_join (wr := [(tp, .inr (6, [.ref tb, .int ts])), (tb, .inl (cB, 1200, .inl fb))]) (w1 := [(rd, .inr (0, [.ref tp, .ref sc, .int o0_27, .int o1_28, .int xt, .int xa, .int xo, .int xv, .int z_16]))]) hP hD [0] [1, 2] rfl rfl (by decide) (by decide) hk1 hFc hP1 hD1
    have hK := (hK.sub (tys' := [(cB, .byte)]) [0] rfl).app hK1
    generalize H1 = H at hP hS ⊢
    have hP := hP.sub (ws' := [(rd, .inr (0, [.ref tp, .ref sc, .int o0_27, .int o1_28, .int xt, .int xa, .int xo, .int xv, .int z_16])), (tp, .inr (6, [.ref tb, .int ts])), (tb, .inl (cB, 1200, .inl fb))]) [2, 0, 1] rfl
    have hD := hD.sub (ws' := [(rd, .inr (0, [.ref tp, .ref sc, .int o0_27, .int o1_28, .int xt, .int xa, .int xo, .int xv, .int z_16])), (tp, .inr (6, [.ref tb, .int ts])), (tb, .inl (cB, 1200, .inl fb))]) [2, 0, 1] (by decide) rfl
    have hP : va_P (dC, dI) vwCl [(rd, .inr (0, [.ref tp, .ref sc, .int o0_27, .int o1_28, .int xt, .int xa, .int xo, .int xv, .int z_16])), (tp, .inr (6, [.ref tb, .int ts])), (tb, .inl (cB, 1200, .inl fb))] H := hP
    have hD : va_D A [(rd, .inr (0, [.ref tp, .ref sc, .int o0_27, .int o1_28, .int xt, .int xa, .int xo, .int xv, .int z_16])), (tp, .inr (6, [.ref tb, .int ts])), (tb, .inl (cB, 1200, .inl fb))] := hD
    have hK : va_K (dC, dI) vwCl [(cB, .byte)] s := hK
    refine lv_goto (tgt := 31) hx hb dX1_passJoin_24 (by decide) ?_
    have hP9 := hP.sub (ws' := [(rd, .inr (0, [.ref tp, .ref sc, .int o0_27, .int o1_28, .int xt, .int xa, .int xo, .int xv, .int z_16])), (tp, .inr (6, [.ref tb, .int ts])), (tb, .inl (cB, 1200, .inl fb))]) [0, 1, 2] rfl
    have hD9 := hD.sub (ws' := [(rd, .inr (0, [.ref tp, .ref sc, .int o0_27, .int o1_28, .int xt, .int xa, .int xo, .int xv, .int z_16])), (tp, .inr (6, [.ref tb, .int ts])), (tb, .inl (cB, 1200, .inl fb))]) [0, 1, 2] (by decide) rfl
    have hK9 := hK.sub (tys' := [(cB, .byte)]) [0] rfl
    exact W.vret hx hb hr (fun t ht hW => ⟨⟨(), rfl, trivial, o0_27, o1_28, xt, xa, xo, xv, z_16, (rg_w b_o0_27 (by decide) (by decide)), b_o1_28, b_xt, b_xa, b_xo, (by omega), by rw [ht]; exact hP9, va_K.moved hW.alike hK9, hD9⟩, hS.F ht⟩) hS.2.2 dX1_passJoin_31
theorem dX1_addPlain_0 : decode cX1_addPlain 0 = .ok (.aload_n 0, 1) := by decide +kernel
theorem dX1_addPlain_1 : decode cX1_addPlain 1 = .ok (.invokevirtual 34, 3) := by decide +kernel
theorem dX1_addPlain_4 : decode cX1_addPlain 4 = .ok (.aload_n 0, 1) := by decide +kernel
theorem dX1_addPlain_5 : decode cX1_addPlain 5 = .ok (.getfield 19, 3) := by decide +kernel
theorem dX1_addPlain_8 : decode cX1_addPlain 8 = .ok (.iload_n 1, 1) := by decide +kernel
theorem dX1_addPlain_9 : decode cX1_addPlain 9 = .ok (.lload_n 2, 1) := by decide +kernel
theorem dX1_addPlain_10 : decode cX1_addPlain 10 = .ok (.lload 4, 2) := by decide +kernel
theorem dX1_addPlain_12 : decode cX1_addPlain 12 = .ok (.invokevirtual 110, 3) := by decide +kernel
theorem dX1_addPlain_15 : decode cX1_addPlain 15 = .ok (.return_, 1) := by decide +kernel
theorem hd_yX1_addPlain : yX1_addPlain.cls = RX1 ∧ yX1_addPlain.cls ≠ "java/lang/invoke/MethodHandle" ∧ yX1_addPlain.cls ≠ "java/lang/invoke/VarHandle" ∧ (parseMethodDescriptor yX1_addPlain.desc).map (fun d => d.parameters.length) = some 3 := by decide +kernel
def uX1_addPlain : List Cond := List.cons (.code yX1_addPlain cX1_addPlain 6 none) (HAppend.hAppend ([.methodLink RX1 34 yX1_advance, .instanceMethod yX1_advance, .selects RX1 yX1_advance yX1_advance, .initialized RX1, .fieldLink RX1 19 "LuckyTicket$Reader" "script" "LLuckyTicket$Script;", .methodLink RX1 110 yX4_add, .instanceMethod yX4_add, .selects RX4 yX4_add yX4_add, .initialized RX4] : List Cond) (HAppend.hAppend uX1_advance (HAppend.hAppend uX4_add wsX10)))
theorem iX1_addPlain_X1 : ∀ w ∈ wsX10, w ∈ uX1_addPlain := fun _ h => (List.mem_cons_of_mem _ (List.mem_append_right _ (List.mem_append_right _ (List.mem_append_right _ h))))
theorem guX1_addPlain : GU uX1_addPlain := gu_cons (gu_app (by decide +kernel) (gu_ap guX1_advance (gu_ap guX4_add gws_X1)))
theorem gX1_addPlain__X1_advance_V34 : GoodIn uX1_addPlain (wsV RX1 34 RX1 yX1_advance uX1_advance) := gin_V (List.mem_of_getElem? (i := 1) rfl) (List.mem_of_getElem? (i := 2) rfl) (List.mem_of_getElem? (i := 3) rfl) (List.mem_of_getElem? (i := 4) rfl) (fun _ h => (List.mem_cons_of_mem _ (List.mem_append_right _ (List.mem_append_left _ h)))) guX1_advance
theorem gX1_addPlain__X4_add_V110 : GoodIn uX1_addPlain (wsV RX1 110 RX4 yX4_add uX4_add) := gin_V (List.mem_of_getElem? (i := 6) rfl) (List.mem_of_getElem? (i := 7) rfl) (List.mem_of_getElem? (i := 8) rfl) (List.mem_of_getElem? (i := 9) rfl) (fun _ h => (List.mem_cons_of_mem _ (List.mem_append_right _ (List.mem_append_right _ (List.mem_append_left _ h))))) guX4_add
set_option maxHeartbeats 4000000 in
set_option maxRecDepth 100000 in
theorem kX1_addPlain (l : Launch) (dC : Nat → ClassId) (dI : Nat → Nat → Nat) (rd : Nat) (xf : Int32) (xp : Int32) (xt : Int32) (xa : Int32) (xo : Int32) (xv : Int32) (xj : Int32) (tp : Nat) (tb : Nat) (ts : Int32) (cB : ClassId) (fb : Nat → Int32) (sc : Nat) (sn : Int32) (sb : Int32) (si : Int32) (sw : Int32) (ss : Int32) (en : Nat) (ki : Nat) (on : Nat) (ot : Nat) (cK : ClassId) (fk : Nat → Int32) (cO : ClassId) (fo : Nat → Int64) (cT : ClassId) (ft : Nat → Int64) (a1 : Int32) (a2 : Int64) (a3 : Int64) (sz : Nat) (b_xf : (0 : Int) ≤ xf.toInt ∧ xf.toInt ≤ 3) (b_xp : (-1 : Int) ≤ xp.toInt ∧ xp.toInt ≤ 1200) (b_xt : (0 : Int) ≤ xt.toInt ∧ xt.toInt ≤ 4) (b_xa : (0 : Int) ≤ xa.toInt ∧ xa.toInt ≤ 1200) (b_xo : (0 : Int) ≤ xo.toInt ∧ xo.toInt ≤ 1200) (b_ts : (0 : Int) ≤ ts.toInt ∧ ts.toInt ≤ 1200) (b_sn : (0 : Int) ≤ sn.toInt ∧ sn.toInt ≤ 12) (b_sb : (0 : Int) ≤ sb.toInt ∧ sb.toInt ≤ 16) (b_si : (0 : Int) ≤ si.toInt ∧ si.toInt ≤ 1300) (b_sw : (0 : Int) ≤ sw.toInt ∧ sw.toInt ≤ 9) (b_ss : (0 : Int) ≤ ss.toInt ∧ ss.toInt ≤ 600) (hrd : xa.toInt ≤ xo.toInt) : Met l yX1_addPlain uX1_addPlain ({ frames := 1, cells := 0, slots := 0, locals := 25 }) (va_Pc [.ref rd, .int a1, .long a2, .long a3] (hw (dC, dI) vwCl [(rd, .inr (0, [.ref tp, .ref sc, .int xf, .int xp, .int xt, .int xa, .int xo, .int xv, .int xj])), (tp, .inr (6, [.ref tb, .int ts])), (tb, .inl (cB, 1200, .inl fb)), (sc, .inr (3, [.int sn, .int sb, .int si, .int sw, .int ss, .ref en, .ref ki, .ref on, .ref ot])), (ki, .inl (cK, 600, .inl fk)), (on, .inl (cO, 600, .inr (.inl fo))), (ot, .inl (cT, 600, .inr (.inl ft)))] [(cB, .byte), (cK, .int), (cO, .long), (cT, .long)] sz)) (va_Qv (fun (_ : Unit) => True) (fun (_ : Unit) t => ∃ (o0_ : Int32) (o1_ : Int32) (o2_ : Int32) (o3_ : Int32) (o4_ : Int32) (o5_ : Nat → Int32) (o6_ : Nat → Int64) (o7_ : Nat → Int64), ((0 : Int) ≤ o0_.toInt ∧ o0_.toInt ≤ 4) ∧ ((0 : Int) ≤ o1_.toInt ∧ o1_.toInt ≤ 1200) ∧ ((0 : Int) ≤ o2_.toInt ∧ o2_.toInt ≤ 1200) ∧ ((1 : Int) ≤ o4_.toInt ∧ o4_.toInt ≤ 600) ∧ (o1_.toInt ≤ o2_.toInt) ∧ va_P (dC, dI) vwCl [(rd, .inr (0, [.ref tp, .ref sc, .int xf, .int xp, .int o0_, .int o1_, .int o2_, .int o3_, .int xj])), (tp, .inr (6, [.ref tb, .int ts])), (tb, .inl (cB, 1200, .inl fb)), (sc, .inr (3, [.int sn, .int sb, .int si, .int sw, .int o4_, .ref en, .ref ki, .ref on, .ref ot])), (ki, .inl (cK, 600, .inl o5_)), (on, .inl (cO, 600, .inr (.inl o6_))), (ot, .inl (cT, 600, .inr (.inl o7_)))] t.heap ∧ va_K (dC, dI) vwCl [(cB, .byte), (cK, .int), (cO, .long), (cT, .long)] t ∧ va_D (va_A [(rd, .inr (0, [.ref tp, .ref sc, .int xf, .int xp, .int xt, .int xa, .int xo, .int xv, .int xj])), (tp, .inr (6, [.ref tb, .int ts])), (tb, .inl (cB, 1200, .inl fb)), (sc, .inr (3, [.int sn, .int sb, .int si, .int sw, .int ss, .ref en, .ref ki, .ref on, .ref ot])), (ki, .inl (cK, 600, .inl fk)), (on, .inl (cO, 600, .inr (.inl fo))), (ot, .inl (cT, 600, .inr (.inl ft)))] sz) [(rd, .inr (0, [.ref tp, .ref sc, .int xf, .int xp, .int o0_, .int o1_, .int o2_, .int o3_, .int xj])), (tp, .inr (6, [.ref tb, .int ts])), (tb, .inl (cB, 1200, .inl fb)), (sc, .inr (3, [.int sn, .int sb, .int si, .int sw, .int o4_, .ref en, .ref ki, .ref on, .ref ot])), (ki, .inl (cK, 600, .inl o5_)), (on, .inl (cO, 600, .inr (.inl o6_))), (ot, .inl (cT, 600, .inr (.inl o7_)))]) (va_A [(rd, .inr (0, [.ref tp, .ref sc, .int xf, .int xp, .int xt, .int xa, .int xo, .int xv, .int xj])), (tp, .inr (6, [.ref tb, .int ts])), (tb, .inl (cB, 1200, .inl fb)), (sc, .inr (3, [.int sn, .int sb, .int si, .int sw, .int ss, .ref en, .ref ki, .ref on, .ref ot])), (ki, .inl (cK, 600, .inl fk)), (on, .inl (cO, 600, .inr (.inl fo))), (ot, .inl (cT, 600, .inr (.inl ft)))] sz)) 0 0 (va_A [(rd, .inr (0, [.ref tp, .ref sc, .int xf, .int xp, .int xt, .int xa, .int xo, .int xv, .int xj])), (tp, .inr (6, [.ref tb, .int ts])), (tb, .inl (cB, 1200, .inl fb)), (sc, .inr (3, [.int sn, .int sb, .int si, .int sw, .int ss, .ref en, .ref ki, .ref on, .ref ot])), (ki, .inl (cK, 600, .inl fk)), (on, .inl (cO, 600, .inr (.inl fo))), (ot, .inl (cT, 600, .inr (.inl ft)))] sz) := by
  refine Met.ofW (cc := cX1_addPlain) (maxL := 6) (ret := none) pn_X1 rfl ?_
  intro p e s m args below meth c s₁ B hml hv
  obtain ⟨rfl, hsz, hP, hK, hD0, hN⟩ := hv
  have hx := B.exec
  have hb := B.bytes
  have hr := B.returns
  have hts := atoms_spec (ws := uX1_addPlain) B.pre
  have hown : s.vm.findClass RX1 = some m.cls := hown_of B.named rfl
  have hlocks := B.notSynchronized
  subst hsz
  have hD := hD0.self (sz := s.heap.size)
  generalize hAe : va_A [(rd, .inr (0, [.ref tp, .ref sc, .int xf, .int xp, .int xt, .int xa, .int xo, .int xv, .int xj])), (tp, .inr (6, [.ref tb, .int ts])), (tb, .inl (cB, 1200, .inl fb)), (sc, .inr (3, [.int sn, .int sb, .int si, .int sw, .int ss, .ref en, .ref ki, .ref on, .ref ot])), (ki, .inl (cK, 600, .inl fk)), (on, .inl (cO, 600, .inr (.inl fo))), (ot, .inl (cT, 600, .inr (.inl ft)))] s.heap.size = A at hD ⊢
  have hA : ∀ q : Nat, s.heap.size ≤ q → A q := fun q h => by rw [← hAe]; exact Or.inr h
  have hS : va_S A s.heap s.heap [] := va_S.rf
  have hP : va_P (dC, dI) vwCl [(rd, .inr (0, [.ref tp, .ref sc, .int xf, .int xp, .int xt, .int xa, .int xo, .int xv, .int xj])), (tp, .inr (6, [.ref tb, .int ts])), (tb, .inl (cB, 1200, .inl fb)), (sc, .inr (3, [.int sn, .int sb, .int si, .int sw, .int ss, .ref en, .ref ki, .ref on, .ref ot])), (ki, .inl (cK, 600, .inl fk)), (on, .inl (cO, 600, .inr (.inl fo))), (ot, .inl (cT, 600, .inr (.inl ft)))] s.heap := hP
  have hl := lv_entry ([.ref rd, .int a1, .long a2, .long a3]) (n := 6) (Nat.le_of_ble_eq_true rfl)
  rw [lg_entry_eq]
  generalize (lg_sl ([.ref rd, .int a1, .long a2, .long a3]) ++ List.replicate (6 - (lg_sl ([.ref rd, .int a1, .long a2, .long a3])).length) Slot.unset).toArray = ls at hl ⊢
  have hl : lv_has ls 6 [(0, .ref rd), (1, .int a1), (2, .long a2), (4, .long a3)] := hl
  refine lv_aload_n hx hb dX1_addPlain_0 rfl (lv_at hl 0 rfl) ?_
  have hFc := va_free (wc := [(rd, .inr (0, [.ref tp, .ref sc, .int xf, .int xp, .int xt, .int xa, .int xo, .int xv, .int xj])), (tp, .inr (6, [.ref tb, .int ts])), (tb, .inl (cB, 1200, .inl fb))]) hD hS hA [0, 1, 2] rfl
  refine va_callv (va_runV (As := []) (rest := []) ⟨hx, hb, hml, hown, hts⟩ (kX1_advance l dC dI rd xf xp xt xa xo xv xj tp tb ts cB fb sc (s.heap.size) b_xf b_xp b_xt b_xa b_xo b_ts (by omega)) (cwV 0 hts gX1_addPlain__X1_advance_V34 rfl rfl rfl hd_yX1_advance ⟨lel 1 1 rfl, lel 22 25 rfl⟩) ⟨hw_fb, rcv_X1 hK hP (q0 := 0) rfl, (hw_use hP hD hK hN [0, 1, 2] rfl (by decide) rfl [0] rfl)⟩ rfl rfl hl.1 rfl (lv_room (Nat.le_of_ble_eq_true rfl)) dX1_addPlain_1 ⟨lel 0 0 rfl, lel 0 0 rfl⟩) hS (fun q _ h => hFc q h) hFc (fun u_15 t H1 locs ht hvm hw_r_14 hB hz1 hk1 hS => ?_)
  obtain ⟨o0_16, o1_17, o2_18, o3_19, b_o0_16, b_o1_17, b_o2_18, hf_20, hP1, hK1, hD1⟩ := hB
  rw [ht] at hP1
  have hK1 := va_K.moved hvm.symm hK1
  obtain ⟨hP, hD⟩ := va_join (wr := [(sc, .inr (3, [.int sn, .int sb, .int si, .int sw, .int ss, .ref en, .ref ki, .ref on, .ref ot])), (ki, .inl (cK, 600, .inl fk)), (on, .inl (cO, 600, .inr (.inl fo))), (ot, .inl (cT, 600, .inr (.inl ft)))]) (w1 := [(rd, .inr (0, [.ref tp, .ref sc, .int xf, .int xp, .int o0_16, .int o1_17, .int o2_18, .int o3_19, .int xj])), (tp, .inr (6, [.ref tb, .int ts])), (tb, .inl (cB, 1200, .inl fb))]) hP hD [0, 1, 2] [3, 4, 5, 6] rfl rfl (by decide) (by decide) hk1 hFc hP1 hD1
  have hK := (hK.sub (tys' := [(cK, .int), (cO, .long), (cT, .long)]) [1, 2, 3] rfl).app hK1
  generalize H1 = H at hP hS ⊢
  have hP := hP.sub (ws' := [(rd, .inr (0, [.ref tp, .ref sc, .int xf, .int xp, .int o0_16, .int o1_17, .int o2_18, .int o3_19, .int xj])), (tp, .inr (6, [.ref tb, .int ts])), (tb, .inl (cB, 1200, .inl fb)), (sc, .inr (3, [.int sn, .int sb, .int si, .int sw, .int ss, .ref en, .ref ki, .ref on, .ref ot])), (ki, .inl (cK, 600, .inl fk)), (on, .inl (cO, 600, .inr (.inl fo))), (ot, .inl (cT, 600, .inr (.inl ft)))]) [4, 5, 6, 0, 1, 2, 3] rfl
  have hD := hD.sub (ws' := [(rd, .inr (0, [.ref tp, .ref sc, .int xf, .int xp, .int o0_16, .int o1_17, .int o2_18, .int o3_19, .int xj])), (tp, .inr (6, [.ref tb, .int ts])), (tb, .inl (cB, 1200, .inl fb)), (sc, .inr (3, [.int sn, .int sb, .int si, .int sw, .int ss, .ref en, .ref ki, .ref on, .ref ot])), (ki, .inl (cK, 600, .inl fk)), (on, .inl (cO, 600, .inr (.inl fo))), (ot, .inl (cT, 600, .inr (.inl ft)))]) [4, 5, 6, 0, 1, 2, 3] (by decide) rfl
  have hK := hK.sub (tys' := [(cB, .byte), (cK, .int), (cO, .long), (cT, .long)]) [3, 0, 1, 2] rfl
  have hP : va_P (dC, dI) vwCl [(rd, .inr (0, [.ref tp, .ref sc, .int xf, .int xp, .int o0_16, .int o1_17, .int o2_18, .int o3_19, .int xj])), (tp, .inr (6, [.ref tb, .int ts])), (tb, .inl (cB, 1200, .inl fb)), (sc, .inr (3, [.int sn, .int sb, .int si, .int sw, .int ss, .ref en, .ref ki, .ref on, .ref ot])), (ki, .inl (cK, 600, .inl fk)), (on, .inl (cO, 600, .inr (.inl fo))), (ot, .inl (cT, 600, .inr (.inl ft)))] H := hP
  have hD : va_D A [(rd, .inr (0, [.ref tp, .ref sc, .int xf, .int xp, .int o0_16, .int o1_17, .int o2_18, .int o3_19, .int xj])), (tp, .inr (6, [.ref tb, .int ts])), (tb, .inl (cB, 1200, .inl fb)), (sc, .inr (3, [.int sn, .int sb, .int si, .int sw, .int ss, .ref en, .ref ki, .ref on, .ref ot])), (ki, .inl (cK, 600, .inl fk)), (on, .inl (cO, 600, .inr (.inl fo))), (ot, .inl (cT, 600, .inr (.inl ft)))] := hD
  have hK : va_K (dC, dI) vwCl [(cB, .byte), (cK, .int), (cO, .long), (cT, .long)] s := hK
  refine lv_aload_n hx hb dX1_addPlain_4 rfl (lv_at hl 0 rfl) ?_
  refine va_get (D := (dC, dI)) (ci := 0) (v := .ref sc) (C := RX1) (T := TX1) (N := 9) hx hb hts iX1_addPlain_X1 hown hK hP 0 rfl rfl 1 (by decide) (hts (.fieldLink RX1 19 "LuckyTicket$Reader" "script" "LLuckyTicket$Script;") (List.mem_of_getElem? (i := 5) rfl)) (fun _ h9 => h9) rfl dX1_addPlain_5 ?_
  refine lv_iload_n hx hb dX1_addPlain_8 rfl (lv_at hl 1 rfl) ?_
  refine lv_lload_n hx hb dX1_addPlain_9 rfl (lv_at hl 2 rfl) ?_
  refine lv_lload hx hb dX1_addPlain_10 (lv_at hl 3 rfl) ?_
  have hFc := va_free (wc := [(sc, .inr (3, [.int sn, .int sb, .int si, .int sw, .int ss, .ref en, .ref ki, .ref on, .ref ot])), (ki, .inl (cK, 600, .inl fk)), (on, .inl (cO, 600, .inr (.inl fo))), (ot, .inl (cT, 600, .inr (.inl ft)))]) hD hS hA [3, 4, 5, 6] rfl
  refine va_callv (va_runV (As := [.int a1, .long a2, .long a3]) (rest := []) ⟨hx, hb, hml, hown, hts⟩ (kX4_add l dC dI sc sn sb si sw ss en ki on ot cK fk cO fo cT ft a1 a2 a3 (H.size) b_sn b_sb b_si b_sw b_ss) (cwV 3 hts gX1_addPlain__X4_add_V110 rfl rfl rfl hd_yX4_add ⟨lel 1 1 rfl, lel 25 25 rfl⟩) ⟨hw_fb, rcv_X4 hK hP (q0 := 3) rfl, (hw_use hP hD hK hN [3, 4, 5, 6] rfl (by decide) rfl [1, 2, 3] rfl)⟩ rfl rfl hl.1 rfl (lv_room (Nat.le_of_ble_eq_true rfl)) dX1_addPlain_12 ⟨lel 0 0 rfl, lel 0 0 rfl⟩) hS (fun q _ h => hFc q h) hFc (fun u_22 t H1 locs ht hvm hw_r_21 hB hz1 hk1 hS => ?_)
  obtain ⟨o0_23, o1_24, o2_25, o3_26, b_o0_23, hP1, hK1, hD1⟩ := hB
  rw [ht] at hP1
  have hK1 := va_K.moved hvm.symm hK1
  obtain ⟨hP, hD⟩ := va_join (wr := [(rd, .inr (0, [.ref tp, .ref sc, .int xf, .int xp, .int o0_16, .int o1_17, .int o2_18, .int o3_19, .int xj])), (tp, .inr (6, [.ref tb, .int ts])), (tb, .inl (cB, 1200, .inl fb))]) (w1 := [(sc, .inr (3, [.int sn, .int sb, .int si, .int sw, .int o0_23, .ref en, .ref ki, .ref on, .ref ot])), (ki, .inl (cK, 600, .inl o1_24)), (on, .inl (cO, 600, .inr (.inl o2_25))), (ot, .inl (cT, 600, .inr (.inl o3_26)))]) hP hD [3, 4, 5, 6] [0, 1, 2] rfl rfl (by decide) (by decide) hk1 hFc hP1 hD1
  have hK := (hK.sub (tys' := [(cB, .byte)]) [0] rfl).app hK1
  generalize H1 = H at hP hS ⊢
  have hP : va_P (dC, dI) vwCl [(rd, .inr (0, [.ref tp, .ref sc, .int xf, .int xp, .int o0_16, .int o1_17, .int o2_18, .int o3_19, .int xj])), (tp, .inr (6, [.ref tb, .int ts])), (tb, .inl (cB, 1200, .inl fb)), (sc, .inr (3, [.int sn, .int sb, .int si, .int sw, .int o0_23, .ref en, .ref ki, .ref on, .ref ot])), (ki, .inl (cK, 600, .inl o1_24)), (on, .inl (cO, 600, .inr (.inl o2_25))), (ot, .inl (cT, 600, .inr (.inl o3_26)))] H := hP
  have hD : va_D A [(rd, .inr (0, [.ref tp, .ref sc, .int xf, .int xp, .int o0_16, .int o1_17, .int o2_18, .int o3_19, .int xj])), (tp, .inr (6, [.ref tb, .int ts])), (tb, .inl (cB, 1200, .inl fb)), (sc, .inr (3, [.int sn, .int sb, .int si, .int sw, .int o0_23, .ref en, .ref ki, .ref on, .ref ot])), (ki, .inl (cK, 600, .inl o1_24)), (on, .inl (cO, 600, .inr (.inl o2_25))), (ot, .inl (cT, 600, .inr (.inl o3_26)))] := hD
  have hK : va_K (dC, dI) vwCl [(cB, .byte), (cK, .int), (cO, .long), (cT, .long)] s := hK
  have hP9 := hP.sub (ws' := [(rd, .inr (0, [.ref tp, .ref sc, .int xf, .int xp, .int o0_16, .int o1_17, .int o2_18, .int o3_19, .int xj])), (tp, .inr (6, [.ref tb, .int ts])), (tb, .inl (cB, 1200, .inl fb)), (sc, .inr (3, [.int sn, .int sb, .int si, .int sw, .int o0_23, .ref en, .ref ki, .ref on, .ref ot])), (ki, .inl (cK, 600, .inl o1_24)), (on, .inl (cO, 600, .inr (.inl o2_25))), (ot, .inl (cT, 600, .inr (.inl o3_26)))]) [0, 1, 2, 3, 4, 5, 6] rfl
  have hD9 := hD.sub (ws' := [(rd, .inr (0, [.ref tp, .ref sc, .int xf, .int xp, .int o0_16, .int o1_17, .int o2_18, .int o3_19, .int xj])), (tp, .inr (6, [.ref tb, .int ts])), (tb, .inl (cB, 1200, .inl fb)), (sc, .inr (3, [.int sn, .int sb, .int si, .int sw, .int o0_23, .ref en, .ref ki, .ref on, .ref ot])), (ki, .inl (cK, 600, .inl o1_24)), (on, .inl (cO, 600, .inr (.inl o2_25))), (ot, .inl (cT, 600, .inr (.inl o3_26)))]) [0, 1, 2, 3, 4, 5, 6] (by decide) rfl
  have hK9 := hK.sub (tys' := [(cB, .byte), (cK, .int), (cO, .long), (cT, .long)]) [0, 1, 2, 3] rfl
  exact W.vret hx hb hr (fun t ht hW => ⟨⟨(), rfl, trivial, o0_16, o1_17, o2_18, o3_19, o0_23, o1_24, o2_25, o3_26, b_o0_16, b_o1_17, b_o2_18, b_o0_23, (by omega), by rw [ht]; exact hP9, va_K.moved hW.alike hK9, hD9⟩, hS.F ht⟩) hS.2.2 dX1_addPlain_15
theorem dX1_readRest_0 : decode cX1_readRest 0 = .ok (.aload_n 0, 1) := by decide +kernel
theorem dX1_readRest_1 : decode cX1_readRest 1 = .ok (.invokevirtual 34, 3) := by decide +kernel
theorem dX1_readRest_4 : decode cX1_readRest 4 = .ok (.aload_n 0, 1) := by decide +kernel
theorem dX1_readRest_5 : decode cX1_readRest 5 = .ok (.iconst 0, 1) := by decide +kernel
theorem dX1_readRest_6 : decode cX1_readRest 6 = .ok (.bipush 19, 2) := by decide +kernel
theorem dX1_readRest_8 : decode cX1_readRest 8 = .ok (.invokevirtual 70, 3) := by decide +kernel
theorem dX1_readRest_11 : decode cX1_readRest 11 = .ok (.istore_n 1, 1) := by decide +kernel
theorem dX1_readRest_12 : decode cX1_readRest 12 = .ok (.aload_n 0, 1) := by decide +kernel
theorem dX1_readRest_13 : decode cX1_readRest 13 = .ok (.ldc 170, 2) := by decide +kernel
theorem dX1_readRest_15 : decode cX1_readRest 15 = .ok (.invokevirtual 64, 3) := by decide +kernel
theorem dX1_readRest_18 : decode cX1_readRest 18 = .ok (.aload_n 0, 1) := by decide +kernel
theorem dX1_readRest_19 : decode cX1_readRest 19 = .ok (.iload_n 1, 1) := by decide +kernel
theorem dX1_readRest_20 : decode cX1_readRest 20 = .ok (.iconst 1, 1) := by decide +kernel
theorem dX1_readRest_21 : decode cX1_readRest 21 = .ok (.iadd, 1) := by decide +kernel
theorem dX1_readRest_22 : decode cX1_readRest 22 = .ok (.bipush 20, 2) := by decide +kernel
theorem dX1_readRest_24 : decode cX1_readRest 24 = .ok (.invokevirtual 70, 3) := by decide +kernel
theorem dX1_readRest_27 : decode cX1_readRest 27 = .ok (.istore_n 2, 1) := by decide +kernel
theorem dX1_readRest_28 : decode cX1_readRest 28 = .ok (.aload_n 0, 1) := by decide +kernel
theorem dX1_readRest_29 : decode cX1_readRest 29 = .ok (.getfield 19, 3) := by decide +kernel
theorem dX1_readRest_32 : decode cX1_readRest 32 = .ok (.iconst 5, 1) := by decide +kernel
theorem dX1_readRest_33 : decode cX1_readRest 33 = .ok (.iload_n 1, 1) := by decide +kernel
theorem dX1_readRest_34 : decode cX1_readRest 34 = .ok (.i2l, 1) := by decide +kernel
theorem dX1_readRest_35 : decode cX1_readRest 35 = .ok (.iload_n 2, 1) := by decide +kernel
theorem dX1_readRest_36 : decode cX1_readRest 36 = .ok (.i2l, 1) := by decide +kernel
theorem dX1_readRest_37 : decode cX1_readRest 37 = .ok (.invokevirtual 110, 3) := by decide +kernel
theorem dX1_readRest_40 : decode cX1_readRest 40 = .ok (.return_, 1) := by decide +kernel
theorem hd_yX1_readRest : yX1_readRest.cls = RX1 ∧ yX1_readRest.cls ≠ "java/lang/invoke/MethodHandle" ∧ yX1_readRest.cls ≠ "java/lang/invoke/VarHandle" ∧ (parseMethodDescriptor yX1_readRest.desc).map (fun d => d.parameters.length) = some 0 := by decide +kernel
def uX1_readRest : List Cond := List.cons (.code yX1_readRest cX1_readRest 3 none) (HAppend.hAppend ([.methodLink RX1 34 yX1_advance, .instanceMethod yX1_advance, .selects RX1 yX1_advance yX1_advance, .initialized RX1, .methodLink RX1 70 yX1_passNumber, .instanceMethod yX1_passNumber, .selects RX1 yX1_passNumber yX1_passNumber, .methodLink RX1 64 yX1_passWord, .instanceMethod yX1_passWord, .selects RX1 yX1_passWord yX1_passWord, .fieldLink RX1 19 "LuckyTicket$Reader" "script" "LLuckyTicket$Script;", .methodLink RX1 110 yX4_add, .instanceMethod yX4_add, .selects RX4 yX4_add yX4_add, .initialized RX4] : List Cond) (HAppend.hAppend uX1_advance (HAppend.hAppend uX1_passNumber (HAppend.hAppend uX1_passWord (HAppend.hAppend uX4_add wsX10)))))
theorem iX1_readRest_X1 : ∀ w ∈ wsX10, w ∈ uX1_readRest := fun _ h => (List.mem_cons_of_mem _ (List.mem_append_right _ (List.mem_append_right _ (List.mem_append_right _ (List.mem_append_right _ (List.mem_append_right _ h))))))
theorem guX1_readRest : GU uX1_readRest := gu_cons (gu_app (by decide +kernel) (gu_ap guX1_advance (gu_ap guX1_passNumber (gu_ap guX1_passWord (gu_ap guX4_add gws_X1)))))
theorem gX1_readRest__X1_advance_V34 : GoodIn uX1_readRest (wsV RX1 34 RX1 yX1_advance uX1_advance) := gin_V (List.mem_of_getElem? (i := 1) rfl) (List.mem_of_getElem? (i := 2) rfl) (List.mem_of_getElem? (i := 3) rfl) (List.mem_of_getElem? (i := 4) rfl) (fun _ h => (List.mem_cons_of_mem _ (List.mem_append_right _ (List.mem_append_left _ h)))) guX1_advance
theorem gX1_readRest__X1_passNumber_V70 : GoodIn uX1_readRest (wsV RX1 70 RX1 yX1_passNumber uX1_passNumber) := gin_V (List.mem_of_getElem? (i := 5) rfl) (List.mem_of_getElem? (i := 6) rfl) (List.mem_of_getElem? (i := 7) rfl) (List.mem_of_getElem? (i := 4) rfl) (fun _ h => (List.mem_cons_of_mem _ (List.mem_append_right _ (List.mem_append_right _ (List.mem_append_left _ h))))) guX1_passNumber
theorem gX1_readRest__X1_passWord_V64 : GoodIn uX1_readRest (wsV RX1 64 RX1 yX1_passWord uX1_passWord) := gin_V (List.mem_of_getElem? (i := 8) rfl) (List.mem_of_getElem? (i := 9) rfl) (List.mem_of_getElem? (i := 10) rfl) (List.mem_of_getElem? (i := 4) rfl) (fun _ h => (List.mem_cons_of_mem _ (List.mem_append_right _ (List.mem_append_right _ (List.mem_append_right _ (List.mem_append_left _ h)))))) guX1_passWord
theorem gX1_readRest__X4_add_V110 : GoodIn uX1_readRest (wsV RX1 110 RX4 yX4_add uX4_add) := gin_V (List.mem_of_getElem? (i := 12) rfl) (List.mem_of_getElem? (i := 13) rfl) (List.mem_of_getElem? (i := 14) rfl) (List.mem_of_getElem? (i := 15) rfl) (fun _ h => (List.mem_cons_of_mem _ (List.mem_append_right _ (List.mem_append_right _ (List.mem_append_right _ (List.mem_append_right _ (List.mem_append_left _ h))))))) guX4_add
set_option maxHeartbeats 4000000 in
set_option maxRecDepth 100000 in
theorem kX1_readRest (l : Launch) (dC : Nat → ClassId) (dI : Nat → Nat → Nat) (rd : Nat) (xf : Int32) (xp : Int32) (xt : Int32) (xa : Int32) (xo : Int32) (xv : Int32) (xj : Int32) (tp : Nat) (tb : Nat) (ts : Int32) (cB : ClassId) (fb : Nat → Int32) (sc : Nat) (sn : Int32) (sb : Int32) (si : Int32) (sw : Int32) (ss : Int32) (en : Nat) (ki : Nat) (on : Nat) (ot : Nat) (cK : ClassId) (fk : Nat → Int32) (cO : ClassId) (fo : Nat → Int64) (cT : ClassId) (ft : Nat → Int64) (n0 : Nat) (sz : Nat) (b_xf : (0 : Int) ≤ xf.toInt ∧ xf.toInt ≤ 3) (b_xp : (-1 : Int) ≤ xp.toInt ∧ xp.toInt ≤ 1200) (b_xt : (0 : Int) ≤ xt.toInt ∧ xt.toInt ≤ 4) (b_xa : (0 : Int) ≤ xa.toInt ∧ xa.toInt ≤ 1200) (b_xo : (0 : Int) ≤ xo.toInt ∧ xo.toInt ≤ 1200) (b_ts : (0 : Int) ≤ ts.toInt ∧ ts.toInt ≤ 1200) (b_sn : (0 : Int) ≤ sn.toInt ∧ sn.toInt ≤ 12) (b_sb : (0 : Int) ≤ sb.toInt ∧ sb.toInt ≤ 16) (b_si : (0 : Int) ≤ si.toInt ∧ si.toInt ≤ 1300) (b_sw : (0 : Int) ≤ sw.toInt ∧ sw.toInt ≤ 9) (b_ss : (0 : Int) ≤ ss.toInt ∧ ss.toInt ≤ 600) (hrd : xa.toInt ≤ xo.toInt) : Met l yX1_readRest uX1_readRest ({ frames := 6, cells := 0, slots := 0, locals := 128 }) (va_Pc [.ref rd] (hx_ (dC, dI) vwCl [(rd, .inr (0, [.ref tp, .ref sc, .int xf, .int xp, .int xt, .int xa, .int xo, .int xv, .int xj])), (tp, .inr (6, [.ref tb, .int ts])), (tb, .inl (cB, 1200, .inl fb)), (sc, .inr (3, [.int sn, .int sb, .int si, .int sw, .int ss, .ref en, .ref ki, .ref on, .ref ot])), (ki, .inl (cK, 600, .inl fk)), (on, .inl (cO, 600, .inr (.inl fo))), (ot, .inl (cT, 600, .inr (.inl ft)))] [(cB, .byte), (cK, .int), (cO, .long), (cT, .long)] sz n0 [])) (va_Qv (fun (_ : Unit) => True) (fun (_ : Unit) t => ∃ (o0_ : Int32) (o1_ : Int32) (o2_ : Int32) (o3_ : Int32) (o4_ : Int32) (o5_ : Int32) (o6_ : Int32) (o7_ : Nat → Int32) (o8_ : Nat → Int64) (o9_ : Nat → Int64), ((0 : Int) ≤ o0_.toInt ∧ o0_.toInt ≤ 3) ∧ ((-1 : Int) ≤ o1_.toInt ∧ o1_.toInt ≤ 1200) ∧ ((0 : Int) ≤ o2_.toInt ∧ o2_.toInt ≤ 4) ∧ ((0 : Int) ≤ o3_.toInt ∧ o3_.toInt ≤ 1200) ∧ ((0 : Int) ≤ o4_.toInt ∧ o4_.toInt ≤ 1200) ∧ ((1 : Int) ≤ o6_.toInt ∧ o6_.toInt ≤ 600) ∧ (o3_.toInt ≤ o4_.toInt) ∧ va_P (dC, dI) vwCl [(rd, .inr (0, [.ref tp, .ref sc, .int o0_, .int o1_, .int o2_, .int o3_, .int o4_, .int o5_, .int xj])), (tp, .inr (6, [.ref tb, .int ts])), (tb, .inl (cB, 1200, .inl fb)), (sc, .inr (3, [.int sn, .int sb, .int si, .int sw, .int o6_, .ref en, .ref ki, .ref on, .ref ot])), (ki, .inl (cK, 600, .inl o7_)), (on, .inl (cO, 600, .inr (.inl o8_))), (ot, .inl (cT, 600, .inr (.inl o9_)))] t.heap ∧ va_K (dC, dI) vwCl [(cB, .byte), (cK, .int), (cO, .long), (cT, .long)] t ∧ va_D (va_A [(rd, .inr (0, [.ref tp, .ref sc, .int xf, .int xp, .int xt, .int xa, .int xo, .int xv, .int xj])), (tp, .inr (6, [.ref tb, .int ts])), (tb, .inl (cB, 1200, .inl fb)), (sc, .inr (3, [.int sn, .int sb, .int si, .int sw, .int ss, .ref en, .ref ki, .ref on, .ref ot])), (ki, .inl (cK, 600, .inl fk)), (on, .inl (cO, 600, .inr (.inl fo))), (ot, .inl (cT, 600, .inr (.inl ft)))] sz) [(rd, .inr (0, [.ref tp, .ref sc, .int o0_, .int o1_, .int o2_, .int o3_, .int o4_, .int o5_, .int xj])), (tp, .inr (6, [.ref tb, .int ts])), (tb, .inl (cB, 1200, .inl fb)), (sc, .inr (3, [.int sn, .int sb, .int si, .int sw, .int o6_, .ref en, .ref ki, .ref on, .ref ot])), (ki, .inl (cK, 600, .inl o7_)), (on, .inl (cO, 600, .inr (.inl o8_))), (ot, .inl (cT, 600, .inr (.inl o9_)))]) (va_A [(rd, .inr (0, [.ref tp, .ref sc, .int xf, .int xp, .int xt, .int xa, .int xo, .int xv, .int xj])), (tp, .inr (6, [.ref tb, .int ts])), (tb, .inl (cB, 1200, .inl fb)), (sc, .inr (3, [.int sn, .int sb, .int si, .int sw, .int ss, .ref en, .ref ki, .ref on, .ref ot])), (ki, .inl (cK, 600, .inl fk)), (on, .inl (cO, 600, .inr (.inl fo))), (ot, .inl (cT, 600, .inr (.inl ft)))] sz)) 0 0 (va_A [(rd, .inr (0, [.ref tp, .ref sc, .int xf, .int xp, .int xt, .int xa, .int xo, .int xv, .int xj])), (tp, .inr (6, [.ref tb, .int ts])), (tb, .inl (cB, 1200, .inl fb)), (sc, .inr (3, [.int sn, .int sb, .int si, .int sw, .int ss, .ref en, .ref ki, .ref on, .ref ot])), (ki, .inl (cK, 600, .inl fk)), (on, .inl (cO, 600, .inr (.inl fo))), (ot, .inl (cT, 600, .inr (.inl ft)))] sz) := by
  refine Met.ofW (cc := cX1_readRest) (maxL := 3) (ret := none) pn_X1 rfl ?_
  intro p e s m args below meth c s₁ B hml hv
  obtain ⟨rfl, ⟨hsz, hP, hK, hD0, hN⟩, hn0, hDn, hX, hTx⟩ := hv
  have hx := B.exec
  have hb := B.bytes
  have hr := B.returns
  have hts := atoms_spec (ws := uX1_readRest) B.pre
  have hown : s.vm.findClass RX1 = some m.cls := hown_of B.named rfl
  have hlocks := B.notSynchronized
  subst hsz
  have hD := hD0.self (sz := s.heap.size)
  have hAn : ∀ q, va_A [(rd, .inr (0, [.ref tp, .ref sc, .int xf, .int xp, .int xt, .int xa, .int xo, .int xv, .int xj])), (tp, .inr (6, [.ref tb, .int ts])), (tb, .inl (cB, 1200, .inl fb)), (sc, .inr (3, [.int sn, .int sb, .int si, .int sw, .int ss, .ref en, .ref ki, .ref on, .ref ot])), (ki, .inl (cK, 600, .inl fk)), (on, .inl (cO, 600, .inr (.inl fo))), (ot, .inl (cT, 600, .inr (.inl ft)))] s.heap.size q → n0 ≤ q := fun q h => h.elim (fun ⟨k, e, hk⟩ => hDn.2 k (q, e) hk) (fun h => Nat.le_trans hn0 h)
  generalize hAe : va_A [(rd, .inr (0, [.ref tp, .ref sc, .int xf, .int xp, .int xt, .int xa, .int xo, .int xv, .int xj])), (tp, .inr (6, [.ref tb, .int ts])), (tb, .inl (cB, 1200, .inl fb)), (sc, .inr (3, [.int sn, .int sb, .int si, .int sw, .int ss, .ref en, .ref ki, .ref on, .ref ot])), (ki, .inl (cK, 600, .inl fk)), (on, .inl (cO, 600, .inr (.inl fo))), (ot, .inl (cT, 600, .inr (.inl ft)))] s.heap.size = A at hD hAn ⊢
  have hA : ∀ q : Nat, s.heap.size ≤ q → A q := fun q h => by rw [← hAe]; exact Or.inr h
  have hS : va_S A s.heap s.heap [] := va_S.rf
  have hP : va_P (dC, dI) vwCl [(rd, .inr (0, [.ref tp, .ref sc, .int xf, .int xp, .int xt, .int xa, .int xo, .int xv, .int xj])), (tp, .inr (6, [.ref tb, .int ts])), (tb, .inl (cB, 1200, .inl fb)), (sc, .inr (3, [.int sn, .int sb, .int si, .int sw, .int ss, .ref en, .ref ki, .ref on, .ref ot])), (ki, .inl (cK, 600, .inl fk)), (on, .inl (cO, 600, .inr (.inl fo))), (ot, .inl (cT, 600, .inr (.inl ft)))] s.heap := hP
  obtain ⟨tq_170, tf_170, hR_170, ht_170⟩ := hX.2.2.1 (RX1, 170, "of", 2) (List.mem_of_getElem? (i := 17) rfl)
  have hR_170 : vk_R RX1 170 "of" tq_170 s := hR_170
  have ht_170 : txt n0 tq_170 2 tf_170 s := ht_170
  have hl := lv_entry ([.ref rd]) (n := 3) (Nat.le_of_ble_eq_true rfl)
  rw [lg_entry_eq]
  generalize (lg_sl ([.ref rd]) ++ List.replicate (3 - (lg_sl ([.ref rd])).length) Slot.unset).toArray = ls at hl ⊢
  have hl : lv_has ls 3 [(0, .ref rd)] := hl
  refine lv_aload_n hx hb dX1_readRest_0 rfl (lv_at hl 0 rfl) ?_
  have hFc := va_free (wc := [(rd, .inr (0, [.ref tp, .ref sc, .int xf, .int xp, .int xt, .int xa, .int xo, .int xv, .int xj])), (tp, .inr (6, [.ref tb, .int ts])), (tb, .inl (cB, 1200, .inl fb))]) hD hS hA [0, 1, 2] rfl
  refine va_callv (va_runV (As := []) (rest := []) ⟨hx, hb, hml, hown, hts⟩ (kX1_advance l dC dI rd xf xp xt xa xo xv xj tp tb ts cB fb sc (s.heap.size) b_xf b_xp b_xt b_xa b_xo b_ts (by omega)) (cwV 0 hts gX1_readRest__X1_advance_V34 rfl rfl rfl hd_yX1_advance ⟨lel 1 6 rfl, lel 22 128 rfl⟩) ⟨hw_fb, rcv_X1 hK hP (q0 := 0) rfl, (hw_use hP hD hK hN [0, 1, 2] rfl (by decide) rfl [0] rfl)⟩ rfl rfl hl.1 rfl (lv_room (Nat.le_of_ble_eq_true rfl)) dX1_readRest_1 ⟨lel 0 0 rfl, lel 0 0 rfl⟩) hS (fun q _ h => hFc q h) hFc (fun u_50 t H1 locs ht hvm hw_r_49 hB hz1 hk1 hS => ?_)
  obtain ⟨o0_51, o1_52, o2_53, o3_54, b_o0_51, b_o1_52, b_o2_53, hf_55, hP1, hK1, hD1⟩ := hB
  rw [ht] at hP1
  have hK1 := va_K.moved hvm.symm hK1
  obtain ⟨hP, hD⟩ := va_join (wr := [(sc, .inr (3, [.int sn, .int sb, .int si, .int sw, .int ss, .ref en, .ref ki, .ref on, .ref ot])), (ki, .inl (cK, 600, .inl fk)), (on, .inl (cO, 600, .inr (.inl fo))), (ot, .inl (cT, 600, .inr (.inl ft)))]) (w1 := [(rd, .inr (0, [.ref tp, .ref sc, .int xf, .int xp, .int o0_51, .int o1_52, .int o2_53, .int o3_54, .int xj])), (tp, .inr (6, [.ref tb, .int ts])), (tb, .inl (cB, 1200, .inl fb))]) hP hD [0, 1, 2] [3, 4, 5, 6] rfl rfl (by decide) (by decide) hk1 hFc hP1 hD1
  have hK := (hK.sub (tys' := [(cK, .int), (cO, .long), (cT, .long)]) [1, 2, 3] rfl).app hK1
  generalize H1 = H at hP hS ⊢
  have hP := hP.sub (ws' := [(rd, .inr (0, [.ref tp, .ref sc, .int xf, .int xp, .int o0_51, .int o1_52, .int o2_53, .int o3_54, .int xj])), (tp, .inr (6, [.ref tb, .int ts])), (tb, .inl (cB, 1200, .inl fb)), (sc, .inr (3, [.int sn, .int sb, .int si, .int sw, .int ss, .ref en, .ref ki, .ref on, .ref ot])), (ki, .inl (cK, 600, .inl fk)), (on, .inl (cO, 600, .inr (.inl fo))), (ot, .inl (cT, 600, .inr (.inl ft)))]) [4, 5, 6, 0, 1, 2, 3] rfl
  have hD := hD.sub (ws' := [(rd, .inr (0, [.ref tp, .ref sc, .int xf, .int xp, .int o0_51, .int o1_52, .int o2_53, .int o3_54, .int xj])), (tp, .inr (6, [.ref tb, .int ts])), (tb, .inl (cB, 1200, .inl fb)), (sc, .inr (3, [.int sn, .int sb, .int si, .int sw, .int ss, .ref en, .ref ki, .ref on, .ref ot])), (ki, .inl (cK, 600, .inl fk)), (on, .inl (cO, 600, .inr (.inl fo))), (ot, .inl (cT, 600, .inr (.inl ft)))]) [4, 5, 6, 0, 1, 2, 3] (by decide) rfl
  have hK := hK.sub (tys' := [(cB, .byte), (cK, .int), (cO, .long), (cT, .long)]) [3, 0, 1, 2] rfl
  have hP : va_P (dC, dI) vwCl [(rd, .inr (0, [.ref tp, .ref sc, .int xf, .int xp, .int o0_51, .int o1_52, .int o2_53, .int o3_54, .int xj])), (tp, .inr (6, [.ref tb, .int ts])), (tb, .inl (cB, 1200, .inl fb)), (sc, .inr (3, [.int sn, .int sb, .int si, .int sw, .int ss, .ref en, .ref ki, .ref on, .ref ot])), (ki, .inl (cK, 600, .inl fk)), (on, .inl (cO, 600, .inr (.inl fo))), (ot, .inl (cT, 600, .inr (.inl ft)))] H := hP
  have hD : va_D A [(rd, .inr (0, [.ref tp, .ref sc, .int xf, .int xp, .int o0_51, .int o1_52, .int o2_53, .int o3_54, .int xj])), (tp, .inr (6, [.ref tb, .int ts])), (tb, .inl (cB, 1200, .inl fb)), (sc, .inr (3, [.int sn, .int sb, .int si, .int sw, .int ss, .ref en, .ref ki, .ref on, .ref ot])), (ki, .inl (cK, 600, .inl fk)), (on, .inl (cO, 600, .inr (.inl fo))), (ot, .inl (cT, 600, .inr (.inl ft)))] := hD
  have hK : va_K (dC, dI) vwCl [(cB, .byte), (cK, .int), (cO, .long), (cT, .long)] s := hK
  refine lv_aload_n hx hb dX1_readRest_4 rfl (lv_at hl 0 rfl) ?_
  refine lv_iconst (v := 0) hx hb dX1_readRest_5 (by decide) ?_
  refine lv_bipush (v := 19) hx hb dX1_readRest_6 (by decide) ?_
  have hFc := va_free (wc := [(rd, .inr (0, [.ref tp, .ref sc, .int xf, .int xp, .int o0_51, .int o1_52, .int o2_53, .int o3_54, .int xj])), (tp, .inr (6, [.ref tb, .int ts])), (tb, .inl (cB, 1200, .inl fb))]) hD hS hA [0, 1, 2] rfl
  refine va_calli (va_runV (As := [.int 0, .int 19]) (rest := []) ⟨hx, hb, hml, hown, hts⟩ (kX1_passNumber l dC dI rd xf xp o0_51 o1_52 o2_53 o3_54 xj tp tb ts cB fb sc 0 19 (H.size) b_xf b_xp b_o0_51 b_o1_52 b_o2_53 b_ts (by omega)) (cwV 2 hts gX1_readRest__X1_passNumber_V70 rfl rfl rfl hd_yX1_passNumber ⟨lel 2 6 rfl, lel 45 128 rfl⟩) ⟨hw_fb, rcv_X1 hK hP (q0 := 0) rfl, (hw_use hP hD hK hN [0, 1, 2] rfl (by decide) rfl [0] rfl)⟩ rfl rfl hl.1 rfl (lv_room (Nat.le_of_ble_eq_true rfl)) dX1_readRest_8 ⟨lel 0 0 rfl, lel 0 0 rfl⟩) hS (fun q _ h => hFc q h) hFc (fun r_56 u_57 t H1 locs ht hvm hw_r_56 hB hz1 hk1 hS => ?_)
  obtain ⟨hu_r_56, hw_r_56⟩ := hw_r_56
  subst hu_r_56
  obtain ⟨o0_58, o1_59, o2_60, o3_61, o4_62, o5_63, b_o0_58, b_o1_59, b_o2_60, b_o3_61, b_o4_62, hf_64, hf_65, hf_66, hP1, hK1, hD1⟩ := hB
  rw [ht] at hP1
  have hK1 := va_K.moved hvm.symm hK1
  obtain ⟨hP, hD⟩ := va_join (wr := [(sc, .inr (3, [.int sn, .int sb, .int si, .int sw, .int ss, .ref en, .ref ki, .ref on, .ref ot])), (ki, .inl (cK, 600, .inl fk)), (on, .inl (cO, 600, .inr (.inl fo))), (ot, .inl (cT, 600, .inr (.inl ft)))]) (w1 := [(rd, .inr (0, [.ref tp, .ref sc, .int o0_58, .int o1_59, .int o2_60, .int o3_61, .int o4_62, .int o5_63, .int xj])), (tp, .inr (6, [.ref tb, .int ts])), (tb, .inl (cB, 1200, .inl fb))]) hP hD [0, 1, 2] [3, 4, 5, 6] rfl rfl (by decide) (by decide) hk1 hFc hP1 hD1
  have hK := (hK.sub (tys' := [(cK, .int), (cO, .long), (cT, .long)]) [1, 2, 3] rfl).app hK1
  generalize H1 = H at hP hS ⊢
  have hP := hP.sub (ws' := [(rd, .inr (0, [.ref tp, .ref sc, .int o0_58, .int o1_59, .int o2_60, .int o3_61, .int o4_62, .int o5_63, .int xj])), (tp, .inr (6, [.ref tb, .int ts])), (tb, .inl (cB, 1200, .inl fb)), (sc, .inr (3, [.int sn, .int sb, .int si, .int sw, .int ss, .ref en, .ref ki, .ref on, .ref ot])), (ki, .inl (cK, 600, .inl fk)), (on, .inl (cO, 600, .inr (.inl fo))), (ot, .inl (cT, 600, .inr (.inl ft)))]) [4, 5, 6, 0, 1, 2, 3] rfl
  have hD := hD.sub (ws' := [(rd, .inr (0, [.ref tp, .ref sc, .int o0_58, .int o1_59, .int o2_60, .int o3_61, .int o4_62, .int o5_63, .int xj])), (tp, .inr (6, [.ref tb, .int ts])), (tb, .inl (cB, 1200, .inl fb)), (sc, .inr (3, [.int sn, .int sb, .int si, .int sw, .int ss, .ref en, .ref ki, .ref on, .ref ot])), (ki, .inl (cK, 600, .inl fk)), (on, .inl (cO, 600, .inr (.inl fo))), (ot, .inl (cT, 600, .inr (.inl ft)))]) [4, 5, 6, 0, 1, 2, 3] (by decide) rfl
  have hK := hK.sub (tys' := [(cB, .byte), (cK, .int), (cO, .long), (cT, .long)]) [3, 0, 1, 2] rfl
  have hP : va_P (dC, dI) vwCl [(rd, .inr (0, [.ref tp, .ref sc, .int o0_58, .int o1_59, .int o2_60, .int o3_61, .int o4_62, .int o5_63, .int xj])), (tp, .inr (6, [.ref tb, .int ts])), (tb, .inl (cB, 1200, .inl fb)), (sc, .inr (3, [.int sn, .int sb, .int si, .int sw, .int ss, .ref en, .ref ki, .ref on, .ref ot])), (ki, .inl (cK, 600, .inl fk)), (on, .inl (cO, 600, .inr (.inl fo))), (ot, .inl (cT, 600, .inr (.inl ft)))] H := hP
  have hD : va_D A [(rd, .inr (0, [.ref tp, .ref sc, .int o0_58, .int o1_59, .int o2_60, .int o3_61, .int o4_62, .int o5_63, .int xj])), (tp, .inr (6, [.ref tb, .int ts])), (tb, .inl (cB, 1200, .inl fb)), (sc, .inr (3, [.int sn, .int sb, .int si, .int sw, .int ss, .ref en, .ref ki, .ref on, .ref ot])), (ki, .inl (cK, 600, .inl fk)), (on, .inl (cO, 600, .inr (.inl fo))), (ot, .inl (cT, 600, .inr (.inl ft)))] := hD
  have hK : va_K (dC, dI) vwCl [(cB, .byte), (cK, .int), (cO, .long), (cT, .long)] s := hK
  have pr_r_56 := hw_r_56
  have b_r_56 : (0 : Int) ≤ r_56.toInt ∧ r_56.toInt ≤ 19 := by
    have q0 := (by decide : (0 : Int) ≤ (0 : Int32).toInt ∧ (0 : Int32).toInt ≤ 0)
    have q1 := (by decide : (19 : Int) ≤ (19 : Int32).toInt ∧ (19 : Int32).toInt ≤ 19)
    omega
  refine lv_istore_n (lv' := [(1, .int r_56), (0, .ref rd)]) hx hb dX1_readRest_11 rfl hl (by decide) rfl (fun ls hl => ?_)
  refine lv_aload_n hx hb dX1_readRest_12 rfl (lv_at hl 1 rfl) ?_
  refine va_ldcS hx hb hown hR_170 dX1_readRest_13 ?_
  have hFc := va_free (wc := [(rd, .inr (0, [.ref tp, .ref sc, .int o0_58, .int o1_59, .int o2_60, .int o3_61, .int o4_62, .int o5_63, .int xj])), (tp, .inr (6, [.ref tb, .int ts])), (tb, .inl (cB, 1200, .inl fb))]) hD hS hA [0, 1, 2] rfl
  refine va_callv (va_runV (As := [.ref tq_170]) (rest := []) ⟨hx, hb, hml, hown, hts⟩ (kX1_passWord l dC dI rd o0_58 o1_59 o2_60 o3_61 o4_62 o5_63 xj tp tb ts cB fb sc tq_170 2 tf_170 n0 (H.size) b_o0_58 b_o1_59 b_o2_60 b_o3_61 b_o4_62 b_ts (by omega) (by omega)) (cwV 1 hts gX1_readRest__X1_passWord_V64 rfl rfl rfl hd_yX1_passWord ⟨lel 6 6 rfl, lel 128 128 rfl⟩) ⟨hx_fb, rcv_X1 hK hP (q0 := 0) rfl, (hx_use hP hD hK hN hX hS hAn hn0 [0, 1, 2] rfl (by decide) rfl [0] rfl (tts_1 ht_170))⟩ rfl rfl hl.1 rfl (lv_room (Nat.le_of_ble_eq_true rfl)) dX1_readRest_15 ⟨lel 0 0 rfl, lel 0 0 rfl⟩) hS (fun q _ h => hFc q h) hFc (fun u_68 t H1 locs ht hvm hw_r_67 hB hz1 hk1 hS => ?_)
  obtain ⟨o0_69, o1_70, o2_71, o3_72, o4_73, o5_74, b_o0_69, b_o1_70, b_o2_71, b_o3_72, b_o4_73, hf_75, hf_76, hP1, hK1, hD1⟩ := hB
  rw [ht] at hP1
  have hK1 := va_K.moved hvm.symm hK1
  obtain ⟨hP, hD⟩ := va_join (wr := [(sc, .inr (3, [.int sn, .int sb, .int si, .int sw, .int ss, .ref en, .ref ki, .ref on, .ref ot])), (ki, .inl (cK, 600, .inl fk)), (on, .inl (cO, 600, .inr (.inl fo))), (ot, .inl (cT, 600, .inr (.inl ft)))]) (w1 := [(rd, .inr (0, [.ref tp, .ref sc, .int o0_69, .int o1_70, .int o2_71, .int o3_72, .int o4_73, .int o5_74, .int xj])), (tp, .inr (6, [.ref tb, .int ts])), (tb, .inl (cB, 1200, .inl fb))]) hP hD [0, 1, 2] [3, 4, 5, 6] rfl rfl (by decide) (by decide) hk1 hFc hP1 hD1
  have hK := (hK.sub (tys' := [(cK, .int), (cO, .long), (cT, .long)]) [1, 2, 3] rfl).app hK1
  generalize H1 = H at hP hS ⊢
  have hP := hP.sub (ws' := [(rd, .inr (0, [.ref tp, .ref sc, .int o0_69, .int o1_70, .int o2_71, .int o3_72, .int o4_73, .int o5_74, .int xj])), (tp, .inr (6, [.ref tb, .int ts])), (tb, .inl (cB, 1200, .inl fb)), (sc, .inr (3, [.int sn, .int sb, .int si, .int sw, .int ss, .ref en, .ref ki, .ref on, .ref ot])), (ki, .inl (cK, 600, .inl fk)), (on, .inl (cO, 600, .inr (.inl fo))), (ot, .inl (cT, 600, .inr (.inl ft)))]) [4, 5, 6, 0, 1, 2, 3] rfl
  have hD := hD.sub (ws' := [(rd, .inr (0, [.ref tp, .ref sc, .int o0_69, .int o1_70, .int o2_71, .int o3_72, .int o4_73, .int o5_74, .int xj])), (tp, .inr (6, [.ref tb, .int ts])), (tb, .inl (cB, 1200, .inl fb)), (sc, .inr (3, [.int sn, .int sb, .int si, .int sw, .int ss, .ref en, .ref ki, .ref on, .ref ot])), (ki, .inl (cK, 600, .inl fk)), (on, .inl (cO, 600, .inr (.inl fo))), (ot, .inl (cT, 600, .inr (.inl ft)))]) [4, 5, 6, 0, 1, 2, 3] (by decide) rfl
  have hK := hK.sub (tys' := [(cB, .byte), (cK, .int), (cO, .long), (cT, .long)]) [3, 0, 1, 2] rfl
  have hP : va_P (dC, dI) vwCl [(rd, .inr (0, [.ref tp, .ref sc, .int o0_69, .int o1_70, .int o2_71, .int o3_72, .int o4_73, .int o5_74, .int xj])), (tp, .inr (6, [.ref tb, .int ts])), (tb, .inl (cB, 1200, .inl fb)), (sc, .inr (3, [.int sn, .int sb, .int si, .int sw, .int ss, .ref en, .ref ki, .ref on, .ref ot])), (ki, .inl (cK, 600, .inl fk)), (on, .inl (cO, 600, .inr (.inl fo))), (ot, .inl (cT, 600, .inr (.inl ft)))] H := hP
  have hD : va_D A [(rd, .inr (0, [.ref tp, .ref sc, .int o0_69, .int o1_70, .int o2_71, .int o3_72, .int o4_73, .int o5_74, .int xj])), (tp, .inr (6, [.ref tb, .int ts])), (tb, .inl (cB, 1200, .inl fb)), (sc, .inr (3, [.int sn, .int sb, .int si, .int sw, .int ss, .ref en, .ref ki, .ref on, .ref ot])), (ki, .inl (cK, 600, .inl fk)), (on, .inl (cO, 600, .inr (.inl fo))), (ot, .inl (cT, 600, .inr (.inl ft)))] := hD
  have hK : va_K (dC, dI) vwCl [(cB, .byte), (cK, .int), (cO, .long), (cT, .long)] s := hK
  refine lv_aload_n hx hb dX1_readRest_18 rfl (lv_at hl 1 rfl) ?_
  refine lv_iload_n hx hb dX1_readRest_19 rfl (lv_at hl 0 rfl) ?_
  refine lv_iconst (v := 1) hx hb dX1_readRest_20 (by decide) ?_
  refine lv_iadd hx hb dX1_readRest_21 ?_
  refine lv_topi (fun z_77 e_z_77 => ?_)
  obtain ⟨q_z_77, b_z_77⟩ := ti_add (lo := 1) (hi := 20) e_z_77 rfl (by decide : (1 : Int32).toInt = 1) b_r_56 (by decide : (1 : Int) ≤ (1 : Int32).toInt ∧ (1 : Int32).toInt ≤ 1) (by decide)
  refine lv_bipush (v := 20) hx hb dX1_readRest_22 (by decide) ?_
  have hFc := va_free (wc := [(rd, .inr (0, [.ref tp, .ref sc, .int o0_69, .int o1_70, .int o2_71, .int o3_72, .int o4_73, .int o5_74, .int xj])), (tp, .inr (6, [.ref tb, .int ts])), (tb, .inl (cB, 1200, .inl fb))]) hD hS hA [0, 1, 2] rfl
  refine va_calli (va_runV (As := [.int z_77, .int 20]) (rest := []) ⟨hx, hb, hml, hown, hts⟩ (kX1_passNumber l dC dI rd o0_69 o1_70 o2_71 o3_72 o4_73 o5_74 xj tp tb ts cB fb sc z_77 20 (H.size) b_o0_69 b_o1_70 b_o2_71 b_o3_72 b_o4_73 b_ts (by omega)) (cwV 2 hts gX1_readRest__X1_passNumber_V70 rfl rfl rfl hd_yX1_passNumber ⟨lel 2 6 rfl, lel 45 128 rfl⟩) ⟨hw_fb, rcv_X1 hK hP (q0 := 0) rfl, (hw_use hP hD hK hN [0, 1, 2] rfl (by decide) rfl [0] rfl)⟩ rfl rfl hl.1 rfl (lv_room (Nat.le_of_ble_eq_true rfl)) dX1_readRest_24 ⟨lel 0 0 rfl, lel 0 0 rfl⟩) hS (fun q _ h => hFc q h) hFc (fun r_78 u_79 t H1 locs ht hvm hw_r_78 hB hz1 hk1 hS => ?_)
  obtain ⟨hu_r_78, hw_r_78⟩ := hw_r_78
  subst hu_r_78
  obtain ⟨o0_80, o1_81, o2_82, o3_83, o4_84, o5_85, b_o0_80, b_o1_81, b_o2_82, b_o3_83, b_o4_84, hf_86, hf_87, hf_88, hP1, hK1, hD1⟩ := hB
  rw [ht] at hP1
  have hK1 := va_K.moved hvm.symm hK1
  obtain ⟨hP, hD⟩ := va_join (wr := [(sc, .inr (3, [.int sn, .int sb, .int si, .int sw, .int ss, .ref en, .ref ki, .ref on, .ref ot])), (ki, .inl (cK, 600, .inl fk)), (on, .inl (cO, 600, .inr (.inl fo))), (ot, .inl (cT, 600, .inr (.inl ft)))]) (w1 := [(rd, .inr (0, [.ref tp, .ref sc, .int o0_80, .int o1_81, .int o2_82, .int o3_83, .int o4_84, .int o5_85, .int xj])), (tp, .inr (6, [.ref tb, .int ts])), (tb, .inl (cB, 1200, .inl fb))]) hP hD [0, 1, 2] [3, 4, 5, 6] rfl rfl (by decide) (by decide) hk1 hFc hP1 hD1
  have hK := (hK.sub (tys' := [(cK, .int), (cO, .long), (cT, .long)]) [1, 2, 3] rfl).app hK1
  generalize H1 = H at hP hS ⊢
  have hP := hP.sub (ws' := [(rd, .inr (0, [.ref tp, .ref sc, .int o0_80, .int o1_81, .int o2_82, .int o3_83, .int o4_84, .int o5_85, .int xj])), (tp, .inr (6, [.ref tb, .int ts])), (tb, .inl (cB, 1200, .inl fb)), (sc, .inr (3, [.int sn, .int sb, .int si, .int sw, .int ss, .ref en, .ref ki, .ref on, .ref ot])), (ki, .inl (cK, 600, .inl fk)), (on, .inl (cO, 600, .inr (.inl fo))), (ot, .inl (cT, 600, .inr (.inl ft)))]) [4, 5, 6, 0, 1, 2, 3] rfl
  have hD := hD.sub (ws' := [(rd, .inr (0, [.ref tp, .ref sc, .int o0_80, .int o1_81, .int o2_82, .int o3_83, .int o4_84, .int o5_85, .int xj])), (tp, .inr (6, [.ref tb, .int ts])), (tb, .inl (cB, 1200, .inl fb)), (sc, .inr (3, [.int sn, .int sb, .int si, .int sw, .int ss, .ref en, .ref ki, .ref on, .ref ot])), (ki, .inl (cK, 600, .inl fk)), (on, .inl (cO, 600, .inr (.inl fo))), (ot, .inl (cT, 600, .inr (.inl ft)))]) [4, 5, 6, 0, 1, 2, 3] (by decide) rfl
  have hK := hK.sub (tys' := [(cB, .byte), (cK, .int), (cO, .long), (cT, .long)]) [3, 0, 1, 2] rfl
  have hP : va_P (dC, dI) vwCl [(rd, .inr (0, [.ref tp, .ref sc, .int o0_80, .int o1_81, .int o2_82, .int o3_83, .int o4_84, .int o5_85, .int xj])), (tp, .inr (6, [.ref tb, .int ts])), (tb, .inl (cB, 1200, .inl fb)), (sc, .inr (3, [.int sn, .int sb, .int si, .int sw, .int ss, .ref en, .ref ki, .ref on, .ref ot])), (ki, .inl (cK, 600, .inl fk)), (on, .inl (cO, 600, .inr (.inl fo))), (ot, .inl (cT, 600, .inr (.inl ft)))] H := hP
  have hD : va_D A [(rd, .inr (0, [.ref tp, .ref sc, .int o0_80, .int o1_81, .int o2_82, .int o3_83, .int o4_84, .int o5_85, .int xj])), (tp, .inr (6, [.ref tb, .int ts])), (tb, .inl (cB, 1200, .inl fb)), (sc, .inr (3, [.int sn, .int sb, .int si, .int sw, .int ss, .ref en, .ref ki, .ref on, .ref ot])), (ki, .inl (cK, 600, .inl fk)), (on, .inl (cO, 600, .inr (.inl fo))), (ot, .inl (cT, 600, .inr (.inl ft)))] := hD
  have hK : va_K (dC, dI) vwCl [(cB, .byte), (cK, .int), (cO, .long), (cT, .long)] s := hK
  have pr_r_78 := hw_r_78
  have b_r_78 : (0 : Int) ≤ r_78.toInt ∧ r_78.toInt ≤ 20 := by
    have q0 := b_z_77
    have q1 := (by decide : (20 : Int) ≤ (20 : Int32).toInt ∧ (20 : Int32).toInt ≤ 20)
    omega
  refine lv_istore_n (lv' := [(2, .int r_78), (1, .int r_56), (0, .ref rd)]) hx hb dX1_readRest_27 rfl hl (by decide) rfl (fun ls hl => ?_)
  refine lv_aload_n hx hb dX1_readRest_28 rfl (lv_at hl 2 rfl) ?_
  refine va_get (D := (dC, dI)) (ci := 0) (v := .ref sc) (C := RX1) (T := TX1) (N := 9) hx hb hts iX1_readRest_X1 hown hK hP 0 rfl rfl 1 (by decide) (hts (.fieldLink RX1 19 "LuckyTicket$Reader" "script" "LLuckyTicket$Script;") (List.mem_of_getElem? (i := 11) rfl)) (fun _ h9 => h9) rfl dX1_readRest_29 ?_
  refine lv_iconst (v := 5) hx hb dX1_readRest_32 (by decide) ?_
  refine lv_iload_n hx hb dX1_readRest_33 rfl (lv_at hl 1 rfl) ?_
  obtain ⟨z_89, e_z_89⟩ : ∃ y : Int64, y = r_56.toInt64 := ⟨_, rfl⟩
  refine lv_i2l (v := z_89) hx hb dX1_readRest_34 e_z_89.symm ?_
  obtain ⟨q_z_89, b_z_89⟩ := ti_i2l e_z_89 b_r_56
  refine lv_iload_n hx hb dX1_readRest_35 rfl (lv_at hl 0 rfl) ?_
  obtain ⟨z_90, e_z_90⟩ : ∃ y : Int64, y = r_78.toInt64 := ⟨_, rfl⟩
  refine lv_i2l (v := z_90) hx hb dX1_readRest_36 e_z_90.symm ?_
  obtain ⟨q_z_90, b_z_90⟩ := ti_i2l e_z_90 b_r_78
  have hFc := va_free (wc := [(sc, .inr (3, [.int sn, .int sb, .int si, .int sw, .int ss, .ref en, .ref ki, .ref on, .ref ot])), (ki, .inl (cK, 600, .inl fk)), (on, .inl (cO, 600, .inr (.inl fo))), (ot, .inl (cT, 600, .inr (.inl ft)))]) hD hS hA [3, 4, 5, 6] rfl
  refine va_callv (va_runV (As := [.int 5, .long z_89, .long z_90]) (rest := []) ⟨hx, hb, hml, hown, hts⟩ (kX4_add l dC dI sc sn sb si sw ss en ki on ot cK fk cO fo cT ft 5 z_89 z_90 (H.size) b_sn b_sb b_si b_sw b_ss) (cwV 3 hts gX1_readRest__X4_add_V110 rfl rfl rfl hd_yX4_add ⟨lel 1 6 rfl, lel 25 128 rfl⟩) ⟨hw_fb, rcv_X4 hK hP (q0 := 3) rfl, (hw_use hP hD hK hN [3, 4, 5, 6] rfl (by decide) rfl [1, 2, 3] rfl)⟩ rfl rfl hl.1 rfl (lv_room (Nat.le_of_ble_eq_true rfl)) dX1_readRest_37 ⟨lel 0 0 rfl, lel 0 0 rfl⟩) hS (fun q _ h => hFc q h) hFc (fun u_92 t H1 locs ht hvm hw_r_91 hB hz1 hk1 hS => ?_)
  obtain ⟨o0_93, o1_94, o2_95, o3_96, b_o0_93, hP1, hK1, hD1⟩ := hB
  rw [ht] at hP1
  have hK1 := va_K.moved hvm.symm hK1
  obtain ⟨hP, hD⟩ := va_join (wr := [(rd, .inr (0, [.ref tp, .ref sc, .int o0_80, .int o1_81, .int o2_82, .int o3_83, .int o4_84, .int o5_85, .int xj])), (tp, .inr (6, [.ref tb, .int ts])), (tb, .inl (cB, 1200, .inl fb))]) (w1 := [(sc, .inr (3, [.int sn, .int sb, .int si, .int sw, .int o0_93, .ref en, .ref ki, .ref on, .ref ot])), (ki, .inl (cK, 600, .inl o1_94)), (on, .inl (cO, 600, .inr (.inl o2_95))), (ot, .inl (cT, 600, .inr (.inl o3_96)))]) hP hD [3, 4, 5, 6] [0, 1, 2] rfl rfl (by decide) (by decide) hk1 hFc hP1 hD1
  have hK := (hK.sub (tys' := [(cB, .byte)]) [0] rfl).app hK1
  generalize H1 = H at hP hS ⊢
  have hP : va_P (dC, dI) vwCl [(rd, .inr (0, [.ref tp, .ref sc, .int o0_80, .int o1_81, .int o2_82, .int o3_83, .int o4_84, .int o5_85, .int xj])), (tp, .inr (6, [.ref tb, .int ts])), (tb, .inl (cB, 1200, .inl fb)), (sc, .inr (3, [.int sn, .int sb, .int si, .int sw, .int o0_93, .ref en, .ref ki, .ref on, .ref ot])), (ki, .inl (cK, 600, .inl o1_94)), (on, .inl (cO, 600, .inr (.inl o2_95))), (ot, .inl (cT, 600, .inr (.inl o3_96)))] H := hP
  have hD : va_D A [(rd, .inr (0, [.ref tp, .ref sc, .int o0_80, .int o1_81, .int o2_82, .int o3_83, .int o4_84, .int o5_85, .int xj])), (tp, .inr (6, [.ref tb, .int ts])), (tb, .inl (cB, 1200, .inl fb)), (sc, .inr (3, [.int sn, .int sb, .int si, .int sw, .int o0_93, .ref en, .ref ki, .ref on, .ref ot])), (ki, .inl (cK, 600, .inl o1_94)), (on, .inl (cO, 600, .inr (.inl o2_95))), (ot, .inl (cT, 600, .inr (.inl o3_96)))] := hD
  have hK : va_K (dC, dI) vwCl [(cB, .byte), (cK, .int), (cO, .long), (cT, .long)] s := hK
  have hP9 := hP.sub (ws' := [(rd, .inr (0, [.ref tp, .ref sc, .int o0_80, .int o1_81, .int o2_82, .int o3_83, .int o4_84, .int o5_85, .int xj])), (tp, .inr (6, [.ref tb, .int ts])), (tb, .inl (cB, 1200, .inl fb)), (sc, .inr (3, [.int sn, .int sb, .int si, .int sw, .int o0_93, .ref en, .ref ki, .ref on, .ref ot])), (ki, .inl (cK, 600, .inl o1_94)), (on, .inl (cO, 600, .inr (.inl o2_95))), (ot, .inl (cT, 600, .inr (.inl o3_96)))]) [0, 1, 2, 3, 4, 5, 6] rfl
  have hD9 := hD.sub (ws' := [(rd, .inr (0, [.ref tp, .ref sc, .int o0_80, .int o1_81, .int o2_82, .int o3_83, .int o4_84, .int o5_85, .int xj])), (tp, .inr (6, [.ref tb, .int ts])), (tb, .inl (cB, 1200, .inl fb)), (sc, .inr (3, [.int sn, .int sb, .int si, .int sw, .int o0_93, .ref en, .ref ki, .ref on, .ref ot])), (ki, .inl (cK, 600, .inl o1_94)), (on, .inl (cO, 600, .inr (.inl o2_95))), (ot, .inl (cT, 600, .inr (.inl o3_96)))]) [0, 1, 2, 3, 4, 5, 6] (by decide) rfl
  have hK9 := hK.sub (tys' := [(cB, .byte), (cK, .int), (cO, .long), (cT, .long)]) [0, 1, 2, 3] rfl
  exact W.vret hx hb hr (fun t ht hW => ⟨⟨(), rfl, trivial, o0_80, o1_81, o2_82, o3_83, o4_84, o5_85, o0_93, o1_94, o2_95, o3_96, b_o0_80, b_o1_81, b_o2_82, b_o3_83, b_o4_84, b_o0_93, (by omega), by rw [ht]; exact hP9, va_K.moved hW.alike hK9, hD9⟩, hS.F ht⟩) hS.2.2 dX1_readRest_40
theorem dX1_readSide_0 : decode cX1_readSide 0 = .ok (.aload_n 0, 1) := by decide +kernel
theorem dX1_readSide_1 : decode cX1_readSide 1 = .ok (.getfield 19, 3) := by decide +kernel
theorem dX1_readSide_4 : decode cX1_readSide 4 = .ok (.getfield 74, 3) := by decide +kernel
theorem dX1_readSide_7 : decode cX1_readSide 7 = .ok (.istore_n 1, 1) := by decide +kernel
theorem dX1_readSide_8 : decode cX1_readSide 8 = .ok (.lconst 0, 1) := by decide +kernel
theorem dX1_readSide_9 : decode cX1_readSide 9 = .ok (.lstore_n 2, 1) := by decide +kernel
theorem dX1_readSide_10 : decode cX1_readSide 10 = .ok (.iconst 0, 1) := by decide +kernel
theorem dX1_readSide_11 : decode cX1_readSide 11 = .ok (.istore 4, 2) := by decide +kernel
theorem dX1_readSide_13 : decode cX1_readSide 13 = .ok (.iload 4, 2) := by decide +kernel
theorem dX1_readSide_15 : decode cX1_readSide 15 = .ok (.bipush 12, 2) := by decide +kernel
theorem dX1_readSide_17 : decode cX1_readSide 17 = .ok (.if_icmp .gt 103, 3) := by decide +kernel
theorem dX1_readSide_20 : decode cX1_readSide 20 = .ok (.aload_n 0, 1) := by decide +kernel
theorem dX1_readSide_21 : decode cX1_readSide 21 = .ok (.getfield 23, 3) := by decide +kernel
theorem dX1_readSide_24 : decode cX1_readSide 24 = .ok (.ifCond .ne 96, 3) := by decide +kernel
theorem dX1_readSide_27 : decode cX1_readSide 27 = .ok (.iload 4, 2) := by decide +kernel
theorem dX1_readSide_29 : decode cX1_readSide 29 = .ok (.ifCond .eq 11, 3) := by decide +kernel
theorem dX1_readSide_32 : decode cX1_readSide 32 = .ok (.aload_n 0, 1) := by decide +kernel
theorem dX1_readSide_33 : decode cX1_readSide 33 = .ok (.getfield 39, 3) := by decide +kernel
theorem dX1_readSide_36 : decode cX1_readSide 36 = .ok (.iconst 2, 1) := by decide +kernel
theorem dX1_readSide_37 : decode cX1_readSide 37 = .ok (.if_icmp .ne 83, 3) := by decide +kernel
theorem dX1_readSide_40 : decode cX1_readSide 40 = .ok (.aload_n 0, 1) := by decide +kernel
theorem dX1_readSide_41 : decode cX1_readSide 41 = .ok (.getfield 39, 3) := by decide +kernel
theorem dX1_readSide_44 : decode cX1_readSide 44 = .ok (.iconst 2, 1) := by decide +kernel
theorem dX1_readSide_45 : decode cX1_readSide 45 = .ok (.if_icmp .ne 15, 3) := by decide +kernel
theorem dX1_readSide_48 : decode cX1_readSide 48 = .ok (.aload_n 0, 1) := by decide +kernel
theorem dX1_readSide_49 : decode cX1_readSide 49 = .ok (.getfield 172, 3) := by decide +kernel
theorem dX1_readSide_52 : decode cX1_readSide 52 = .ok (.iload_n 1, 1) := by decide +kernel
theorem dX1_readSide_53 : decode cX1_readSide 53 = .ok (.if_icmp .ge 7, 3) := by decide +kernel
theorem dX1_readSide_56 : decode cX1_readSide 56 = .ok (.iconst 1, 1) := by decide +kernel
theorem dX1_readSide_57 : decode cX1_readSide 57 = .ok (.goto 4, 3) := by decide +kernel
theorem dX1_readSide_60 : decode cX1_readSide 60 = .ok (.iconst 0, 1) := by decide +kernel
theorem dX1_readSide_61 : decode cX1_readSide 61 = .ok (.istore 5, 2) := by decide +kernel
theorem dX1_readSide_63 : decode cX1_readSide 63 = .ok (.iload 5, 2) := by decide +kernel
theorem dX1_readSide_65 : decode cX1_readSide 65 = .ok (.ifCond .eq 23, 3) := by decide +kernel
theorem dX1_readSide_68 : decode cX1_readSide 68 = .ok (.lload_n 2, 1) := by decide +kernel
theorem dX1_readSide_69 : decode cX1_readSide 69 = .ok (.iload_n 1, 1) := by decide +kernel
theorem dX1_readSide_70 : decode cX1_readSide 70 = .ok (.aload_n 0, 1) := by decide +kernel
theorem dX1_readSide_71 : decode cX1_readSide 71 = .ok (.getfield 172, 3) := by decide +kernel
theorem dX1_readSide_74 : decode cX1_readSide 74 = .ok (.invokestatic 175, 3) := by decide +kernel
theorem dX1_readSide_77 : decode cX1_readSide 77 = .ok (.land, 1) := by decide +kernel
theorem dX1_readSide_78 : decode cX1_readSide 78 = .ok (.lconst 0, 1) := by decide +kernel
theorem dX1_readSide_79 : decode cX1_readSide 79 = .ok (.lcmp, 1) := by decide +kernel
theorem dX1_readSide_80 : decode cX1_readSide 80 = .ok (.ifCond .eq 8, 3) := by decide +kernel
theorem dX1_readSide_83 : decode cX1_readSide 83 = .ok (.aload_n 0, 1) := by decide +kernel
theorem dX1_readSide_84 : decode cX1_readSide 84 = .ok (.iconst 2, 1) := by decide +kernel
theorem dX1_readSide_85 : decode cX1_readSide 85 = .ok (.invokevirtual 96, 3) := by decide +kernel
theorem dX1_readSide_88 : decode cX1_readSide 88 = .ok (.aload_n 0, 1) := by decide +kernel
theorem dX1_readSide_89 : decode cX1_readSide 89 = .ok (.iconst 0, 1) := by decide +kernel
theorem dX1_readSide_90 : decode cX1_readSide 90 = .ok (.iload_n 1, 1) := by decide +kernel
theorem dX1_readSide_91 : decode cX1_readSide 91 = .ok (.iconst 1, 1) := by decide +kernel
theorem dX1_readSide_92 : decode cX1_readSide 92 = .ok (.isub, 1) := by decide +kernel
theorem dX1_readSide_93 : decode cX1_readSide 93 = .ok (.invokevirtual 70, 3) := by decide +kernel
theorem dX1_readSide_96 : decode cX1_readSide 96 = .ok (.istore 6, 2) := by decide +kernel
theorem dX1_readSide_98 : decode cX1_readSide 98 = .ok (.aload_n 0, 1) := by decide +kernel
theorem dX1_readSide_99 : decode cX1_readSide 99 = .ok (.getfield 23, 3) := by decide +kernel
theorem dX1_readSide_102 : decode cX1_readSide 102 = .ok (.ifCond .ne 12, 3) := by decide +kernel
theorem dX1_readSide_105 : decode cX1_readSide 105 = .ok (.lload_n 2, 1) := by decide +kernel
theorem dX1_readSide_106 : decode cX1_readSide 106 = .ok (.iload_n 1, 1) := by decide +kernel
theorem dX1_readSide_107 : decode cX1_readSide 107 = .ok (.iload 6, 2) := by decide +kernel
theorem dX1_readSide_109 : decode cX1_readSide 109 = .ok (.invokestatic 175, 3) := by decide +kernel
theorem dX1_readSide_112 : decode cX1_readSide 112 = .ok (.lor, 1) := by decide +kernel
theorem dX1_readSide_113 : decode cX1_readSide 113 = .ok (.lstore_n 2, 1) := by decide +kernel
theorem dX1_readSide_114 : decode cX1_readSide 114 = .ok (.iinc 4 1, 3) := by decide +kernel
theorem dX1_readSide_117 : decode cX1_readSide 117 = .ok (.goto (-104), 3) := by decide +kernel
theorem dX1_readSide_120 : decode cX1_readSide 120 = .ok (.lload_n 2, 1) := by decide +kernel
theorem dX1_readSide_121 : decode cX1_readSide 121 = .ok (.lreturn, 1) := by decide +kernel
theorem hd_yX1_readSide : yX1_readSide.cls = RX1 ∧ yX1_readSide.cls ≠ "java/lang/invoke/MethodHandle" ∧ yX1_readSide.cls ≠ "java/lang/invoke/VarHandle" ∧ (parseMethodDescriptor yX1_readSide.desc).map (fun d => d.parameters.length) = some 0 := by decide +kernel
def uX1_readSide : List Cond := List.cons (.code yX1_readSide cX1_readSide 7 (some .long)) (HAppend.hAppend ([.fieldLink RX1 19 "LuckyTicket$Reader" "script" "LLuckyTicket$Script;", .fieldLink RX1 23 "LuckyTicket$Reader" "fault" "I", .fieldLink RX1 39 "LuckyTicket$Reader" "token" "I", .fieldLink RX1 172 "LuckyTicket$Reader" "value" "I", .methodLink RX1 175 yX0_maskAt, .static yX0_maskAt, .initialized RX0, .methodLink RX1 96 yX1_refuse, .instanceMethod yX1_refuse, .selects RX1 yX1_refuse yX1_refuse, .initialized RX1, .methodLink RX1 70 yX1_passNumber, .instanceMethod yX1_passNumber, .selects RX1 yX1_passNumber yX1_passNumber] : List Cond) (HAppend.hAppend uX0_maskAt (HAppend.hAppend uX1_refuse (HAppend.hAppend uX1_passNumber (HAppend.hAppend wsX10 wsX40)))))
theorem iX1_readSide_X1 : ∀ w ∈ wsX10, w ∈ uX1_readSide := fun _ h => (List.mem_cons_of_mem _ (List.mem_append_right _ (List.mem_append_right _ (List.mem_append_right _ (List.mem_append_right _ (List.mem_append_left _ h))))))
theorem iX1_readSide_X4 : ∀ w ∈ wsX40, w ∈ uX1_readSide := fun _ h => (List.mem_cons_of_mem _ (List.mem_append_right _ (List.mem_append_right _ (List.mem_append_right _ (List.mem_append_right _ (List.mem_append_right _ h))))))
theorem guX1_readSide : GU uX1_readSide := gu_cons (gu_app (by decide +kernel) (gu_ap guX0_maskAt (gu_ap guX1_refuse (gu_ap guX1_passNumber (gu_ap gws_X1 gws_X4)))))
theorem gX1_readSide__X0_maskAt_S175 : GoodIn uX1_readSide (va_wsS RX1 175 yX0_maskAt uX0_maskAt) := gin_S (List.mem_of_getElem? (i := 5) rfl) (List.mem_of_getElem? (i := 6) rfl) (List.mem_of_getElem? (i := 7) rfl) (fun _ h => (List.mem_cons_of_mem _ (List.mem_append_right _ (List.mem_append_left _ h)))) guX0_maskAt
theorem gX1_readSide__X1_refuse_V96 : GoodIn uX1_readSide (wsV RX1 96 RX1 yX1_refuse uX1_refuse) := gin_V (List.mem_of_getElem? (i := 8) rfl) (List.mem_of_getElem? (i := 9) rfl) (List.mem_of_getElem? (i := 10) rfl) (List.mem_of_getElem? (i := 11) rfl) (fun _ h => (List.mem_cons_of_mem _ (List.mem_append_right _ (List.mem_append_right _ (List.mem_append_left _ h))))) guX1_refuse
theorem gX1_readSide__X1_passNumber_V70 : GoodIn uX1_readSide (wsV RX1 70 RX1 yX1_passNumber uX1_passNumber) := gin_V (List.mem_of_getElem? (i := 12) rfl) (List.mem_of_getElem? (i := 13) rfl) (List.mem_of_getElem? (i := 14) rfl) (List.mem_of_getElem? (i := 11) rfl) (fun _ h => (List.mem_cons_of_mem _ (List.mem_append_right _ (List.mem_append_right _ (List.mem_append_right _ (List.mem_append_left _ h)))))) guX1_passNumber
set_option maxHeartbeats 4000000 in
set_option maxRecDepth 100000 in
theorem kX1_readSide (l : Launch) (dC : Nat → ClassId) (dI : Nat → Nat → Nat) (rd : Nat) (xf : Int32) (xp : Int32) (xt : Int32) (xa : Int32) (xo : Int32) (xv : Int32) (xj : Int32) (tp : Nat) (tb : Nat) (ts : Int32) (cB : ClassId) (fb : Nat → Int32) (sc : Nat) (sn : Int32) (sb : Int32) (si : Int32) (sw : Int32) (ss : Int32) (en : Nat) (ki : Nat) (on : Nat) (ot : Nat) (sz : Nat) (b_xf : (0 : Int) ≤ xf.toInt ∧ xf.toInt ≤ 3) (b_xp : (-1 : Int) ≤ xp.toInt ∧ xp.toInt ≤ 1200) (b_xt : (0 : Int) ≤ xt.toInt ∧ xt.toInt ≤ 4) (b_xa : (0 : Int) ≤ xa.toInt ∧ xa.toInt ≤ 1200) (b_xo : (0 : Int) ≤ xo.toInt ∧ xo.toInt ≤ 1200) (b_ts : (0 : Int) ≤ ts.toInt ∧ ts.toInt ≤ 1200) (b_sn : (0 : Int) ≤ sn.toInt ∧ sn.toInt ≤ 12) (b_sb : (0 : Int) ≤ sb.toInt ∧ sb.toInt ≤ 16) (b_si : (0 : Int) ≤ si.toInt ∧ si.toInt ≤ 1300) (b_sw : (0 : Int) ≤ sw.toInt ∧ sw.toInt ≤ 9) (b_ss : (0 : Int) ≤ ss.toInt ∧ ss.toInt ≤ 600) (hrd : xa.toInt ≤ xo.toInt) : Met l yX1_readSide uX1_readSide ({ frames := 2, cells := 0, slots := 0, locals := 45 }) (va_Pc [.ref rd] (hw (dC, dI) vwCl [(rd, .inr (0, [.ref tp, .ref sc, .int xf, .int xp, .int xt, .int xa, .int xo, .int xv, .int xj])), (tp, .inr (6, [.ref tb, .int ts])), (tb, .inl (cB, 1200, .inl fb)), (sc, .inr (3, [.int sn, .int sb, .int si, .int sw, .int ss, .ref en, .ref ki, .ref on, .ref ot]))] [(cB, .byte)] sz)) (va_Ql (fun (r : Int64) (_ : Unit) => True) (fun (_ : Unit) t => ∃ (o0_ : Int32) (o1_ : Int32) (o2_ : Int32) (o3_ : Int32) (o4_ : Int32) (o5_ : Int32), ((0 : Int) ≤ o0_.toInt ∧ o0_.toInt ≤ 3) ∧ ((-1 : Int) ≤ o1_.toInt ∧ o1_.toInt ≤ 1200) ∧ ((0 : Int) ≤ o2_.toInt ∧ o2_.toInt ≤ 4) ∧ ((0 : Int) ≤ o3_.toInt ∧ o3_.toInt ≤ 1200) ∧ ((0 : Int) ≤ o4_.toInt ∧ o4_.toInt ≤ 1200) ∧ (o3_.toInt ≤ o4_.toInt) ∧ va_P (dC, dI) vwCl [(rd, .inr (0, [.ref tp, .ref sc, .int o0_, .int o1_, .int o2_, .int o3_, .int o4_, .int o5_, .int xj])), (tp, .inr (6, [.ref tb, .int ts])), (tb, .inl (cB, 1200, .inl fb)), (sc, .inr (3, [.int sn, .int sb, .int si, .int sw, .int ss, .ref en, .ref ki, .ref on, .ref ot]))] t.heap ∧ va_K (dC, dI) vwCl [(cB, .byte)] t ∧ va_D (va_A [(rd, .inr (0, [.ref tp, .ref sc, .int xf, .int xp, .int xt, .int xa, .int xo, .int xv, .int xj])), (tp, .inr (6, [.ref tb, .int ts])), (tb, .inl (cB, 1200, .inl fb)), (sc, .inr (3, [.int sn, .int sb, .int si, .int sw, .int ss, .ref en, .ref ki, .ref on, .ref ot]))] sz) [(rd, .inr (0, [.ref tp, .ref sc, .int o0_, .int o1_, .int o2_, .int o3_, .int o4_, .int o5_, .int xj])), (tp, .inr (6, [.ref tb, .int ts])), (tb, .inl (cB, 1200, .inl fb)), (sc, .inr (3, [.int sn, .int sb, .int si, .int sw, .int ss, .ref en, .ref ki, .ref on, .ref ot]))]) (va_A [(rd, .inr (0, [.ref tp, .ref sc, .int xf, .int xp, .int xt, .int xa, .int xo, .int xv, .int xj])), (tp, .inr (6, [.ref tb, .int ts])), (tb, .inl (cB, 1200, .inl fb)), (sc, .inr (3, [.int sn, .int sb, .int si, .int sw, .int ss, .ref en, .ref ki, .ref on, .ref ot]))] sz)) 0 0 (va_A [(rd, .inr (0, [.ref tp, .ref sc, .int xf, .int xp, .int xt, .int xa, .int xo, .int xv, .int xj])), (tp, .inr (6, [.ref tb, .int ts])), (tb, .inl (cB, 1200, .inl fb)), (sc, .inr (3, [.int sn, .int sb, .int si, .int sw, .int ss, .ref en, .ref ki, .ref on, .ref ot]))] sz) := by
  refine Met.ofW (cc := cX1_readSide) (maxL := 7) (ret := (some .long)) pn_X1 rfl ?_
  intro p e s m args below meth c s₁ B hml hv
  obtain ⟨rfl, hsz, hP, hK, hD0, hN⟩ := hv
  have hx := B.exec
  have hb := B.bytes
  have hr := B.returns
  have hts := atoms_spec (ws := uX1_readSide) B.pre
  have hown : s.vm.findClass RX1 = some m.cls := hown_of B.named rfl
  have hlocks := B.notSynchronized
  subst hsz
  have hD := hD0.self (sz := s.heap.size)
  generalize hAe : va_A [(rd, .inr (0, [.ref tp, .ref sc, .int xf, .int xp, .int xt, .int xa, .int xo, .int xv, .int xj])), (tp, .inr (6, [.ref tb, .int ts])), (tb, .inl (cB, 1200, .inl fb)), (sc, .inr (3, [.int sn, .int sb, .int si, .int sw, .int ss, .ref en, .ref ki, .ref on, .ref ot]))] s.heap.size = A at hD ⊢
  have hA : ∀ q : Nat, s.heap.size ≤ q → A q := fun q h => by rw [← hAe]; exact Or.inr h
  have hS : va_S A s.heap s.heap [] := va_S.rf
  have hP : va_P (dC, dI) vwCl [(rd, .inr (0, [.ref tp, .ref sc, .int xf, .int xp, .int xt, .int xa, .int xo, .int xv, .int xj])), (tp, .inr (6, [.ref tb, .int ts])), (tb, .inl (cB, 1200, .inl fb)), (sc, .inr (3, [.int sn, .int sb, .int si, .int sw, .int ss, .ref en, .ref ki, .ref on, .ref ot]))] s.heap := hP
  have hl := lv_entry ([.ref rd]) (n := 7) (Nat.le_of_ble_eq_true rfl)
  rw [lg_entry_eq]
  generalize (lg_sl ([.ref rd]) ++ List.replicate (7 - (lg_sl ([.ref rd])).length) Slot.unset).toArray = ls at hl ⊢
  have hl : lv_has ls 7 [(0, .ref rd)] := hl
  refine lv_aload_n hx hb dX1_readSide_0 rfl (lv_at hl 0 rfl) ?_
  refine va_get (D := (dC, dI)) (ci := 0) (v := .ref sc) (C := RX1) (T := TX1) (N := 9) hx hb hts iX1_readSide_X1 hown hK hP 0 rfl rfl 1 (by decide) (hts (.fieldLink RX1 19 "LuckyTicket$Reader" "script" "LLuckyTicket$Script;") (List.mem_of_getElem? (i := 1) rfl)) (fun _ h9 => h9) rfl dX1_readSide_1 ?_
  refine va_getN (own := RX1) (index := 74) (ref := RX4) (host := RX9) (D := (dC, dI)) (ci := 3) (v := .int sn) (C := RX4) (T := TX4) (N := 9) hx hb hts iX1_readSide_X4 hown hK hP 3 rfl rfl 0 (by decide) (va_Nw.use rfl (hN _ (List.mem_of_getElem? (i := 4) rfl))) (fun _ h9 => h9) rfl dX1_readSide_4 ?_
  refine lv_istore_n (lv' := [(1, .int sn), (0, .ref rd)]) hx hb dX1_readSide_7 rfl hl (by decide) rfl (fun ls hl => ?_)
  refine lv_lconst (v := 0) hx hb dX1_readSide_8 (by decide) ?_
  refine lv_lstore_n (lv' := [(2, .long 0), (1, .int sn), (0, .ref rd)]) hx hb dX1_readSide_9 rfl hl (by decide) rfl (fun ls hl => ?_)
  refine lv_iconst (v := 0) hx hb dX1_readSide_10 (by decide) ?_
  refine lv_istore (lv' := [(4, .int 0), (2, .long 0), (1, .int sn), (0, .ref rd)]) hx hb dX1_readSide_11 hl (by decide) rfl (fun ls hl => ?_)
  refine loopW (σ := Int32 × Int64 × Int32 × Int32 × Int32 × Int32 × Int32 × Int32) (fun v => (13 - v.1.toInt).toNat) (fun v H locs ls => ((0 : Int) ≤ v.1.toInt ∧ v.1.toInt ≤ 13) ∧ ((0 : Int) ≤ v.2.2.1.toInt ∧ v.2.2.1.toInt ≤ 3) ∧ ((-1 : Int) ≤ v.2.2.2.1.toInt ∧ v.2.2.2.1.toInt ≤ 1200) ∧ ((0 : Int) ≤ v.2.2.2.2.1.toInt ∧ v.2.2.2.2.1.toInt ≤ 4) ∧ ((0 : Int) ≤ v.2.2.2.2.2.1.toInt ∧ v.2.2.2.2.2.1.toInt ≤ 1200) ∧ ((0 : Int) ≤ v.2.2.2.2.2.2.1.toInt ∧ v.2.2.2.2.2.2.1.toInt ≤ 1200) ∧ (v.2.2.2.2.2.1.toInt ≤ v.2.2.2.2.2.2.1.toInt) ∧ va_P (dC, dI) vwCl [(rd, .inr (0, [.ref tp, .ref sc, .int v.2.2.1, .int v.2.2.2.1, .int v.2.2.2.2.1, .int v.2.2.2.2.2.1, .int v.2.2.2.2.2.2.1, .int v.2.2.2.2.2.2.2, .int xj])), (tp, .inr (6, [.ref tb, .int ts])), (tb, .inl (cB, 1200, .inl fb)), (sc, .inr (3, [.int sn, .int sb, .int si, .int sw, .int ss, .ref en, .ref ki, .ref on, .ref ot]))] H ∧ va_D A [(rd, .inr (0, [.ref tp, .ref sc, .int v.2.2.1, .int v.2.2.2.1, .int v.2.2.2.2.1, .int v.2.2.2.2.2.1, .int v.2.2.2.2.2.2.1, .int v.2.2.2.2.2.2.2, .int xj])), (tp, .inr (6, [.ref tb, .int ts])), (tb, .inl (cB, 1200, .inl fb)), (sc, .inr (3, [.int sn, .int sb, .int si, .int sw, .int ss, .ref en, .ref ki, .ref on, .ref ot]))] ∧ va_S A s.heap H locs ∧ lv_has ls 7 [(4, .int v.1), (2, .long v.2.1), (1, .int sn), (0, .ref rd)]) (fun v H locs ls hI ih_13_1111 => ?_) ((0 : Int32), (0 : Int64), xf, xp, xt, xa, xo, xv) ⟨(show (0 : Int) ≤ (0 : Int32).toInt ∧ (0 : Int32).toInt ≤ 13 from (rg_w (by decide : (0 : Int) ≤ (0 : Int32).toInt ∧ (0 : Int32).toInt ≤ 0) (by decide) (by decide))), (show (0 : Int) ≤ xf.toInt ∧ xf.toInt ≤ 3 from b_xf), (show (-1 : Int) ≤ xp.toInt ∧ xp.toInt ≤ 1200 from b_xp), (show (0 : Int) ≤ xt.toInt ∧ xt.toInt ≤ 4 from b_xt), (show (0 : Int) ≤ xa.toInt ∧ xa.toInt ≤ 1200 from b_xa), (show (0 : Int) ≤ xo.toInt ∧ xo.toInt ≤ 1200 from b_xo), (show xa.toInt ≤ xo.toInt from (by have zl : (0 : Int32).toInt = 0 := (by decide); omega)), hP, hD, hS, lv_sub hl [0, 1, 2, 3] rfl⟩
  obtain ⟨y_649, y_650, y_651, y_652, y_653, y_654, y_655, y_656⟩ := v
  obtain ⟨b_y_649, b_y_651, b_y_652, b_y_653, b_y_654, b_y_655, hrs, hP, hD, hS, hl⟩ := hI
  have b_y_649 : (0 : Int) ≤ y_649.toInt ∧ y_649.toInt ≤ 13 := b_y_649
  have b_y_651 : (0 : Int) ≤ y_651.toInt ∧ y_651.toInt ≤ 3 := b_y_651
  have b_y_652 : (-1 : Int) ≤ y_652.toInt ∧ y_652.toInt ≤ 1200 := b_y_652
  have b_y_653 : (0 : Int) ≤ y_653.toInt ∧ y_653.toInt ≤ 4 := b_y_653
  have b_y_654 : (0 : Int) ≤ y_654.toInt ∧ y_654.toInt ≤ 1200 := b_y_654
  have b_y_655 : (0 : Int) ≤ y_655.toInt ∧ y_655.toInt ≤ 1200 := b_y_655
  have hrs : y_654.toInt ≤ y_655.toInt := hrs
  have hP : va_P (dC, dI) vwCl [(rd, .inr (0, [.ref tp, .ref sc, .int y_651, .int y_652, .int y_653, .int y_654, .int y_655, .int y_656, .int xj])), (tp, .inr (6, [.ref tb, .int ts])), (tb, .inl (cB, 1200, .inl fb)), (sc, .inr (3, [.int sn, .int sb, .int si, .int sw, .int ss, .ref en, .ref ki, .ref on, .ref ot]))] H := hP
  have hD : va_D A [(rd, .inr (0, [.ref tp, .ref sc, .int y_651, .int y_652, .int y_653, .int y_654, .int y_655, .int y_656, .int xj])), (tp, .inr (6, [.ref tb, .int ts])), (tb, .inl (cB, 1200, .inl fb)), (sc, .inr (3, [.int sn, .int sb, .int si, .int sw, .int ss, .ref en, .ref ki, .ref on, .ref ot]))] := hD
  have hl : lv_has ls 7 [(4, .int y_649), (2, .long y_650), (1, .int sn), (0, .ref rd)] := hl
  refine lv_iload hx hb dX1_readSide_13 (lv_at hl 0 rfl) ?_
  refine lv_bipush (v := 12) hx hb dX1_readSide_15 (by decide) ?_
  refine lv_icmp_gt (tgt := 120) hx hb dX1_readSide_17 (by decide) (fun c_1112 => ?_) (fun c_1112 => ?_)
  ·
    have n_c_1112 : (12 : Int) < y_649.toInt := c_gt rfl (by decide) c_1112
    have b_y_649 : (13 : Int) ≤ y_649.toInt ∧ y_649.toInt ≤ 13 := r_lt2 (by decide : (12 : Int) ≤ (12 : Int32).toInt ∧ (12 : Int32).toInt ≤ 12) b_y_649 n_c_1112 (by decide)
    refine lv_lload_n hx hb dX1_readSide_120 rfl (lv_at hl 1 rfl) ?_
    have hP9 := hP.sub (ws' := [(rd, .inr (0, [.ref tp, .ref sc, .int y_651, .int y_652, .int y_653, .int y_654, .int y_655, .int y_656, .int xj])), (tp, .inr (6, [.ref tb, .int ts])), (tb, .inl (cB, 1200, .inl fb)), (sc, .inr (3, [.int sn, .int sb, .int si, .int sw, .int ss, .ref en, .ref ki, .ref on, .ref ot]))]) [0, 1, 2, 3] rfl
    have hD9 := hD.sub (ws' := [(rd, .inr (0, [.ref tp, .ref sc, .int y_651, .int y_652, .int y_653, .int y_654, .int y_655, .int y_656, .int xj])), (tp, .inr (6, [.ref tb, .int ts])), (tb, .inl (cB, 1200, .inl fb)), (sc, .inr (3, [.int sn, .int sb, .int si, .int sw, .int ss, .ref en, .ref ki, .ref on, .ref ot]))]) [0, 1, 2, 3] (by decide) rfl
    have hK9 := hK.sub (tys' := [(cB, .byte)]) [0] rfl
    exact W.lret (v := y_650) hx hb hr (fun t ht hW => ⟨⟨y_650, (), rfl, trivial, y_651, y_652, y_653, y_654, y_655, y_656, b_y_651, b_y_652, b_y_653, b_y_654, b_y_655, (by omega), by rw [ht]; exact hP9, va_K.moved hW.alike hK9, hD9⟩, hS.F ht⟩) hS.2.2 dX1_readSide_121
  ·
    have n_c_1112 : (y_649.toInt : Int) ≤ 12 := c_ngt rfl (by decide) c_1112
    have b_y_649 : (0 : Int) ≤ y_649.toInt ∧ y_649.toInt ≤ 12 := r_le1 b_y_649 (by decide : (12 : Int) ≤ (12 : Int32).toInt ∧ (12 : Int32).toInt ≤ 12) n_c_1112 (by decide)
    refine lv_aload_n hx hb dX1_readSide_20 rfl (lv_at hl 3 rfl) ?_
    refine va_get (D := (dC, dI)) (ci := 0) (v := .int y_651) (C := RX1) (T := TX1) (N := 9) hx hb hts iX1_readSide_X1 hown hK hP 0 rfl rfl 2 (by decide) (hts (.fieldLink RX1 23 "LuckyTicket$Reader" "fault" "I") (List.mem_of_getElem? (i := 2) rfl)) (fun _ h9 => h9) rfl dX1_readSide_21 ?_
    refine lv_if_ne (tgt := 120) hx hb dX1_readSide_24 (by decide) (fun c_1113 => ?_) (fun c_1113 => ?_)
    ·
      have n_c_1113 : (y_651.toInt : Int) ≠ 0 := c_ne rfl (by decide) c_1113
      have b_y_651 : (1 : Int) ≤ y_651.toInt ∧ y_651.toInt ≤ 3 := r_ne1 b_y_651 (by decide : (0 : Int) ≤ (0 : Int32).toInt ∧ (0 : Int32).toInt ≤ 0) n_c_1113 (by decide)
      refine lv_lload_n hx hb dX1_readSide_120 rfl (lv_at hl 1 rfl) ?_
      have hP9 := hP.sub (ws' := [(rd, .inr (0, [.ref tp, .ref sc, .int y_651, .int y_652, .int y_653, .int y_654, .int y_655, .int y_656, .int xj])), (tp, .inr (6, [.ref tb, .int ts])), (tb, .inl (cB, 1200, .inl fb)), (sc, .inr (3, [.int sn, .int sb, .int si, .int sw, .int ss, .ref en, .ref ki, .ref on, .ref ot]))]) [0, 1, 2, 3] rfl
      have hD9 := hD.sub (ws' := [(rd, .inr (0, [.ref tp, .ref sc, .int y_651, .int y_652, .int y_653, .int y_654, .int y_655, .int y_656, .int xj])), (tp, .inr (6, [.ref tb, .int ts])), (tb, .inl (cB, 1200, .inl fb)), (sc, .inr (3, [.int sn, .int sb, .int si, .int sw, .int ss, .ref en, .ref ki, .ref on, .ref ot]))]) [0, 1, 2, 3] (by decide) rfl
      have hK9 := hK.sub (tys' := [(cB, .byte)]) [0] rfl
      exact W.lret (v := y_650) hx hb hr (fun t ht hW => ⟨⟨y_650, (), rfl, trivial, y_651, y_652, y_653, y_654, y_655, y_656, (rg_w b_y_651 (by decide) (by decide)), b_y_652, b_y_653, b_y_654, b_y_655, (by omega), by rw [ht]; exact hP9, va_K.moved hW.alike hK9, hD9⟩, hS.F ht⟩) hS.2.2 dX1_readSide_121
    ·
      have n_c_1113 : (y_651.toInt : Int) = 0 := c_eq rfl (by decide) c_1113
      have b_y_651 : (0 : Int) ≤ y_651.toInt ∧ y_651.toInt ≤ 0 := r_eq1 b_y_651 (by decide : (0 : Int) ≤ (0 : Int32).toInt ∧ (0 : Int32).toInt ≤ 0) n_c_1113 (by decide)
      refine lv_iload hx hb dX1_readSide_27 (lv_at hl 0 rfl) ?_
      refine lv_if_eq (tgt := 40) hx hb dX1_readSide_29 (by decide) (fun c_1114 => ?_) (fun c_1114 => ?_)
      ·
        have n_c_1114 : (y_649.toInt : Int) = 0 := c_eq rfl (by decide) c_1114
        have b_y_649 : (0 : Int) ≤ y_649.toInt ∧ y_649.toInt ≤ 0 := r_eq1 b_y_649 (by decide : (0 : Int) ≤ (0 : Int32).toInt ∧ (0 : Int32).toInt ≤ 0) n_c_1114 (by decide)
        refine lv_aload_n hx hb dX1_readSide_40 rfl (lv_at hl 3 rfl) ?_
        refine va_get (D := (dC, dI)) (ci := 0) (v := .int y_653) (C := RX1) (T := TX1) (N := 9) hx hb hts iX1_readSide_X1 hown hK hP 0 rfl rfl 4 (by decide) (hts (.fieldLink RX1 39 "LuckyTicket$Reader" "token" "I") (List.mem_of_getElem? (i := 3) rfl)) (fun _ h9 => h9) rfl dX1_readSide_41 ?_
        refine lv_iconst (v := 2) hx hb dX1_readSide_44 (by decide) ?_
        refine cutW (σ := Int32) (pc2 := 61) (st2 := fun v => [.int v]) (cells2 := 0) (slots2 := 0) (fun v H locs ls => ((0 : Int) ≤ v.toInt ∧ v.toInt ≤ 1) ∧ va_P (dC, dI) vwCl [(rd, .inr (0, [.ref tp, .ref sc, .int y_651, .int y_652, .int y_653, .int y_654, .int y_655, .int y_656, .int xj])), (tp, .inr (6, [.ref tb, .int ts])), (tb, .inl (cB, 1200, .inl fb)), (sc, .inr (3, [.int sn, .int sb, .int si, .int sw, .int ss, .ref en, .ref ki, .ref on, .ref ot]))] H ∧ va_D A [(rd, .inr (0, [.ref tp, .ref sc, .int y_651, .int y_652, .int y_653, .int y_654, .int y_655, .int y_656, .int xj])), (tp, .inr (6, [.ref tb, .int ts])), (tb, .inl (cB, 1200, .inl fb)), (sc, .inr (3, [.int sn, .int sb, .int si, .int sw, .int ss, .ref en, .ref ki, .ref on, .ref ot]))] ∧ va_S A s.heap H locs ∧ lv_has ls 7 [(4, .int y_649), (2, .long y_650), (1, .int sn), (0, .ref rd)]) (fun v H locs ls hI => ?_) (fun hj_61_1117 => ?_)
        ·
          obtain ⟨y_1117, rfl⟩ : ∃ z, z = v := ⟨_, rfl⟩
          obtain ⟨b_y_1117, hP, hD, hS, hl⟩ := hI
          have b_y_1117 : (0 : Int) ≤ y_1117.toInt ∧ y_1117.toInt ≤ 1 := b_y_1117
          have hP : va_P (dC, dI) vwCl [(rd, .inr (0, [.ref tp, .ref sc, .int y_651, .int y_652, .int y_653, .int y_654, .int y_655, .int y_656, .int xj])), (tp, .inr (6, [.ref tb, .int ts])), (tb, .inl (cB, 1200, .inl fb)), (sc, .inr (3, [.int sn, .int sb, .int si, .int sw, .int ss, .ref en, .ref ki, .ref on, .ref ot]))] H := hP
          have hD : va_D A [(rd, .inr (0, [.ref tp, .ref sc, .int y_651, .int y_652, .int y_653, .int y_654, .int y_655, .int y_656, .int xj])), (tp, .inr (6, [.ref tb, .int ts])), (tb, .inl (cB, 1200, .inl fb)), (sc, .inr (3, [.int sn, .int sb, .int si, .int sw, .int ss, .ref en, .ref ki, .ref on, .ref ot]))] := hD
          have hl : lv_has ls 7 [(4, .int y_649), (2, .long y_650), (1, .int sn), (0, .ref rd)] := hl
          refine lv_istore (lv' := [(5, .int y_1117), (4, .int y_649), (2, .long y_650), (1, .int sn), (0, .ref rd)]) hx hb dX1_readSide_61 hl (by decide) rfl (fun ls hl => ?_)
          refine lv_iload hx hb dX1_readSide_63 (lv_at hl 0 rfl) ?_
          refine cutW (σ := Int32 × Int32) (pc2 := 88) (st2 := fun v => []) (cells2 := 0) (slots2 := 0) (fun v H locs ls => ((0 : Int) ≤ v.1.toInt ∧ v.1.toInt ≤ 3) ∧ ((-1 : Int) ≤ v.2.toInt ∧ v.2.toInt ≤ 1200) ∧ va_P (dC, dI) vwCl [(rd, .inr (0, [.ref tp, .ref sc, .int v.1, .int v.2, .int y_653, .int y_654, .int y_655, .int y_656, .int xj])), (tp, .inr (6, [.ref tb, .int ts])), (tb, .inl (cB, 1200, .inl fb)), (sc, .inr (3, [.int sn, .int sb, .int si, .int sw, .int ss, .ref en, .ref ki, .ref on, .ref ot]))] H ∧ va_D A [(rd, .inr (0, [.ref tp, .ref sc, .int v.1, .int v.2, .int y_653, .int y_654, .int y_655, .int y_656, .int xj])), (tp, .inr (6, [.ref tb, .int ts])), (tb, .inl (cB, 1200, .inl fb)), (sc, .inr (3, [.int sn, .int sb, .int si, .int sw, .int ss, .ref en, .ref ki, .ref on, .ref ot]))] ∧ va_S A s.heap H locs ∧ lv_has ls 7 [(5, .int y_1117), (4, .int y_649), (2, .long y_650), (1, .int sn), (0, .ref rd)]) (fun v H locs ls hI => ?_) (fun hj_88_1129 => ?_)
          ·
            obtain ⟨y_1128, y_1129⟩ := v
            obtain ⟨b_y_1128, b_y_1129, hP, hD, hS, hl⟩ := hI
            have b_y_1128 : (0 : Int) ≤ y_1128.toInt ∧ y_1128.toInt ≤ 3 := b_y_1128
            have b_y_1129 : (-1 : Int) ≤ y_1129.toInt ∧ y_1129.toInt ≤ 1200 := b_y_1129
            have hP : va_P (dC, dI) vwCl [(rd, .inr (0, [.ref tp, .ref sc, .int y_1128, .int y_1129, .int y_653, .int y_654, .int y_655, .int y_656, .int xj])), (tp, .inr (6, [.ref tb, .int ts])), (tb, .inl (cB, 1200, .inl fb)), (sc, .inr (3, [.int sn, .int sb, .int si, .int sw, .int ss, .ref en, .ref ki, .ref on, .ref ot]))] H := hP
            have hD : va_D A [(rd, .inr (0, [.ref tp, .ref sc, .int y_1128, .int y_1129, .int y_653, .int y_654, .int y_655, .int y_656, .int xj])), (tp, .inr (6, [.ref tb, .int ts])), (tb, .inl (cB, 1200, .inl fb)), (sc, .inr (3, [.int sn, .int sb, .int si, .int sw, .int ss, .ref en, .ref ki, .ref on, .ref ot]))] := hD
            have hl : lv_has ls 7 [(5, .int y_1117), (4, .int y_649), (2, .long y_650), (1, .int sn), (0, .ref rd)] := hl
            refine lv_aload_n hx hb dX1_readSide_88 rfl (lv_at hl 4 rfl) ?_
            refine lv_iconst (v := 0) hx hb dX1_readSide_89 (by decide) ?_
            refine lv_iload_n hx hb dX1_readSide_90 rfl (lv_at hl 3 rfl) ?_
            refine lv_iconst (v := 1) hx hb dX1_readSide_91 (by decide) ?_
            refine lv_isub hx hb dX1_readSide_92 ?_
            refine lv_topi (fun z_1130 e_z_1130 => ?_)
            obtain ⟨q_z_1130, b_z_1130⟩ := ti_sub (lo := -1) (hi := 11) e_z_1130 rfl (by decide : (1 : Int32).toInt = 1) b_sn (by decide : (1 : Int) ≤ (1 : Int32).toInt ∧ (1 : Int32).toInt ≤ 1) (by decide)
            have hFc := va_free (wc := [(rd, .inr (0, [.ref tp, .ref sc, .int y_1128, .int y_1129, .int y_653, .int y_654, .int y_655, .int y_656, .int xj])), (tp, .inr (6, [.ref tb, .int ts])), (tb, .inl (cB, 1200, .inl fb))]) hD hS hA [0, 1, 2] rfl
            refine va_calli (va_runV (As := [.int 0, .int z_1130]) (rest := []) ⟨hx, hb, hml, hown, hts⟩ (kX1_passNumber l dC dI rd y_1128 y_1129 y_653 y_654 y_655 y_656 xj tp tb ts cB fb sc 0 z_1130 (H.size) b_y_1128 b_y_1129 b_y_653 b_y_654 b_y_655 b_ts (by omega)) (cwV 2 hts gX1_readSide__X1_passNumber_V70 rfl rfl rfl hd_yX1_passNumber ⟨lel 2 2 rfl, lel 45 45 rfl⟩) ⟨hw_fb, rcv_X1 hK hP (q0 := 0) rfl, (hw_use hP hD hK hN [0, 1, 2] rfl (by decide) rfl [0] rfl)⟩ rfl rfl hl.1 rfl (lv_room (Nat.le_of_ble_eq_true rfl)) dX1_readSide_93 ⟨lel 0 0 rfl, lel 0 0 rfl⟩) hS (fun q _ h => hFc q h) hFc (fun r_1131 u_1132 t H1 locs ht hvm hw_r_1131 hB hz1 hk1 hS => ?_)
            obtain ⟨hu_r_1131, hw_r_1131⟩ := hw_r_1131
            subst hu_r_1131
            obtain ⟨o0_1133, o1_1134, o2_1135, o3_1136, o4_1137, o5_1138, b_o0_1133, b_o1_1134, b_o2_1135, b_o3_1136, b_o4_1137, hf_1139, hf_1140, hf_1141, hP1, hK1, hD1⟩ := hB
            rw [ht] at hP1
            have hK1 := va_K.moved hvm.symm hK1
            obtain ⟨hP, hD⟩ := va_join (wr := [(sc, .inr (3, [.int sn, .int sb, .int si, .int sw, .int ss, .ref en, .ref ki, .ref on, .ref ot]))]) (w1 := [(rd, .inr (0, [.ref tp, .ref sc, .int o0_1133, .int o1_1134, .int o2_1135, .int o3_1136, .int o4_1137, .int o5_1138, .int xj])), (tp, .inr (6, [.ref tb, .int ts])), (tb, .inl (cB, 1200, .inl fb))]) hP hD [0, 1, 2] [3] rfl rfl (by decide) (by decide) hk1 hFc hP1 hD1
            have hK := (hK.sub (tys' := []) [] rfl).app hK1
            generalize H1 = H at hP hS ⊢
            have hP := hP.sub (ws' := [(rd, .inr (0, [.ref tp, .ref sc, .int o0_1133, .int o1_1134, .int o2_1135, .int o3_1136, .int o4_1137, .int o5_1138, .int xj])), (tp, .inr (6, [.ref tb, .int ts])), (tb, .inl (cB, 1200, .inl fb)), (sc, .inr (3, [.int sn, .int sb, .int si, .int sw, .int ss, .ref en, .ref ki, .ref on, .ref ot]))]) [1, 2, 3, 0] rfl
            have hD := hD.sub (ws' := [(rd, .inr (0, [.ref tp, .ref sc, .int o0_1133, .int o1_1134, .int o2_1135, .int o3_1136, .int o4_1137, .int o5_1138, .int xj])), (tp, .inr (6, [.ref tb, .int ts])), (tb, .inl (cB, 1200, .inl fb)), (sc, .inr (3, [.int sn, .int sb, .int si, .int sw, .int ss, .ref en, .ref ki, .ref on, .ref ot]))]) [1, 2, 3, 0] (by decide) rfl
            have hP : va_P (dC, dI) vwCl [(rd, .inr (0, [.ref tp, .ref sc, .int o0_1133, .int o1_1134, .int o2_1135, .int o3_1136, .int o4_1137, .int o5_1138, .int xj])), (tp, .inr (6, [.ref tb, .int ts])), (tb, .inl (cB, 1200, .inl fb)), (sc, .inr (3, [.int sn, .int sb, .int si, .int sw, .int ss, .ref en, .ref ki, .ref on, .ref ot]))] H := hP
            have hD : va_D A [(rd, .inr (0, [.ref tp, .ref sc, .int o0_1133, .int o1_1134, .int o2_1135, .int o3_1136, .int o4_1137, .int o5_1138, .int xj])), (tp, .inr (6, [.ref tb, .int ts])), (tb, .inl (cB, 1200, .inl fb)), (sc, .inr (3, [.int sn, .int sb, .int si, .int sw, .int ss, .ref en, .ref ki, .ref on, .ref ot]))] := hD
            have hK : va_K (dC, dI) vwCl [(cB, .byte)] s := hK
            have pr_r_1131 := hw_r_1131
            have b_r_1131 : (0 : Int) ≤ r_1131.toInt ∧ r_1131.toInt ≤ 11 := by
              have q0 := (by decide : (0 : Int) ≤ (0 : Int32).toInt ∧ (0 : Int32).toInt ≤ 0)
              have q1 := b_z_1130
              omega
            refine lv_istore (lv' := [(6, .int r_1131), (5, .int y_1117), (4, .int y_649), (2, .long y_650), (1, .int sn), (0, .ref rd)]) hx hb dX1_readSide_96 hl (by decide) rfl (fun ls hl => ?_)
            refine lv_aload_n hx hb dX1_readSide_98 rfl (lv_at hl 5 rfl) ?_
            refine va_get (D := (dC, dI)) (ci := 0) (v := .int o0_1133) (C := RX1) (T := TX1) (N := 9) hx hb hts iX1_readSide_X1 hown hK hP 0 rfl rfl 2 (by decide) (hts (.fieldLink RX1 23 "LuckyTicket$Reader" "fault" "I") (List.mem_of_getElem? (i := 2) rfl)) (fun _ h9 => h9) rfl dX1_readSide_99 ?_
            refine cutW (σ := Int64) (pc2 := 114) (st2 := fun v => []) (cells2 := 0) (slots2 := 0) (fun v H locs ls => va_P (dC, dI) vwCl [(rd, .inr (0, [.ref tp, .ref sc, .int o0_1133, .int o1_1134, .int o2_1135, .int o3_1136, .int o4_1137, .int o5_1138, .int xj])), (tp, .inr (6, [.ref tb, .int ts])), (tb, .inl (cB, 1200, .inl fb)), (sc, .inr (3, [.int sn, .int sb, .int si, .int sw, .int ss, .ref en, .ref ki, .ref on, .ref ot]))] H ∧ va_D A [(rd, .inr (0, [.ref tp, .ref sc, .int o0_1133, .int o1_1134, .int o2_1135, .int o3_1136, .int o4_1137, .int o5_1138, .int xj])), (tp, .inr (6, [.ref tb, .int ts])), (tb, .inl (cB, 1200, .inl fb)), (sc, .inr (3, [.int sn, .int sb, .int si, .int sw, .int ss, .ref en, .ref ki, .ref on, .ref ot]))] ∧ va_S A s.heap H locs ∧ lv_has ls 7 [(6, .int r_1131), (5, .int y_1117), (4, .int y_649), (2, .long v), (1, .int sn), (0, .ref rd)]) (fun v H locs ls hI => ?_) (fun hj_114_1145 => ?_)
            ·
              obtain ⟨y_1145, rfl⟩ : ∃ z, z = v := ⟨_, rfl⟩
              obtain ⟨hP, hD, hS, hl⟩ := hI
              have hP : va_P (dC, dI) vwCl [(rd, .inr (0, [.ref tp, .ref sc, .int o0_1133, .int o1_1134, .int o2_1135, .int o3_1136, .int o4_1137, .int o5_1138, .int xj])), (tp, .inr (6, [.ref tb, .int ts])), (tb, .inl (cB, 1200, .inl fb)), (sc, .inr (3, [.int sn, .int sb, .int si, .int sw, .int ss, .ref en, .ref ki, .ref on, .ref ot]))] H := hP
              have hD : va_D A [(rd, .inr (0, [.ref tp, .ref sc, .int o0_1133, .int o1_1134, .int o2_1135, .int o3_1136, .int o4_1137, .int o5_1138, .int xj])), (tp, .inr (6, [.ref tb, .int ts])), (tb, .inl (cB, 1200, .inl fb)), (sc, .inr (3, [.int sn, .int sb, .int si, .int sw, .int ss, .ref en, .ref ki, .ref on, .ref ot]))] := hD
              have hl : lv_has ls 7 [(6, .int r_1131), (5, .int y_1117), (4, .int y_649), (2, .long y_1145), (1, .int sn), (0, .ref rd)] := hl
              obtain ⟨z_1146, e_z_1146⟩ : ∃ y : Int32, y = y_649 + 1 := ⟨_, rfl⟩
              refine lv_iinc (v := z_1146) (lv' := [(4, .int z_1146), (6, .int r_1131), (5, .int y_1117), (2, .long y_1145), (1, .int sn), (0, .ref rd)]) hx hb dX1_readSide_114 hl (k := 2) rfl (by rw [e_z_1146]; rfl) (by decide) rfl (fun ls hl => ?_)
              obtain ⟨q_z_1146, b_z_1146⟩ := ti_add (lo := 1) (hi := 1) e_z_1146 rfl (by decide : (1 : Int32).toInt = 1) b_y_649 (by decide : (1 : Int) ≤ (1 : Int32).toInt ∧ (1 : Int32).toInt ≤ 1) (by decide)
              refine lv_goto (tgt := 13) hx hb dX1_readSide_117 (by decide) ?_
              exact ih_13_1111 (z_1146, y_1145, o0_1133, o1_1134, o2_1135, o3_1136, o4_1137, o5_1138) _ _ _ ⟨(show (0 : Int) ≤ z_1146.toInt ∧ z_1146.toInt ≤ 13 from (rg_w b_z_1146 (by decide) (by decide))), (show (0 : Int) ≤ o0_1133.toInt ∧ o0_1133.toInt ≤ 3 from b_o0_1133), (show (-1 : Int) ≤ o1_1134.toInt ∧ o1_1134.toInt ≤ 1200 from b_o1_1134), (show (0 : Int) ≤ o2_1135.toInt ∧ o2_1135.toInt ≤ 4 from b_o2_1135), (show (0 : Int) ≤ o3_1136.toInt ∧ o3_1136.toInt ≤ 1200 from b_o3_1136), (show (0 : Int) ≤ o4_1137.toInt ∧ o4_1137.toInt ≤ 1200 from b_o4_1137), (show o3_1136.toInt ≤ o4_1137.toInt from (by omega)), hP, hD, hS, lv_sub hl [0, 3, 4, 5] rfl⟩ (show (13 - z_1146.toInt).toNat < (13 - y_649.toInt).toNat by omega)
            ·
              refine lv_if_ne (tgt := 114) hx hb dX1_readSide_102 (by decide) (fun c_1142 => ?_) (fun c_1142 => ?_)
              ·
                have n_c_1142 : (o0_1133.toInt : Int) ≠ 0 := c_ne rfl (by decide) c_1142
                have b_o0_1133 : (1 : Int) ≤ o0_1133.toInt ∧ o0_1133.toInt ≤ 3 := r_ne1 b_o0_1133 (by decide : (0 : Int) ≤ (0 : Int32).toInt ∧ (0 : Int32).toInt ≤ 0) n_c_1142 (by decide)
                exact hj_114_1145 y_650 _ _ _ ⟨hP, hD, hS, lv_sub hl [0, 1, 2, 3, 4, 5] rfl⟩
              ·
                have n_c_1142 : (o0_1133.toInt : Int) = 0 := c_eq rfl (by decide) c_1142
                have b_o0_1133 : (0 : Int) ≤ o0_1133.toInt ∧ o0_1133.toInt ≤ 0 := r_eq1 b_o0_1133 (by decide : (0 : Int) ≤ (0 : Int32).toInt ∧ (0 : Int32).toInt ≤ 0) n_c_1142 (by decide)
                refine lv_lload_n hx hb dX1_readSide_105 rfl (lv_at hl 3 rfl) ?_
                refine lv_iload_n hx hb dX1_readSide_106 rfl (lv_at hl 4 rfl) ?_
                refine lv_iload hx hb dX1_readSide_107 (lv_at hl 0 rfl) ?_
                refine vp_callSl (W.runS (As := [.int sn, .int r_1131]) (rest := [.long y_650]) ⟨hx, hb, hml, hown, hts⟩ (kX0_maskAt l dC dI sn r_1131 ) (va_cwS 2 hts gX1_readSide__X0_maskAt_S175 rfl rfl rfl hd_yX0_maskAt.2 ⟨lel 1 2 rfl, lel 21 45 rfl⟩) ⟨pn_fb, pn_use⟩ rfl rfl hl.1 rfl (lv_room (Nat.le_of_ble_eq_true rfl)) dX1_readSide_109 ⟨lel 0 0 rfl, lel 0 0 rfl⟩) (fun r_1147 h_r_1147 => ?_)
                refine lv_lor hx hb dX1_readSide_112 ?_
                refine lv_topl (fun z_1148 e_z_1148 => ?_)
                refine lv_lstore_n (lv' := [(2, .long z_1148), (6, .int r_1131), (5, .int y_1117), (4, .int y_649), (1, .int sn), (0, .ref rd)]) hx hb dX1_readSide_113 rfl hl (by decide) rfl (fun ls hl => ?_)
                exact hj_114_1145 z_1148 _ _ _ ⟨hP, hD, hS, lv_sub hl [1, 2, 3, 0, 4, 5] rfl⟩
          ·
            refine lv_if_eq (tgt := 88) hx hb dX1_readSide_65 (by decide) (fun c_1118 => ?_) (fun c_1118 => ?_)
            ·
              have n_c_1118 : (y_1117.toInt : Int) = 0 := c_eq rfl (by decide) c_1118
              have b_y_1117 : (0 : Int) ≤ y_1117.toInt ∧ y_1117.toInt ≤ 0 := r_eq1 b_y_1117 (by decide : (0 : Int) ≤ (0 : Int32).toInt ∧ (0 : Int32).toInt ≤ 0) n_c_1118 (by decide)
              exact hj_88_1129 (y_651, y_652) _ _ _ ⟨(show (0 : Int) ≤ y_651.toInt ∧ y_651.toInt ≤ 3 from (rg_w b_y_651 (by decide) (by decide))), (show (-1 : Int) ≤ y_652.toInt ∧ y_652.toInt ≤ 1200 from b_y_652), hP, hD, hS, lv_sub hl [0, 1, 2, 3, 4] rfl⟩
            ·
              have n_c_1118 : (y_1117.toInt : Int) ≠ 0 := c_ne rfl (by decide) c_1118
              have b_y_1117 : (1 : Int) ≤ y_1117.toInt ∧ y_1117.toInt ≤ 1 := r_ne1 b_y_1117 (by decide : (0 : Int) ≤ (0 : Int32).toInt ∧ (0 : Int32).toInt ≤ 0) n_c_1118 (by decide)
              refine lv_lload_n hx hb dX1_readSide_68 rfl (lv_at hl 2 rfl) ?_
              refine lv_iload_n hx hb dX1_readSide_69 rfl (lv_at hl 3 rfl) ?_
              refine lv_aload_n hx hb dX1_readSide_70 rfl (lv_at hl 4 rfl) ?_
              refine va_get (D := (dC, dI)) (ci := 0) (v := .int y_656) (C := RX1) (T := TX1) (N := 9) hx hb hts iX1_readSide_X1 hown hK hP 0 rfl rfl 7 (by decide) (hts (.fieldLink RX1 172 "LuckyTicket$Reader" "value" "I") (List.mem_of_getElem? (i := 4) rfl)) (fun _ h9 => h9) rfl dX1_readSide_71 ?_
              refine vp_callSl (W.runS (As := [.int sn, .int y_656]) (rest := [.long y_650]) ⟨hx, hb, hml, hown, hts⟩ (kX0_maskAt l dC dI sn y_656 ) (va_cwS 2 hts gX1_readSide__X0_maskAt_S175 rfl rfl rfl hd_yX0_maskAt.2 ⟨lel 1 2 rfl, lel 21 45 rfl⟩) ⟨pn_fb, pn_use⟩ rfl rfl hl.1 rfl (lv_room (Nat.le_of_ble_eq_true rfl)) dX1_readSide_74 ⟨lel 0 0 rfl, lel 0 0 rfl⟩) (fun r_1149 h_r_1149 => ?_)
              refine lv_land hx hb dX1_readSide_77 ?_
              refine lv_topl (fun z_1150 e_z_1150 => ?_)
              refine lv_lconst (v := 0) hx hb dX1_readSide_78 (by decide) ?_
              refine W.lcmp hx hb dX1_readSide_79 ?_
              refine lv_if_eq (tgt := 88) hx hb dX1_readSide_80 (by decide) (fun c_1151 => ?_) (fun c_1151 => ?_)
              ·
                have n_c_1151 : (z_1150.toInt : Int) = 0 := g_eq rfl (by decide) c_1151
                have b_z_1150 : (0 : Int) ≤ z_1150.toInt ∧ z_1150.toInt ≤ 0 := r_eq1 (tl_rng z_1150) (by decide : (0 : Int) ≤ (0 : Int64).toInt ∧ (0 : Int64).toInt ≤ 0) n_c_1151 (by decide)
                exact hj_88_1129 (y_651, y_652) _ _ _ ⟨(show (0 : Int) ≤ y_651.toInt ∧ y_651.toInt ≤ 3 from (rg_w b_y_651 (by decide) (by decide))), (show (-1 : Int) ≤ y_652.toInt ∧ y_652.toInt ≤ 1200 from b_y_652), hP, hD, hS, lv_sub hl [0, 1, 2, 3, 4] rfl⟩
              ·
                have n_c_1151 : (z_1150.toInt : Int) ≠ 0 := g_ne rfl (by decide) c_1151
                refine lv_aload_n hx hb dX1_readSide_83 rfl (lv_at hl 4 rfl) ?_
                refine lv_iconst (v := 2) hx hb dX1_readSide_84 (by decide) ?_
                have hFc := va_free (wc := [(rd, .inr (0, [.ref tp, .ref sc, .int y_651, .int y_652, .int y_653, .int y_654, .int y_655, .int y_656, .int xj]))]) hD hS hA [0] rfl
                refine va_callv (va_runV (As := [.int 2]) (rest := []) ⟨hx, hb, hml, hown, hts⟩ (kX1_refuse l dC dI rd y_651 y_652 y_653 y_654 y_655 y_656 xj tp sc 2 (H.size) (rg_w b_y_651 (by decide) (by decide)) b_y_652 b_y_653 b_y_654 b_y_655 (rg_w (by decide : (2 : Int) ≤ (2 : Int32).toInt ∧ (2 : Int32).toInt ≤ 2) (by decide) (by decide))) (cwV 1 hts gX1_readSide__X1_refuse_V96 rfl rfl rfl hd_yX1_refuse ⟨lel 1 2 rfl, lel 21 45 rfl⟩) ⟨hw_fb, rcv_X1 hK hP (q0 := 0) rfl, (hw_use hP hD hK hN [0] rfl (by decide) rfl [] rfl)⟩ rfl rfl hl.1 rfl (lv_room (Nat.le_of_ble_eq_true rfl)) dX1_readSide_85 ⟨lel 0 0 rfl, lel 0 0 rfl⟩) hS (fun q _ h => hFc q h) hFc (fun u_1153 t H1 locs ht hvm hw_r_1152 hB hz1 hk1 hS => ?_)
                obtain ⟨o0_1154, o1_1155, b_o0_1154, b_o1_1155, hf_1156, hf_1157, hP1, hK1, hD1⟩ := hB
                rw [ht] at hP1
                have hK1 := va_K.moved hvm.symm hK1
                obtain ⟨hP, hD⟩ := va_join (wr := [(tp, .inr (6, [.ref tb, .int ts])), (tb, .inl (cB, 1200, .inl fb)), (sc, .inr (3, [.int sn, .int sb, .int si, .int sw, .int ss, .ref en, .ref ki, .ref on, .ref ot]))]) (w1 := [(rd, .inr (0, [.ref tp, .ref sc, .int o0_1154, .int o1_1155, .int y_653, .int y_654, .int y_655, .int y_656, .int xj]))]) hP hD [0] [1, 2, 3] rfl rfl (by decide) (by decide) hk1 hFc hP1 hD1
                have hK := (hK.sub (tys' := [(cB, .byte)]) [0] rfl).app hK1
                generalize H1 = H at hP hS ⊢
                have hP := hP.sub (ws' := [(rd, .inr (0, [.ref tp, .ref sc, .int o0_1154, .int o1_1155, .int y_653, .int y_654, .int y_655, .int y_656, .int xj])), (tp, .inr (6, [.ref tb, .int ts])), (tb, .inl (cB, 1200, .inl fb)), (sc, .inr (3, [.int sn, .int sb, .int si, .int sw, .int ss, .ref en, .ref ki, .ref on, .ref ot]))]) [3, 0, 1, 2] rfl
                have hD := hD.sub (ws' := [(rd, .inr (0, [.ref tp, .ref sc, .int o0_1154, .int o1_1155, .int y_653, .int y_654, .int y_655, .int y_656, .int xj])), (tp, .inr (6, [.ref tb, .int ts])), (tb, .inl (cB, 1200, .inl fb)), (sc, .inr (3, [.int sn, .int sb, .int si, .int sw, .int ss, .ref en, .ref ki, .ref on, .ref ot]))]) [3, 0, 1, 2] (by decide) rfl
                have hP : va_P (dC, dI) vwCl [(rd, .inr (0, [.ref tp, .ref sc, .int o0_1154, .int o1_1155, .int y_653, .int y_654, .int y_655, .int y_656, .int xj])), (tp, .inr (6, [.ref tb, .int ts])), (tb, .inl (cB, 1200, .inl fb)), (sc, .inr (3, [.int sn, .int sb, .int si, .int sw, .int ss, .ref en, .ref ki, .ref on, .ref ot]))] H := hP
                have hD : va_D A [(rd, .inr (0, [.ref tp, .ref sc, .int o0_1154, .int o1_1155, .int y_653, .int y_654, .int y_655, .int y_656, .int xj])), (tp, .inr (6, [.ref tb, .int ts])), (tb, .inl (cB, 1200, .inl fb)), (sc, .inr (3, [.int sn, .int sb, .int si, .int sw, .int ss, .ref en, .ref ki, .ref on, .ref ot]))] := hD
                have hK : va_K (dC, dI) vwCl [(cB, .byte)] s := hK
                exact hj_88_1129 (o0_1154, o1_1155) _ _ _ ⟨(show (0 : Int) ≤ o0_1154.toInt ∧ o0_1154.toInt ≤ 3 from (rg_w b_o0_1154 (by decide) (by decide))), (show (-1 : Int) ≤ o1_1155.toInt ∧ o1_1155.toInt ≤ 1200 from b_o1_1155), hP, hD, hS, lv_sub hl [0, 1, 2, 3, 4] rfl⟩
        ·
          refine lv_icmp_ne (tgt := 60) hx hb dX1_readSide_45 (by decide) (fun c_1115 => ?_) (fun c_1115 => ?_)
          ·
            have n_c_1115 : (y_653.toInt : Int) ≠ 2 := c_ne rfl (by decide) c_1115
            refine lv_iconst (v := 0) hx hb dX1_readSide_60 (by decide) ?_
            exact hj_61_1117 (0 : Int32) _ _ _ ⟨(show (0 : Int) ≤ (0 : Int32).toInt ∧ (0 : Int32).toInt ≤ 1 from (rg_w (by decide : (0 : Int) ≤ (0 : Int32).toInt ∧ (0 : Int32).toInt ≤ 0) (by decide) (by decide))), hP, hD, hS, lv_sub hl [0, 1, 2, 3] rfl⟩
          ·
            have n_c_1115 : (y_653.toInt : Int) = 2 := c_eq rfl (by decide) c_1115
            have b_y_653 : (2 : Int) ≤ y_653.toInt ∧ y_653.toInt ≤ 2 := r_eq1 b_y_653 (by decide : (2 : Int) ≤ (2 : Int32).toInt ∧ (2 : Int32).toInt ≤ 2) n_c_1115 (by decide)
            refine lv_aload_n hx hb dX1_readSide_48 rfl (lv_at hl 3 rfl) ?_
            refine va_get (D := (dC, dI)) (ci := 0) (v := .int y_656) (C := RX1) (T := TX1) (N := 9) hx hb hts iX1_readSide_X1 hown hK hP 0 rfl rfl 7 (by decide) (hts (.fieldLink RX1 172 "LuckyTicket$Reader" "value" "I") (List.mem_of_getElem? (i := 4) rfl)) (fun _ h9 => h9) rfl dX1_readSide_49 ?_
            refine lv_iload_n hx hb dX1_readSide_52 rfl (lv_at hl 2 rfl) ?_
            refine lv_icmp_ge (tgt := 60) hx hb dX1_readSide_53 (by decide) (fun c_1158 => ?_) (fun c_1158 => ?_)
            ·
              have n_c_1158 : (sn.toInt : Int) ≤ y_656.toInt := c_ge rfl rfl c_1158
              have b_y_656 : (0 : Int) ≤ y_656.toInt ∧ y_656.toInt ≤ 2147483647 := r_le2 b_sn (ti_rng y_656) n_c_1158 (by decide)
              refine lv_iconst (v := 0) hx hb dX1_readSide_60 (by decide) ?_
              exact hj_61_1117 (0 : Int32) _ _ _ ⟨(show (0 : Int) ≤ (0 : Int32).toInt ∧ (0 : Int32).toInt ≤ 1 from (rg_w (by decide : (0 : Int) ≤ (0 : Int32).toInt ∧ (0 : Int32).toInt ≤ 0) (by decide) (by decide))), hP, hD, hS, lv_sub hl [0, 1, 2, 3] rfl⟩
            ·
              have n_c_1158 : (y_656.toInt : Int) < sn.toInt := c_nge rfl rfl c_1158
              have b_y_656 : (-2147483648 : Int) ≤ y_656.toInt ∧ y_656.toInt ≤ 11 := r_lt1 (ti_rng y_656) b_sn n_c_1158 (by decide)
              refine lv_iconst (v := 1) hx hb dX1_readSide_56 (by decide) ?_
              refine lv_goto (tgt := 61) hx hb dX1_readSide_57 (by decide) ?_
              exact hj_61_1117 (1 : Int32) _ _ _ ⟨(show (0 : Int) ≤ (1 : Int32).toInt ∧ (1 : Int32).toInt ≤ 1 from (rg_w (by decide : (1 : Int) ≤ (1 : Int32).toInt ∧ (1 : Int32).toInt ≤ 1) (by decide) (by decide))), hP, hD, hS, lv_sub hl [0, 1, 2, 3] rfl⟩
      ·
        have n_c_1114 : (y_649.toInt : Int) ≠ 0 := c_ne rfl (by decide) c_1114
        have b_y_649 : (1 : Int) ≤ y_649.toInt ∧ y_649.toInt ≤ 12 := r_ne1 b_y_649 (by decide : (0 : Int) ≤ (0 : Int32).toInt ∧ (0 : Int32).toInt ≤ 0) n_c_1114 (by decide)
        refine lv_aload_n hx hb dX1_readSide_32 rfl (lv_at hl 3 rfl) ?_
        refine va_get (D := (dC, dI)) (ci := 0) (v := .int y_653) (C := RX1) (T := TX1) (N := 9) hx hb hts iX1_readSide_X1 hown hK hP 0 rfl rfl 4 (by decide) (hts (.fieldLink RX1 39 "LuckyTicket$Reader" "token" "I") (List.mem_of_getElem? (i := 3) rfl)) (fun _ h9 => h9) rfl dX1_readSide_33 ?_
        refine lv_iconst (v := 2) hx hb dX1_readSide_36 (by decide) ?_
        refine lv_icmp_ne (tgt := 120) hx hb dX1_readSide_37 (by decide) (fun c_1159 => ?_) (fun c_1159 => ?_)
        ·
          have n_c_1159 : (y_653.toInt : Int) ≠ 2 := c_ne rfl (by decide) c_1159
          refine lv_lload_n hx hb dX1_readSide_120 rfl (lv_at hl 1 rfl) ?_
          have hP9 := hP.sub (ws' := [(rd, .inr (0, [.ref tp, .ref sc, .int y_651, .int y_652, .int y_653, .int y_654, .int y_655, .int y_656, .int xj])), (tp, .inr (6, [.ref tb, .int ts])), (tb, .inl (cB, 1200, .inl fb)), (sc, .inr (3, [.int sn, .int sb, .int si, .int sw, .int ss, .ref en, .ref ki, .ref on, .ref ot]))]) [0, 1, 2, 3] rfl
          have hD9 := hD.sub (ws' := [(rd, .inr (0, [.ref tp, .ref sc, .int y_651, .int y_652, .int y_653, .int y_654, .int y_655, .int y_656, .int xj])), (tp, .inr (6, [.ref tb, .int ts])), (tb, .inl (cB, 1200, .inl fb)), (sc, .inr (3, [.int sn, .int sb, .int si, .int sw, .int ss, .ref en, .ref ki, .ref on, .ref ot]))]) [0, 1, 2, 3] (by decide) rfl
          have hK9 := hK.sub (tys' := [(cB, .byte)]) [0] rfl
          exact W.lret (v := y_650) hx hb hr (fun t ht hW => ⟨⟨y_650, (), rfl, trivial, y_651, y_652, y_653, y_654, y_655, y_656, (rg_w b_y_651 (by decide) (by decide)), b_y_652, b_y_653, b_y_654, b_y_655, (by omega), by rw [ht]; exact hP9, va_K.moved hW.alike hK9, hD9⟩, hS.F ht⟩) hS.2.2 dX1_readSide_121
        ·
          have n_c_1159 : (y_653.toInt : Int) = 2 := c_eq rfl (by decide) c_1159
          have b_y_653 : (2 : Int) ≤ y_653.toInt ∧ y_653.toInt ≤ 2 := r_eq1 b_y_653 (by decide : (2 : Int) ≤ (2 : Int32).toInt ∧ (2 : Int32).toInt ≤ 2) n_c_1159 (by decide)
          refine lv_aload_n hx hb dX1_readSide_40 rfl (lv_at hl 3 rfl) ?_
          refine va_get (D := (dC, dI)) (ci := 0) (v := .int y_653) (C := RX1) (T := TX1) (N := 9) hx hb hts iX1_readSide_X1 hown hK hP 0 rfl rfl 4 (by decide) (hts (.fieldLink RX1 39 "LuckyTicket$Reader" "token" "I") (List.mem_of_getElem? (i := 3) rfl)) (fun _ h9 => h9) rfl dX1_readSide_41 ?_
          refine lv_iconst (v := 2) hx hb dX1_readSide_44 (by decide) ?_
          refine lv_icmp_ne (tgt := 60) hx hb dX1_readSide_45 (by decide) (fun c_1160 => absurd (show (y_653.toInt : Int) ≠ 2 from c_ne rfl (by decide) c_1160) (by have q1 := b_y_653; have q2 := (by decide : (2 : Int) ≤ (2 : Int32).toInt ∧ (2 : Int32).toInt ≤ 2); omega)) (fun c_1160 => ?_)
          refine lv_aload_n hx hb dX1_readSide_48 rfl (lv_at hl 3 rfl) ?_
          refine va_get (D := (dC, dI)) (ci := 0) (v := .int y_656) (C := RX1) (T := TX1) (N := 9) hx hb hts iX1_readSide_X1 hown hK hP 0 rfl rfl 7 (by decide) (hts (.fieldLink RX1 172 "LuckyTicket$Reader" "value" "I") (List.mem_of_getElem? (i := 4) rfl)) (fun _ h9 => h9) rfl dX1_readSide_49 ?_
          refine lv_iload_n hx hb dX1_readSide_52 rfl (lv_at hl 2 rfl) ?_
          refine cutW (σ := Int32) (pc2 := 61) (st2 := fun v => [.int v]) (cells2 := 0) (slots2 := 0) (fun v H locs ls => ((0 : Int) ≤ v.toInt ∧ v.toInt ≤ 1) ∧ va_P (dC, dI) vwCl [(rd, .inr (0, [.ref tp, .ref sc, .int y_651, .int y_652, .int y_653, .int y_654, .int y_655, .int y_656, .int xj])), (tp, .inr (6, [.ref tb, .int ts])), (tb, .inl (cB, 1200, .inl fb)), (sc, .inr (3, [.int sn, .int sb, .int si, .int sw, .int ss, .ref en, .ref ki, .ref on, .ref ot]))] H ∧ va_D A [(rd, .inr (0, [.ref tp, .ref sc, .int y_651, .int y_652, .int y_653, .int y_654, .int y_655, .int y_656, .int xj])), (tp, .inr (6, [.ref tb, .int ts])), (tb, .inl (cB, 1200, .inl fb)), (sc, .inr (3, [.int sn, .int sb, .int si, .int sw, .int ss, .ref en, .ref ki, .ref on, .ref ot]))] ∧ va_S A s.heap H locs ∧ lv_has ls 7 [(4, .int y_649), (2, .long y_650), (1, .int sn), (0, .ref rd)]) (fun v H locs ls hI => ?_) (fun hj_61_1162 => ?_)
          ·
            obtain ⟨y_1162, rfl⟩ : ∃ z, z = v := ⟨_, rfl⟩
            obtain ⟨b_y_1162, hP, hD, hS, hl⟩ := hI
            have b_y_1162 : (0 : Int) ≤ y_1162.toInt ∧ y_1162.toInt ≤ 1 := b_y_1162
            have hP : va_P (dC, dI) vwCl [(rd, .inr (0, [.ref tp, .ref sc, .int y_651, .int y_652, .int y_653, .int y_654, .int y_655, .int y_656, .int xj])), (tp, .inr (6, [.ref tb, .int ts])), (tb, .inl (cB, 1200, .inl fb)), (sc, .inr (3, [.int sn, .int sb, .int si, .int sw, .int ss, .ref en, .ref ki, .ref on, .ref ot]))] H := hP
            have hD : va_D A [(rd, .inr (0, [.ref tp, .ref sc, .int y_651, .int y_652, .int y_653, .int y_654, .int y_655, .int y_656, .int xj])), (tp, .inr (6, [.ref tb, .int ts])), (tb, .inl (cB, 1200, .inl fb)), (sc, .inr (3, [.int sn, .int sb, .int si, .int sw, .int ss, .ref en, .ref ki, .ref on, .ref ot]))] := hD
            have hl : lv_has ls 7 [(4, .int y_649), (2, .long y_650), (1, .int sn), (0, .ref rd)] := hl
            refine lv_istore (lv' := [(5, .int y_1162), (4, .int y_649), (2, .long y_650), (1, .int sn), (0, .ref rd)]) hx hb dX1_readSide_61 hl (by decide) rfl (fun ls hl => ?_)
            refine lv_iload hx hb dX1_readSide_63 (lv_at hl 0 rfl) ?_
            refine cutW (σ := Int32 × Int32) (pc2 := 88) (st2 := fun v => []) (cells2 := 0) (slots2 := 0) (fun v H locs ls => ((0 : Int) ≤ v.1.toInt ∧ v.1.toInt ≤ 3) ∧ ((-1 : Int) ≤ v.2.toInt ∧ v.2.toInt ≤ 1200) ∧ va_P (dC, dI) vwCl [(rd, .inr (0, [.ref tp, .ref sc, .int v.1, .int v.2, .int y_653, .int y_654, .int y_655, .int y_656, .int xj])), (tp, .inr (6, [.ref tb, .int ts])), (tb, .inl (cB, 1200, .inl fb)), (sc, .inr (3, [.int sn, .int sb, .int si, .int sw, .int ss, .ref en, .ref ki, .ref on, .ref ot]))] H ∧ va_D A [(rd, .inr (0, [.ref tp, .ref sc, .int v.1, .int v.2, .int y_653, .int y_654, .int y_655, .int y_656, .int xj])), (tp, .inr (6, [.ref tb, .int ts])), (tb, .inl (cB, 1200, .inl fb)), (sc, .inr (3, [.int sn, .int sb, .int si, .int sw, .int ss, .ref en, .ref ki, .ref on, .ref ot]))] ∧ va_S A s.heap H locs ∧ lv_has ls 7 [(5, .int y_1162), (4, .int y_649), (2, .long y_650), (1, .int sn), (0, .ref rd)]) (fun v H locs ls hI => ?_) (fun hj_88_1174 => ?_)
            ·
              obtain ⟨y_1173, y_1174⟩ := v
              obtain ⟨b_y_1173, b_y_1174, hP, hD, hS, hl⟩ := hI
              have b_y_1173 : (0 : Int) ≤ y_1173.toInt ∧ y_1173.toInt ≤ 3 := b_y_1173
              have b_y_1174 : (-1 : Int) ≤ y_1174.toInt ∧ y_1174.toInt ≤ 1200 := b_y_1174
              have hP : va_P (dC, dI) vwCl [(rd, .inr (0, [.ref tp, .ref sc, .int y_1173, .int y_1174, .int y_653, .int y_654, .int y_655, .int y_656, .int xj])), (tp, .inr (6, [.ref tb, .int ts])), (tb, .inl (cB, 1200, .inl fb)), (sc, .inr (3, [.int sn, .int sb, .int si, .int sw, .int ss, .ref en, .ref ki, .ref on, .ref ot]))] H := hP
              have hD : va_D A [(rd, .inr (0, [.ref tp, .ref sc, .int y_1173, .int y_1174, .int y_653, .int y_654, .int y_655, .int y_656, .int xj])), (tp, .inr (6, [.ref tb, .int ts])), (tb, .inl (cB, 1200, .inl fb)), (sc, .inr (3, [.int sn, .int sb, .int si, .int sw, .int ss, .ref en, .ref ki, .ref on, .ref ot]))] := hD
              have hl : lv_has ls 7 [(5, .int y_1162), (4, .int y_649), (2, .long y_650), (1, .int sn), (0, .ref rd)] := hl
              refine lv_aload_n hx hb dX1_readSide_88 rfl (lv_at hl 4 rfl) ?_
              refine lv_iconst (v := 0) hx hb dX1_readSide_89 (by decide) ?_
              refine lv_iload_n hx hb dX1_readSide_90 rfl (lv_at hl 3 rfl) ?_
              refine lv_iconst (v := 1) hx hb dX1_readSide_91 (by decide) ?_
              refine lv_isub hx hb dX1_readSide_92 ?_
              refine lv_topi (fun z_1175 e_z_1175 => ?_)
              obtain ⟨q_z_1175, b_z_1175⟩ := ti_sub (lo := -1) (hi := 11) e_z_1175 rfl (by decide : (1 : Int32).toInt = 1) b_sn (by decide : (1 : Int) ≤ (1 : Int32).toInt ∧ (1 : Int32).toInt ≤ 1) (by decide)
              have hFc := va_free (wc := [(rd, .inr (0, [.ref tp, .ref sc, .int y_1173, .int y_1174, .int y_653, .int y_654, .int y_655, .int y_656, .int xj])), (tp, .inr (6, [.ref tb, .int ts])), (tb, .inl (cB, 1200, .inl fb))]) hD hS hA [0, 1, 2] rfl
              refine va_calli (va_runV (As := [.int 0, .int z_1175]) (rest := []) ⟨hx, hb, hml, hown, hts⟩ (kX1_passNumber l dC dI rd y_1173 y_1174 y_653 y_654 y_655 y_656 xj tp tb ts cB fb sc 0 z_1175 (H.size) b_y_1173 b_y_1174 (rg_w b_y_653 (by decide) (by decide)) b_y_654 b_y_655 b_ts (by omega)) (cwV 2 hts gX1_readSide__X1_passNumber_V70 rfl rfl rfl hd_yX1_passNumber ⟨lel 2 2 rfl, lel 45 45 rfl⟩) ⟨hw_fb, rcv_X1 hK hP (q0 := 0) rfl, (hw_use hP hD hK hN [0, 1, 2] rfl (by decide) rfl [0] rfl)⟩ rfl rfl hl.1 rfl (lv_room (Nat.le_of_ble_eq_true rfl)) dX1_readSide_93 ⟨lel 0 0 rfl, lel 0 0 rfl⟩) hS (fun q _ h => hFc q h) hFc (fun r_1176 u_1177 t H1 locs ht hvm hw_r_1176 hB hz1 hk1 hS => ?_)
              obtain ⟨hu_r_1176, hw_r_1176⟩ := hw_r_1176
              subst hu_r_1176
              obtain ⟨o0_1178, o1_1179, o2_1180, o3_1181, o4_1182, o5_1183, b_o0_1178, b_o1_1179, b_o2_1180, b_o3_1181, b_o4_1182, hf_1184, hf_1185, hf_1186, hP1, hK1, hD1⟩ := hB
              rw [ht] at hP1
              have hK1 := va_K.moved hvm.symm hK1
              obtain ⟨hP, hD⟩ := va_join (wr := [(sc, .inr (3, [.int sn, .int sb, .int si, .int sw, .int ss, .ref en, .ref ki, .ref on, .ref ot]))]) (w1 := [(rd, .inr (0, [.ref tp, .ref sc, .int o0_1178, .int o1_1179, .int o2_1180, .int o3_1181, .int o4_1182, .int o5_1183, .int xj])), (tp, .inr (6, [.ref tb, .int ts])), (tb, .inl (cB, 1200, .inl fb))]) hP hD [0, 1, 2] [3] rfl rfl (by decide) (by decide) hk1 hFc hP1 hD1
              have hK := (hK.sub (tys' := []) [] rfl).app hK1
              generalize H1 = H at hP hS ⊢
              have hP := hP.sub (ws' := [(rd, .inr (0, [.ref tp, .ref sc, .int o0_1178, .int o1_1179, .int o2_1180, .int o3_1181, .int o4_1182, .int o5_1183, .int xj])), (tp, .inr (6, [.ref tb, .int ts])), (tb, .inl (cB, 1200, .inl fb)), (sc, .inr (3, [.int sn, .int sb, .int si, .int sw, .int ss, .ref en, .ref ki, .ref on, .ref ot]))]) [1, 2, 3, 0] rfl
              have hD := hD.sub (ws' := [(rd, .inr (0, [.ref tp, .ref sc, .int o0_1178, .int o1_1179, .int o2_1180, .int o3_1181, .int o4_1182, .int o5_1183, .int xj])), (tp, .inr (6, [.ref tb, .int ts])), (tb, .inl (cB, 1200, .inl fb)), (sc, .inr (3, [.int sn, .int sb, .int si, .int sw, .int ss, .ref en, .ref ki, .ref on, .ref ot]))]) [1, 2, 3, 0] (by decide) rfl
              have hP : va_P (dC, dI) vwCl [(rd, .inr (0, [.ref tp, .ref sc, .int o0_1178, .int o1_1179, .int o2_1180, .int o3_1181, .int o4_1182, .int o5_1183, .int xj])), (tp, .inr (6, [.ref tb, .int ts])), (tb, .inl (cB, 1200, .inl fb)), (sc, .inr (3, [.int sn, .int sb, .int si, .int sw, .int ss, .ref en, .ref ki, .ref on, .ref ot]))] H := hP
              have hD : va_D A [(rd, .inr (0, [.ref tp, .ref sc, .int o0_1178, .int o1_1179, .int o2_1180, .int o3_1181, .int o4_1182, .int o5_1183, .int xj])), (tp, .inr (6, [.ref tb, .int ts])), (tb, .inl (cB, 1200, .inl fb)), (sc, .inr (3, [.int sn, .int sb, .int si, .int sw, .int ss, .ref en, .ref ki, .ref on, .ref ot]))] := hD
              have hK : va_K (dC, dI) vwCl [(cB, .byte)] s := hK
              have pr_r_1176 := hw_r_1176
              have b_r_1176 : (0 : Int) ≤ r_1176.toInt ∧ r_1176.toInt ≤ 11 := by
                have q0 := (by decide : (0 : Int) ≤ (0 : Int32).toInt ∧ (0 : Int32).toInt ≤ 0)
                have q1 := b_z_1175
                omega
              refine lv_istore (lv' := [(6, .int r_1176), (5, .int y_1162), (4, .int y_649), (2, .long y_650), (1, .int sn), (0, .ref rd)]) hx hb dX1_readSide_96 hl (by decide) rfl (fun ls hl => ?_)
              refine lv_aload_n hx hb dX1_readSide_98 rfl (lv_at hl 5 rfl) ?_
              refine va_get (D := (dC, dI)) (ci := 0) (v := .int o0_1178) (C := RX1) (T := TX1) (N := 9) hx hb hts iX1_readSide_X1 hown hK hP 0 rfl rfl 2 (by decide) (hts (.fieldLink RX1 23 "LuckyTicket$Reader" "fault" "I") (List.mem_of_getElem? (i := 2) rfl)) (fun _ h9 => h9) rfl dX1_readSide_99 ?_
              refine cutW (σ := Int64) (pc2 := 114) (st2 := fun v => []) (cells2 := 0) (slots2 := 0) (fun v H locs ls => va_P (dC, dI) vwCl [(rd, .inr (0, [.ref tp, .ref sc, .int o0_1178, .int o1_1179, .int o2_1180, .int o3_1181, .int o4_1182, .int o5_1183, .int xj])), (tp, .inr (6, [.ref tb, .int ts])), (tb, .inl (cB, 1200, .inl fb)), (sc, .inr (3, [.int sn, .int sb, .int si, .int sw, .int ss, .ref en, .ref ki, .ref on, .ref ot]))] H ∧ va_D A [(rd, .inr (0, [.ref tp, .ref sc, .int o0_1178, .int o1_1179, .int o2_1180, .int o3_1181, .int o4_1182, .int o5_1183, .int xj])), (tp, .inr (6, [.ref tb, .int ts])), (tb, .inl (cB, 1200, .inl fb)), (sc, .inr (3, [.int sn, .int sb, .int si, .int sw, .int ss, .ref en, .ref ki, .ref on, .ref ot]))] ∧ va_S A s.heap H locs ∧ lv_has ls 7 [(6, .int r_1176), (5, .int y_1162), (4, .int y_649), (2, .long v), (1, .int sn), (0, .ref rd)]) (fun v H locs ls hI => ?_) (fun hj_114_1190 => ?_)
              ·
                obtain ⟨y_1190, rfl⟩ : ∃ z, z = v := ⟨_, rfl⟩
                obtain ⟨hP, hD, hS, hl⟩ := hI
                have hP : va_P (dC, dI) vwCl [(rd, .inr (0, [.ref tp, .ref sc, .int o0_1178, .int o1_1179, .int o2_1180, .int o3_1181, .int o4_1182, .int o5_1183, .int xj])), (tp, .inr (6, [.ref tb, .int ts])), (tb, .inl (cB, 1200, .inl fb)), (sc, .inr (3, [.int sn, .int sb, .int si, .int sw, .int ss, .ref en, .ref ki, .ref on, .ref ot]))] H := hP
                have hD : va_D A [(rd, .inr (0, [.ref tp, .ref sc, .int o0_1178, .int o1_1179, .int o2_1180, .int o3_1181, .int o4_1182, .int o5_1183, .int xj])), (tp, .inr (6, [.ref tb, .int ts])), (tb, .inl (cB, 1200, .inl fb)), (sc, .inr (3, [.int sn, .int sb, .int si, .int sw, .int ss, .ref en, .ref ki, .ref on, .ref ot]))] := hD
                have hl : lv_has ls 7 [(6, .int r_1176), (5, .int y_1162), (4, .int y_649), (2, .long y_1190), (1, .int sn), (0, .ref rd)] := hl
                obtain ⟨z_1191, e_z_1191⟩ : ∃ y : Int32, y = y_649 + 1 := ⟨_, rfl⟩
                refine lv_iinc (v := z_1191) (lv' := [(4, .int z_1191), (6, .int r_1176), (5, .int y_1162), (2, .long y_1190), (1, .int sn), (0, .ref rd)]) hx hb dX1_readSide_114 hl (k := 2) rfl (by rw [e_z_1191]; rfl) (by decide) rfl (fun ls hl => ?_)
                obtain ⟨q_z_1191, b_z_1191⟩ := ti_add (lo := 2) (hi := 13) e_z_1191 rfl (by decide : (1 : Int32).toInt = 1) b_y_649 (by decide : (1 : Int) ≤ (1 : Int32).toInt ∧ (1 : Int32).toInt ≤ 1) (by decide)
                refine lv_goto (tgt := 13) hx hb dX1_readSide_117 (by decide) ?_
                exact ih_13_1111 (z_1191, y_1190, o0_1178, o1_1179, o2_1180, o3_1181, o4_1182, o5_1183) _ _ _ ⟨(show (0 : Int) ≤ z_1191.toInt ∧ z_1191.toInt ≤ 13 from (rg_w b_z_1191 (by decide) (by decide))), (show (0 : Int) ≤ o0_1178.toInt ∧ o0_1178.toInt ≤ 3 from b_o0_1178), (show (-1 : Int) ≤ o1_1179.toInt ∧ o1_1179.toInt ≤ 1200 from b_o1_1179), (show (0 : Int) ≤ o2_1180.toInt ∧ o2_1180.toInt ≤ 4 from b_o2_1180), (show (0 : Int) ≤ o3_1181.toInt ∧ o3_1181.toInt ≤ 1200 from b_o3_1181), (show (0 : Int) ≤ o4_1182.toInt ∧ o4_1182.toInt ≤ 1200 from b_o4_1182), (show o3_1181.toInt ≤ o4_1182.toInt from (by omega)), hP, hD, hS, lv_sub hl [0, 3, 4, 5] rfl⟩ (show (13 - z_1191.toInt).toNat < (13 - y_649.toInt).toNat by omega)
              ·
                refine lv_if_ne (tgt := 114) hx hb dX1_readSide_102 (by decide) (fun c_1187 => ?_) (fun c_1187 => ?_)
                ·
                  have n_c_1187 : (o0_1178.toInt : Int) ≠ 0 := c_ne rfl (by decide) c_1187
                  have b_o0_1178 : (1 : Int) ≤ o0_1178.toInt ∧ o0_1178.toInt ≤ 3 := r_ne1 b_o0_1178 (by decide : (0 : Int) ≤ (0 : Int32).toInt ∧ (0 : Int32).toInt ≤ 0) n_c_1187 (by decide)
                  exact hj_114_1190 y_650 _ _ _ ⟨hP, hD, hS, lv_sub hl [0, 1, 2, 3, 4, 5] rfl⟩
                ·
                  have n_c_1187 : (o0_1178.toInt : Int) = 0 := c_eq rfl (by decide) c_1187
                  have b_o0_1178 : (0 : Int) ≤ o0_1178.toInt ∧ o0_1178.toInt ≤ 0 := r_eq1 b_o0_1178 (by decide : (0 : Int) ≤ (0 : Int32).toInt ∧ (0 : Int32).toInt ≤ 0) n_c_1187 (by decide)
                  refine lv_lload_n hx hb dX1_readSide_105 rfl (lv_at hl 3 rfl) ?_
                  refine lv_iload_n hx hb dX1_readSide_106 rfl (lv_at hl 4 rfl) ?_
                  refine lv_iload hx hb dX1_readSide_107 (lv_at hl 0 rfl) ?_
                  refine vp_callSl (W.runS (As := [.int sn, .int r_1176]) (rest := [.long y_650]) ⟨hx, hb, hml, hown, hts⟩ (kX0_maskAt l dC dI sn r_1176 ) (va_cwS 2 hts gX1_readSide__X0_maskAt_S175 rfl rfl rfl hd_yX0_maskAt.2 ⟨lel 1 2 rfl, lel 21 45 rfl⟩) ⟨pn_fb, pn_use⟩ rfl rfl hl.1 rfl (lv_room (Nat.le_of_ble_eq_true rfl)) dX1_readSide_109 ⟨lel 0 0 rfl, lel 0 0 rfl⟩) (fun r_1192 h_r_1192 => ?_)
                  refine lv_lor hx hb dX1_readSide_112 ?_
                  refine lv_topl (fun z_1193 e_z_1193 => ?_)
                  refine lv_lstore_n (lv' := [(2, .long z_1193), (6, .int r_1176), (5, .int y_1162), (4, .int y_649), (1, .int sn), (0, .ref rd)]) hx hb dX1_readSide_113 rfl hl (by decide) rfl (fun ls hl => ?_)
                  exact hj_114_1190 z_1193 _ _ _ ⟨hP, hD, hS, lv_sub hl [1, 2, 3, 0, 4, 5] rfl⟩
            ·
              refine lv_if_eq (tgt := 88) hx hb dX1_readSide_65 (by decide) (fun c_1163 => ?_) (fun c_1163 => ?_)
              ·
                have n_c_1163 : (y_1162.toInt : Int) = 0 := c_eq rfl (by decide) c_1163
                have b_y_1162 : (0 : Int) ≤ y_1162.toInt ∧ y_1162.toInt ≤ 0 := r_eq1 b_y_1162 (by decide : (0 : Int) ≤ (0 : Int32).toInt ∧ (0 : Int32).toInt ≤ 0) n_c_1163 (by decide)
                exact hj_88_1174 (y_651, y_652) _ _ _ ⟨(show (0 : Int) ≤ y_651.toInt ∧ y_651.toInt ≤ 3 from (rg_w b_y_651 (by decide) (by decide))), (show (-1 : Int) ≤ y_652.toInt ∧ y_652.toInt ≤ 1200 from b_y_652), hP, hD, hS, lv_sub hl [0, 1, 2, 3, 4] rfl⟩
              ·
                have n_c_1163 : (y_1162.toInt : Int) ≠ 0 := c_ne rfl (by decide) c_1163
                have b_y_1162 : (1 : Int) ≤ y_1162.toInt ∧ y_1162.toInt ≤ 1 := r_ne1 b_y_1162 (by decide : (0 : Int) ≤ (0 : Int32).toInt ∧ (0 : Int32).toInt ≤ 0) n_c_1163 (by decide)
                refine lv_lload_n hx hb dX1_readSide_68 rfl (lv_at hl 2 rfl) ?_
                refine lv_iload_n hx hb dX1_readSide_69 rfl (lv_at hl 3 rfl) ?_
                refine lv_aload_n hx hb dX1_readSide_70 rfl (lv_at hl 4 rfl) ?_
                refine va_get (D := (dC, dI)) (ci := 0) (v := .int y_656) (C := RX1) (T := TX1) (N := 9) hx hb hts iX1_readSide_X1 hown hK hP 0 rfl rfl 7 (by decide) (hts (.fieldLink RX1 172 "LuckyTicket$Reader" "value" "I") (List.mem_of_getElem? (i := 4) rfl)) (fun _ h9 => h9) rfl dX1_readSide_71 ?_
                refine vp_callSl (W.runS (As := [.int sn, .int y_656]) (rest := [.long y_650]) ⟨hx, hb, hml, hown, hts⟩ (kX0_maskAt l dC dI sn y_656 ) (va_cwS 2 hts gX1_readSide__X0_maskAt_S175 rfl rfl rfl hd_yX0_maskAt.2 ⟨lel 1 2 rfl, lel 21 45 rfl⟩) ⟨pn_fb, pn_use⟩ rfl rfl hl.1 rfl (lv_room (Nat.le_of_ble_eq_true rfl)) dX1_readSide_74 ⟨lel 0 0 rfl, lel 0 0 rfl⟩) (fun r_1194 h_r_1194 => ?_)
                refine lv_land hx hb dX1_readSide_77 ?_
                refine lv_topl (fun z_1195 e_z_1195 => ?_)
                refine lv_lconst (v := 0) hx hb dX1_readSide_78 (by decide) ?_
                refine W.lcmp hx hb dX1_readSide_79 ?_
                refine lv_if_eq (tgt := 88) hx hb dX1_readSide_80 (by decide) (fun c_1196 => ?_) (fun c_1196 => ?_)
                ·
                  have n_c_1196 : (z_1195.toInt : Int) = 0 := g_eq rfl (by decide) c_1196
                  have b_z_1195 : (0 : Int) ≤ z_1195.toInt ∧ z_1195.toInt ≤ 0 := r_eq1 (tl_rng z_1195) (by decide : (0 : Int) ≤ (0 : Int64).toInt ∧ (0 : Int64).toInt ≤ 0) n_c_1196 (by decide)
                  exact hj_88_1174 (y_651, y_652) _ _ _ ⟨(show (0 : Int) ≤ y_651.toInt ∧ y_651.toInt ≤ 3 from (rg_w b_y_651 (by decide) (by decide))), (show (-1 : Int) ≤ y_652.toInt ∧ y_652.toInt ≤ 1200 from b_y_652), hP, hD, hS, lv_sub hl [0, 1, 2, 3, 4] rfl⟩
                ·
                  have n_c_1196 : (z_1195.toInt : Int) ≠ 0 := g_ne rfl (by decide) c_1196
                  refine lv_aload_n hx hb dX1_readSide_83 rfl (lv_at hl 4 rfl) ?_
                  refine lv_iconst (v := 2) hx hb dX1_readSide_84 (by decide) ?_
                  have hFc := va_free (wc := [(rd, .inr (0, [.ref tp, .ref sc, .int y_651, .int y_652, .int y_653, .int y_654, .int y_655, .int y_656, .int xj]))]) hD hS hA [0] rfl
                  refine va_callv (va_runV (As := [.int 2]) (rest := []) ⟨hx, hb, hml, hown, hts⟩ (kX1_refuse l dC dI rd y_651 y_652 y_653 y_654 y_655 y_656 xj tp sc 2 (H.size) (rg_w b_y_651 (by decide) (by decide)) b_y_652 (rg_w b_y_653 (by decide) (by decide)) b_y_654 b_y_655 (rg_w (by decide : (2 : Int) ≤ (2 : Int32).toInt ∧ (2 : Int32).toInt ≤ 2) (by decide) (by decide))) (cwV 1 hts gX1_readSide__X1_refuse_V96 rfl rfl rfl hd_yX1_refuse ⟨lel 1 2 rfl, lel 21 45 rfl⟩) ⟨hw_fb, rcv_X1 hK hP (q0 := 0) rfl, (hw_use hP hD hK hN [0] rfl (by decide) rfl [] rfl)⟩ rfl rfl hl.1 rfl (lv_room (Nat.le_of_ble_eq_true rfl)) dX1_readSide_85 ⟨lel 0 0 rfl, lel 0 0 rfl⟩) hS (fun q _ h => hFc q h) hFc (fun u_1198 t H1 locs ht hvm hw_r_1197 hB hz1 hk1 hS => ?_)
                  obtain ⟨o0_1199, o1_1200, b_o0_1199, b_o1_1200, hf_1201, hf_1202, hP1, hK1, hD1⟩ := hB
                  rw [ht] at hP1
                  have hK1 := va_K.moved hvm.symm hK1
                  obtain ⟨hP, hD⟩ := va_join (wr := [(tp, .inr (6, [.ref tb, .int ts])), (tb, .inl (cB, 1200, .inl fb)), (sc, .inr (3, [.int sn, .int sb, .int si, .int sw, .int ss, .ref en, .ref ki, .ref on, .ref ot]))]) (w1 := [(rd, .inr (0, [.ref tp, .ref sc, .int o0_1199, .int o1_1200, .int y_653, .int y_654, .int y_655, .int y_656, .int xj]))]) hP hD [0] [1, 2, 3] rfl rfl (by decide) (by decide) hk1 hFc hP1 hD1
                  have hK := (hK.sub (tys' := [(cB, .byte)]) [0] rfl).app hK1
                  generalize H1 = H at hP hS ⊢
                  have hP := hP.sub (ws' := [(rd, .inr (0, [.ref tp, .ref sc, .int o0_1199, .int o1_1200, .int y_653, .int y_654, .int y_655, .int y_656, .int xj])), (tp, .inr (6, [.ref tb, .int ts])), (tb, .inl (cB, 1200, .inl fb)), (sc, .inr (3, [.int sn, .int sb, .int si, .int sw, .int ss, .ref en, .ref ki, .ref on, .ref ot]))]) [3, 0, 1, 2] rfl
                  have hD := hD.sub (ws' := [(rd, .inr (0, [.ref tp, .ref sc, .int o0_1199, .int o1_1200, .int y_653, .int y_654, .int y_655, .int y_656, .int xj])), (tp, .inr (6, [.ref tb, .int ts])), (tb, .inl (cB, 1200, .inl fb)), (sc, .inr (3, [.int sn, .int sb, .int si, .int sw, .int ss, .ref en, .ref ki, .ref on, .ref ot]))]) [3, 0, 1, 2] (by decide) rfl
                  have hP : va_P (dC, dI) vwCl [(rd, .inr (0, [.ref tp, .ref sc, .int o0_1199, .int o1_1200, .int y_653, .int y_654, .int y_655, .int y_656, .int xj])), (tp, .inr (6, [.ref tb, .int ts])), (tb, .inl (cB, 1200, .inl fb)), (sc, .inr (3, [.int sn, .int sb, .int si, .int sw, .int ss, .ref en, .ref ki, .ref on, .ref ot]))] H := hP
                  have hD : va_D A [(rd, .inr (0, [.ref tp, .ref sc, .int o0_1199, .int o1_1200, .int y_653, .int y_654, .int y_655, .int y_656, .int xj])), (tp, .inr (6, [.ref tb, .int ts])), (tb, .inl (cB, 1200, .inl fb)), (sc, .inr (3, [.int sn, .int sb, .int si, .int sw, .int ss, .ref en, .ref ki, .ref on, .ref ot]))] := hD
                  have hK : va_K (dC, dI) vwCl [(cB, .byte)] s := hK
                  exact hj_88_1174 (o0_1199, o1_1200) _ _ _ ⟨(show (0 : Int) ≤ o0_1199.toInt ∧ o0_1199.toInt ≤ 3 from (rg_w b_o0_1199 (by decide) (by decide))), (show (-1 : Int) ≤ o1_1200.toInt ∧ o1_1200.toInt ≤ 1200 from b_o1_1200), hP, hD, hS, lv_sub hl [0, 1, 2, 3, 4] rfl⟩
          ·
            refine lv_icmp_ge (tgt := 60) hx hb dX1_readSide_53 (by decide) (fun c_1161 => ?_) (fun c_1161 => ?_)
            ·
              have n_c_1161 : (sn.toInt : Int) ≤ y_656.toInt := c_ge rfl rfl c_1161
              have b_y_656 : (0 : Int) ≤ y_656.toInt ∧ y_656.toInt ≤ 2147483647 := r_le2 b_sn (ti_rng y_656) n_c_1161 (by decide)
              refine lv_iconst (v := 0) hx hb dX1_readSide_60 (by decide) ?_
              exact hj_61_1162 (0 : Int32) _ _ _ ⟨(show (0 : Int) ≤ (0 : Int32).toInt ∧ (0 : Int32).toInt ≤ 1 from (rg_w (by decide : (0 : Int) ≤ (0 : Int32).toInt ∧ (0 : Int32).toInt ≤ 0) (by decide) (by decide))), hP, hD, hS, lv_sub hl [0, 1, 2, 3] rfl⟩
            ·
              have n_c_1161 : (y_656.toInt : Int) < sn.toInt := c_nge rfl rfl c_1161
              have b_y_656 : (-2147483648 : Int) ≤ y_656.toInt ∧ y_656.toInt ≤ 11 := r_lt1 (ti_rng y_656) b_sn n_c_1161 (by decide)
              refine lv_iconst (v := 1) hx hb dX1_readSide_56 (by decide) ?_
              refine lv_goto (tgt := 61) hx hb dX1_readSide_57 (by decide) ?_
              exact hj_61_1162 (1 : Int32) _ _ _ ⟨(show (0 : Int) ≤ (1 : Int32).toInt ∧ (1 : Int32).toInt ≤ 1 from (rg_w (by decide : (1 : Int) ≤ (1 : Int32).toInt ∧ (1 : Int32).toInt ≤ 1) (by decide) (by decide))), hP, hD, hS, lv_sub hl [0, 1, 2, 3] rfl⟩
