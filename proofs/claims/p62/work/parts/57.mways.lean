theorem dX10_fillWays_0 : decode cX10_fillWays 0 = .ok (.iconst 0, 1) := by decide +kernel
theorem dX10_fillWays_1 : decode cX10_fillWays 1 = .ok (.istore 4, 2) := by decide +kernel
theorem dX10_fillWays_3 : decode cX10_fillWays 3 = .ok (.iload 4, 2) := by decide +kernel
theorem dX10_fillWays_5 : decode cX10_fillWays 5 = .ok (.sipush 201, 3) := by decide +kernel
theorem dX10_fillWays_8 : decode cX10_fillWays 8 = .ok (.if_icmp .ge 26, 3) := by decide +kernel
theorem dX10_fillWays_11 : decode cX10_fillWays 11 = .ok (.aload_n 0, 1) := by decide +kernel
theorem dX10_fillWays_12 : decode cX10_fillWays 12 = .ok (.getfield 58, 3) := by decide +kernel
theorem dX10_fillWays_15 : decode cX10_fillWays 15 = .ok (.iload 4, 2) := by decide +kernel
theorem dX10_fillWays_17 : decode cX10_fillWays 17 = .ok (.iload 4, 2) := by decide +kernel
theorem dX10_fillWays_19 : decode cX10_fillWays 19 = .ok (.ifCond .ne 7, 3) := by decide +kernel
theorem dX10_fillWays_22 : decode cX10_fillWays 22 = .ok (.lconst 1, 1) := by decide +kernel
theorem dX10_fillWays_23 : decode cX10_fillWays 23 = .ok (.goto 4, 3) := by decide +kernel
theorem dX10_fillWays_26 : decode cX10_fillWays 26 = .ok (.lconst 0, 1) := by decide +kernel
theorem dX10_fillWays_27 : decode cX10_fillWays 27 = .ok (.lastore, 1) := by decide +kernel
theorem dX10_fillWays_28 : decode cX10_fillWays 28 = .ok (.iinc 4 1, 3) := by decide +kernel
theorem dX10_fillWays_31 : decode cX10_fillWays 31 = .ok (.goto (-28), 3) := by decide +kernel
theorem dX10_fillWays_34 : decode cX10_fillWays 34 = .ok (.iconst 0, 1) := by decide +kernel
theorem dX10_fillWays_35 : decode cX10_fillWays 35 = .ok (.istore 4, 2) := by decide +kernel
theorem dX10_fillWays_37 : decode cX10_fillWays 37 = .ok (.iload 4, 2) := by decide +kernel
theorem dX10_fillWays_39 : decode cX10_fillWays 39 = .ok (.iload_n 1, 1) := by decide +kernel
theorem dX10_fillWays_40 : decode cX10_fillWays 40 = .ok (.if_icmp .ge 107, 3) := by decide +kernel
theorem dX10_fillWays_43 : decode cX10_fillWays 43 = .ok (.iconst 0, 1) := by decide +kernel
theorem dX10_fillWays_44 : decode cX10_fillWays 44 = .ok (.istore 5, 2) := by decide +kernel
theorem dX10_fillWays_46 : decode cX10_fillWays 46 = .ok (.iload 5, 2) := by decide +kernel
theorem dX10_fillWays_48 : decode cX10_fillWays 48 = .ok (.sipush 201, 3) := by decide +kernel
theorem dX10_fillWays_51 : decode cX10_fillWays 51 = .ok (.if_icmp .ge 59, 3) := by decide +kernel
theorem dX10_fillWays_54 : decode cX10_fillWays 54 = .ok (.aload_n 0, 1) := by decide +kernel
theorem dX10_fillWays_55 : decode cX10_fillWays 55 = .ok (.getfield 62, 3) := by decide +kernel
theorem dX10_fillWays_58 : decode cX10_fillWays 58 = .ok (.iload 5, 2) := by decide +kernel
theorem dX10_fillWays_60 : decode cX10_fillWays 60 = .ok (.lconst 0, 1) := by decide +kernel
theorem dX10_fillWays_61 : decode cX10_fillWays 61 = .ok (.lastore, 1) := by decide +kernel
theorem dX10_fillWays_62 : decode cX10_fillWays 62 = .ok (.iload_n 2, 1) := by decide +kernel
theorem dX10_fillWays_63 : decode cX10_fillWays 63 = .ok (.istore 6, 2) := by decide +kernel
theorem dX10_fillWays_65 : decode cX10_fillWays 65 = .ok (.iload 6, 2) := by decide +kernel
theorem dX10_fillWays_67 : decode cX10_fillWays 67 = .ok (.iload_n 3, 1) := by decide +kernel
theorem dX10_fillWays_68 : decode cX10_fillWays 68 = .ok (.if_icmp .gt 36, 3) := by decide +kernel
theorem dX10_fillWays_71 : decode cX10_fillWays 71 = .ok (.iload 6, 2) := by decide +kernel
theorem dX10_fillWays_73 : decode cX10_fillWays 73 = .ok (.iload 5, 2) := by decide +kernel
theorem dX10_fillWays_75 : decode cX10_fillWays 75 = .ok (.if_icmp .gt 29, 3) := by decide +kernel
theorem dX10_fillWays_78 : decode cX10_fillWays 78 = .ok (.aload_n 0, 1) := by decide +kernel
theorem dX10_fillWays_79 : decode cX10_fillWays 79 = .ok (.getfield 62, 3) := by decide +kernel
theorem dX10_fillWays_82 : decode cX10_fillWays 82 = .ok (.iload 5, 2) := by decide +kernel
theorem dX10_fillWays_84 : decode cX10_fillWays 84 = .ok (.dup2, 1) := by decide +kernel
theorem dX10_fillWays_85 : decode cX10_fillWays 85 = .ok (.laload, 1) := by decide +kernel
theorem dX10_fillWays_86 : decode cX10_fillWays 86 = .ok (.aload_n 0, 1) := by decide +kernel
theorem dX10_fillWays_87 : decode cX10_fillWays 87 = .ok (.getfield 58, 3) := by decide +kernel
theorem dX10_fillWays_90 : decode cX10_fillWays 90 = .ok (.iload 5, 2) := by decide +kernel
theorem dX10_fillWays_92 : decode cX10_fillWays 92 = .ok (.iload 6, 2) := by decide +kernel
theorem dX10_fillWays_94 : decode cX10_fillWays 94 = .ok (.isub, 1) := by decide +kernel
theorem dX10_fillWays_95 : decode cX10_fillWays 95 = .ok (.laload, 1) := by decide +kernel
theorem dX10_fillWays_96 : decode cX10_fillWays 96 = .ok (.ladd, 1) := by decide +kernel
theorem dX10_fillWays_97 : decode cX10_fillWays 97 = .ok (.lastore, 1) := by decide +kernel
theorem dX10_fillWays_98 : decode cX10_fillWays 98 = .ok (.iinc 6 1, 3) := by decide +kernel
theorem dX10_fillWays_101 : decode cX10_fillWays 101 = .ok (.goto (-36), 3) := by decide +kernel
theorem dX10_fillWays_104 : decode cX10_fillWays 104 = .ok (.iinc 5 1, 3) := by decide +kernel
theorem dX10_fillWays_107 : decode cX10_fillWays 107 = .ok (.goto (-61), 3) := by decide +kernel
theorem dX10_fillWays_110 : decode cX10_fillWays 110 = .ok (.iconst 0, 1) := by decide +kernel
theorem dX10_fillWays_111 : decode cX10_fillWays 111 = .ok (.istore 5, 2) := by decide +kernel
theorem dX10_fillWays_113 : decode cX10_fillWays 113 = .ok (.iload 5, 2) := by decide +kernel
theorem dX10_fillWays_115 : decode cX10_fillWays 115 = .ok (.sipush 201, 3) := by decide +kernel
theorem dX10_fillWays_118 : decode cX10_fillWays 118 = .ok (.if_icmp .ge 23, 3) := by decide +kernel
theorem dX10_fillWays_121 : decode cX10_fillWays 121 = .ok (.aload_n 0, 1) := by decide +kernel
theorem dX10_fillWays_122 : decode cX10_fillWays 122 = .ok (.getfield 58, 3) := by decide +kernel
theorem dX10_fillWays_125 : decode cX10_fillWays 125 = .ok (.iload 5, 2) := by decide +kernel
theorem dX10_fillWays_127 : decode cX10_fillWays 127 = .ok (.aload_n 0, 1) := by decide +kernel
theorem dX10_fillWays_128 : decode cX10_fillWays 128 = .ok (.getfield 62, 3) := by decide +kernel
theorem dX10_fillWays_131 : decode cX10_fillWays 131 = .ok (.iload 5, 2) := by decide +kernel
theorem dX10_fillWays_133 : decode cX10_fillWays 133 = .ok (.laload, 1) := by decide +kernel
theorem dX10_fillWays_134 : decode cX10_fillWays 134 = .ok (.lastore, 1) := by decide +kernel
theorem dX10_fillWays_135 : decode cX10_fillWays 135 = .ok (.iinc 5 1, 3) := by decide +kernel
theorem dX10_fillWays_138 : decode cX10_fillWays 138 = .ok (.goto (-25), 3) := by decide +kernel
theorem dX10_fillWays_141 : decode cX10_fillWays 141 = .ok (.iinc 4 1, 3) := by decide +kernel
theorem dX10_fillWays_144 : decode cX10_fillWays 144 = .ok (.goto (-107), 3) := by decide +kernel
theorem dX10_fillWays_147 : decode cX10_fillWays 147 = .ok (.return_, 1) := by decide +kernel
theorem hd_yX10_fillWays : yX10_fillWays.cls = RX10 ∧ yX10_fillWays.cls ≠ "java/lang/invoke/MethodHandle" ∧ yX10_fillWays.cls ≠ "java/lang/invoke/VarHandle" ∧ (parseMethodDescriptor yX10_fillWays.desc).map (fun d => d.parameters.length) = some 3 := by decide +kernel
def uX10_fillWays : List Cond := List.cons (.code yX10_fillWays cX10_fillWays 7 none) (HAppend.hAppend ([.fieldLink RX10 58 "LuckyTicketModel" "ways" "[J", .fieldLink RX10 62 "LuckyTicketModel" "waysOn" "[J"] : List Cond) wsX100)
theorem iX10_fillWays_X10 : ∀ w ∈ wsX100, w ∈ uX10_fillWays := fun _ h => (List.mem_cons_of_mem _ (List.mem_append_right _ h))
theorem guX10_fillWays : GU uX10_fillWays := gu_cons (gu_app (by decide +kernel) gws_X10)
set_option maxHeartbeats 4000000 in
set_option maxRecDepth 100000 in
theorem kX10_fillWays (l : Launch) (dC : Nat → ClassId) (dI : Nat → Nat → Nat) (o0 : Nat) (x_th : Int32) (mwo : Nat) (mim : Nat) (mhi : Nat) (mlu : Nat) (mtp : Nat) (x_td : Int32) (mfv : Nat) (x_sz : Int32) (x_at : Int32) (x_fr : Int32) (x_to : Int32) (x_va : Int32) (x_fk : Int32) (x_fp : Int32) (mfr : Nat) (mwt : Nat) (x_wt : Int32) (x_op : Int32) (x_jo : Int32) (mfg : Nat) (mpl : Nat) (x_dr : Int64) (mtm : Nat) (mfa : Nat) (mqu : Nat) (mmo : Nat) (mwy : Nat) (mwn : Nat) (mma : Nat) (mwi : Nat) (mnu : Nat) (mmv : Nat) (c_wy : ClassId) (c_wn : ClassId) (w_wy : Nat → Int64) (w_wn : Nat → Int64) (a1 : Int32) (a2 : Int32) (a3 : Int32) (sz : Nat) (b_a1 : (0 : Int) ≤ a1.toInt ∧ a1.toInt ≤ 12) (b_a2 : (0 : Int) ≤ a2.toInt ∧ a2.toInt ≤ 1) (b_a3 : (1 : Int) ≤ a3.toInt ∧ a3.toInt ≤ 16) : Met l yX10_fillWays uX10_fillWays ({ frames := 0, cells := 0, slots := 0, locals := 0 }) (va_Pc [.ref o0, .int a1, .int a2, .int a3] (hw (dC, dI) vwCl [(o0, .inr (8, [.int x_th, .ref mwo, .ref mim, .ref mhi, .ref mlu, .ref mtp, .int x_td, .ref mfv, .int x_sz, .int x_at, .int x_fr, .int x_to, .int x_va, .int x_fk, .int x_fp, .ref mfr, .ref mwt, .int x_wt, .int x_op, .int x_jo, .ref mfg, .ref mpl, .long x_dr, .ref mtm, .ref mfa, .ref mqu, .ref mmo, .ref mwy, .ref mwn, .ref mma, .ref mwi, .ref mnu, .ref mmv])), (mwy, .inl (c_wy, 201, .inr (.inl w_wy))), (mwn, .inl (c_wn, 201, .inr (.inl w_wn)))] [(c_wy, .long), (c_wn, .long)] sz)) (va_Qv (fun (_ : Unit) => True) (fun (_ : Unit) t => ∃ (o0_ : Nat → Int64) (o1_ : Nat → Int64), va_P (dC, dI) vwCl [(o0, .inr (8, [.int x_th, .ref mwo, .ref mim, .ref mhi, .ref mlu, .ref mtp, .int x_td, .ref mfv, .int x_sz, .int x_at, .int x_fr, .int x_to, .int x_va, .int x_fk, .int x_fp, .ref mfr, .ref mwt, .int x_wt, .int x_op, .int x_jo, .ref mfg, .ref mpl, .long x_dr, .ref mtm, .ref mfa, .ref mqu, .ref mmo, .ref mwy, .ref mwn, .ref mma, .ref mwi, .ref mnu, .ref mmv])), (mwy, .inl (c_wy, 201, .inr (.inl o0_))), (mwn, .inl (c_wn, 201, .inr (.inl o1_)))] t.heap ∧ va_K (dC, dI) vwCl [(c_wy, .long), (c_wn, .long)] t ∧ va_D (va_A [(o0, .inr (8, [.int x_th, .ref mwo, .ref mim, .ref mhi, .ref mlu, .ref mtp, .int x_td, .ref mfv, .int x_sz, .int x_at, .int x_fr, .int x_to, .int x_va, .int x_fk, .int x_fp, .ref mfr, .ref mwt, .int x_wt, .int x_op, .int x_jo, .ref mfg, .ref mpl, .long x_dr, .ref mtm, .ref mfa, .ref mqu, .ref mmo, .ref mwy, .ref mwn, .ref mma, .ref mwi, .ref mnu, .ref mmv])), (mwy, .inl (c_wy, 201, .inr (.inl w_wy))), (mwn, .inl (c_wn, 201, .inr (.inl w_wn)))] sz) [(o0, .inr (8, [.int x_th, .ref mwo, .ref mim, .ref mhi, .ref mlu, .ref mtp, .int x_td, .ref mfv, .int x_sz, .int x_at, .int x_fr, .int x_to, .int x_va, .int x_fk, .int x_fp, .ref mfr, .ref mwt, .int x_wt, .int x_op, .int x_jo, .ref mfg, .ref mpl, .long x_dr, .ref mtm, .ref mfa, .ref mqu, .ref mmo, .ref mwy, .ref mwn, .ref mma, .ref mwi, .ref mnu, .ref mmv])), (mwy, .inl (c_wy, 201, .inr (.inl o0_))), (mwn, .inl (c_wn, 201, .inr (.inl o1_)))]) (va_A [(o0, .inr (8, [.int x_th, .ref mwo, .ref mim, .ref mhi, .ref mlu, .ref mtp, .int x_td, .ref mfv, .int x_sz, .int x_at, .int x_fr, .int x_to, .int x_va, .int x_fk, .int x_fp, .ref mfr, .ref mwt, .int x_wt, .int x_op, .int x_jo, .ref mfg, .ref mpl, .long x_dr, .ref mtm, .ref mfa, .ref mqu, .ref mmo, .ref mwy, .ref mwn, .ref mma, .ref mwi, .ref mnu, .ref mmv])), (mwy, .inl (c_wy, 201, .inr (.inl w_wy))), (mwn, .inl (c_wn, 201, .inr (.inl w_wn)))] sz)) 0 0 (va_A [(o0, .inr (8, [.int x_th, .ref mwo, .ref mim, .ref mhi, .ref mlu, .ref mtp, .int x_td, .ref mfv, .int x_sz, .int x_at, .int x_fr, .int x_to, .int x_va, .int x_fk, .int x_fp, .ref mfr, .ref mwt, .int x_wt, .int x_op, .int x_jo, .ref mfg, .ref mpl, .long x_dr, .ref mtm, .ref mfa, .ref mqu, .ref mmo, .ref mwy, .ref mwn, .ref mma, .ref mwi, .ref mnu, .ref mmv])), (mwy, .inl (c_wy, 201, .inr (.inl w_wy))), (mwn, .inl (c_wn, 201, .inr (.inl w_wn)))] sz) := by
  refine Met.ofW (cc := cX10_fillWays) (maxL := 7) (ret := none) pn_X10 rfl ?_
  intro p e s m args below meth c s₁ B hml hv
  obtain ⟨rfl, hsz, hP, hK, hD0, hN⟩ := hv
  have hx := B.exec
  have hb := B.bytes
  have hr := B.returns
  have hts := atoms_spec (ws := uX10_fillWays) B.pre
  have hown : s.vm.findClass RX10 = some m.cls := hown_of B.named rfl
  have hlocks := B.notSynchronized
  subst hsz
  have hD := hD0.self (sz := s.heap.size)
  generalize hAe : va_A [(o0, .inr (8, [.int x_th, .ref mwo, .ref mim, .ref mhi, .ref mlu, .ref mtp, .int x_td, .ref mfv, .int x_sz, .int x_at, .int x_fr, .int x_to, .int x_va, .int x_fk, .int x_fp, .ref mfr, .ref mwt, .int x_wt, .int x_op, .int x_jo, .ref mfg, .ref mpl, .long x_dr, .ref mtm, .ref mfa, .ref mqu, .ref mmo, .ref mwy, .ref mwn, .ref mma, .ref mwi, .ref mnu, .ref mmv])), (mwy, .inl (c_wy, 201, .inr (.inl w_wy))), (mwn, .inl (c_wn, 201, .inr (.inl w_wn)))] s.heap.size = A at hD ⊢
  have hA : ∀ q : Nat, s.heap.size ≤ q → A q := fun q h => by rw [← hAe]; exact Or.inr h
  have hS : va_S A s.heap s.heap [] := va_S.rf
  have hP : va_P (dC, dI) vwCl [(o0, .inr (8, [.int x_th, .ref mwo, .ref mim, .ref mhi, .ref mlu, .ref mtp, .int x_td, .ref mfv, .int x_sz, .int x_at, .int x_fr, .int x_to, .int x_va, .int x_fk, .int x_fp, .ref mfr, .ref mwt, .int x_wt, .int x_op, .int x_jo, .ref mfg, .ref mpl, .long x_dr, .ref mtm, .ref mfa, .ref mqu, .ref mmo, .ref mwy, .ref mwn, .ref mma, .ref mwi, .ref mnu, .ref mmv])), (mwy, .inl (c_wy, 201, .inr (.inl w_wy))), (mwn, .inl (c_wn, 201, .inr (.inl w_wn)))] s.heap := hP
  have hl := lv_entry ([.ref o0, .int a1, .int a2, .int a3]) (n := 7) (Nat.le_of_ble_eq_true rfl)
  rw [lg_entry_eq]
  generalize (lg_sl ([.ref o0, .int a1, .int a2, .int a3]) ++ List.replicate (7 - (lg_sl ([.ref o0, .int a1, .int a2, .int a3])).length) Slot.unset).toArray = ls at hl ⊢
  have hl : lv_has ls 7 [(0, .ref o0), (1, .int a1), (2, .int a2), (3, .int a3)] := hl
  refine lv_iconst (v := 0) hx hb dX10_fillWays_0 (by decide) ?_
  refine lv_istore (lv' := [(4, .int 0), (0, .ref o0), (1, .int a1), (2, .int a2), (3, .int a3)]) hx hb dX10_fillWays_1 hl (by decide) rfl (fun ls hl => ?_)
  refine loopW (σ := Int32 × (Nat → Int64)) (fun v => (201 - v.1.toInt).toNat) (fun v H locs ls => ((0 : Int) ≤ v.1.toInt ∧ v.1.toInt ≤ 201) ∧ va_P (dC, dI) vwCl [(o0, .inr (8, [.int x_th, .ref mwo, .ref mim, .ref mhi, .ref mlu, .ref mtp, .int x_td, .ref mfv, .int x_sz, .int x_at, .int x_fr, .int x_to, .int x_va, .int x_fk, .int x_fp, .ref mfr, .ref mwt, .int x_wt, .int x_op, .int x_jo, .ref mfg, .ref mpl, .long x_dr, .ref mtm, .ref mfa, .ref mqu, .ref mmo, .ref mwy, .ref mwn, .ref mma, .ref mwi, .ref mnu, .ref mmv])), (mwy, .inl (c_wy, 201, .inr (.inl v.2))), (mwn, .inl (c_wn, 201, .inr (.inl w_wn)))] H ∧ va_D A [(o0, .inr (8, [.int x_th, .ref mwo, .ref mim, .ref mhi, .ref mlu, .ref mtp, .int x_td, .ref mfv, .int x_sz, .int x_at, .int x_fr, .int x_to, .int x_va, .int x_fk, .int x_fp, .ref mfr, .ref mwt, .int x_wt, .int x_op, .int x_jo, .ref mfg, .ref mpl, .long x_dr, .ref mtm, .ref mfa, .ref mqu, .ref mmo, .ref mwy, .ref mwn, .ref mma, .ref mwi, .ref mnu, .ref mmv])), (mwy, .inl (c_wy, 201, .inr (.inl v.2))), (mwn, .inl (c_wn, 201, .inr (.inl w_wn)))] ∧ va_S A s.heap H locs ∧ lv_has ls 7 [(4, .int v.1), (0, .ref o0), (1, .int a1), (2, .int a2), (3, .int a3)]) (fun v H locs ls hI ih_3_37122 => ?_) ((0 : Int32), w_wy) ⟨(show (0 : Int) ≤ (0 : Int32).toInt ∧ (0 : Int32).toInt ≤ 201 from (rg_w (by decide : (0 : Int) ≤ (0 : Int32).toInt ∧ (0 : Int32).toInt ≤ 0) (by decide) (by decide))), hP, hD, hS, lv_sub hl [0, 1, 2, 3, 4] rfl⟩
  obtain ⟨y_22272, f_22273⟩ := v
  obtain ⟨b_y_22272, hP, hD, hS, hl⟩ := hI
  have b_y_22272 : (0 : Int) ≤ y_22272.toInt ∧ y_22272.toInt ≤ 201 := b_y_22272
  have hP : va_P (dC, dI) vwCl [(o0, .inr (8, [.int x_th, .ref mwo, .ref mim, .ref mhi, .ref mlu, .ref mtp, .int x_td, .ref mfv, .int x_sz, .int x_at, .int x_fr, .int x_to, .int x_va, .int x_fk, .int x_fp, .ref mfr, .ref mwt, .int x_wt, .int x_op, .int x_jo, .ref mfg, .ref mpl, .long x_dr, .ref mtm, .ref mfa, .ref mqu, .ref mmo, .ref mwy, .ref mwn, .ref mma, .ref mwi, .ref mnu, .ref mmv])), (mwy, .inl (c_wy, 201, .inr (.inl f_22273))), (mwn, .inl (c_wn, 201, .inr (.inl w_wn)))] H := hP
  have hD : va_D A [(o0, .inr (8, [.int x_th, .ref mwo, .ref mim, .ref mhi, .ref mlu, .ref mtp, .int x_td, .ref mfv, .int x_sz, .int x_at, .int x_fr, .int x_to, .int x_va, .int x_fk, .int x_fp, .ref mfr, .ref mwt, .int x_wt, .int x_op, .int x_jo, .ref mfg, .ref mpl, .long x_dr, .ref mtm, .ref mfa, .ref mqu, .ref mmo, .ref mwy, .ref mwn, .ref mma, .ref mwi, .ref mnu, .ref mmv])), (mwy, .inl (c_wy, 201, .inr (.inl f_22273))), (mwn, .inl (c_wn, 201, .inr (.inl w_wn)))] := hD
  have hl : lv_has ls 7 [(4, .int y_22272), (0, .ref o0), (1, .int a1), (2, .int a2), (3, .int a3)] := hl
  refine lv_iload hx hb dX10_fillWays_3 (lv_at hl 0 rfl) ?_
  refine lv_sipush (v := 201) hx hb dX10_fillWays_5 (by decide) ?_
  refine lv_icmp_ge (tgt := 34) hx hb dX10_fillWays_8 (by decide) (fun c_37123 => ?_) (fun c_37123 => ?_)
  ·
    have n_c_37123 : (201 : Int) ≤ y_22272.toInt := c_ge rfl (by decide) c_37123
    have b_y_22272 : (201 : Int) ≤ y_22272.toInt ∧ y_22272.toInt ≤ 201 := r_le2 (by decide : (201 : Int) ≤ (201 : Int32).toInt ∧ (201 : Int32).toInt ≤ 201) b_y_22272 n_c_37123 (by decide)
    refine lv_iconst (v := 0) hx hb dX10_fillWays_34 (by decide) ?_
    refine lv_istore (lv' := [(4, .int 0), (0, .ref o0), (1, .int a1), (2, .int a2), (3, .int a3)]) hx hb dX10_fillWays_35 hl (by decide) rfl (fun ls hl => ?_)
    refine loopW (σ := Int32 × (Nat → Int64) × (Nat → Int64)) (fun v => (12 - v.1.toInt).toNat) (fun v H locs ls => ((0 : Int) ≤ v.1.toInt ∧ v.1.toInt ≤ 12) ∧ va_P (dC, dI) vwCl [(o0, .inr (8, [.int x_th, .ref mwo, .ref mim, .ref mhi, .ref mlu, .ref mtp, .int x_td, .ref mfv, .int x_sz, .int x_at, .int x_fr, .int x_to, .int x_va, .int x_fk, .int x_fp, .ref mfr, .ref mwt, .int x_wt, .int x_op, .int x_jo, .ref mfg, .ref mpl, .long x_dr, .ref mtm, .ref mfa, .ref mqu, .ref mmo, .ref mwy, .ref mwn, .ref mma, .ref mwi, .ref mnu, .ref mmv])), (mwy, .inl (c_wy, 201, .inr (.inl v.2.1))), (mwn, .inl (c_wn, 201, .inr (.inl v.2.2)))] H ∧ va_D A [(o0, .inr (8, [.int x_th, .ref mwo, .ref mim, .ref mhi, .ref mlu, .ref mtp, .int x_td, .ref mfv, .int x_sz, .int x_at, .int x_fr, .int x_to, .int x_va, .int x_fk, .int x_fp, .ref mfr, .ref mwt, .int x_wt, .int x_op, .int x_jo, .ref mfg, .ref mpl, .long x_dr, .ref mtm, .ref mfa, .ref mqu, .ref mmo, .ref mwy, .ref mwn, .ref mma, .ref mwi, .ref mnu, .ref mmv])), (mwy, .inl (c_wy, 201, .inr (.inl v.2.1))), (mwn, .inl (c_wn, 201, .inr (.inl v.2.2)))] ∧ va_S A s.heap H locs ∧ lv_has ls 7 [(4, .int v.1), (0, .ref o0), (1, .int a1), (2, .int a2), (3, .int a3)]) (fun v H locs ls hI ih_37_43050 => ?_) ((0 : Int32), f_22273, w_wn) ⟨(show (0 : Int) ≤ (0 : Int32).toInt ∧ (0 : Int32).toInt ≤ 12 from (rg_w (by decide : (0 : Int) ≤ (0 : Int32).toInt ∧ (0 : Int32).toInt ≤ 0) (by decide) (by decide))), hP, hD, hS, lv_sub hl [0, 1, 2, 3, 4] rfl⟩
    obtain ⟨y_38608, f_38609, f_38610⟩ := v
    obtain ⟨b_y_38608, hP, hD, hS, hl⟩ := hI
    have b_y_38608 : (0 : Int) ≤ y_38608.toInt ∧ y_38608.toInt ≤ 12 := b_y_38608
    have hP : va_P (dC, dI) vwCl [(o0, .inr (8, [.int x_th, .ref mwo, .ref mim, .ref mhi, .ref mlu, .ref mtp, .int x_td, .ref mfv, .int x_sz, .int x_at, .int x_fr, .int x_to, .int x_va, .int x_fk, .int x_fp, .ref mfr, .ref mwt, .int x_wt, .int x_op, .int x_jo, .ref mfg, .ref mpl, .long x_dr, .ref mtm, .ref mfa, .ref mqu, .ref mmo, .ref mwy, .ref mwn, .ref mma, .ref mwi, .ref mnu, .ref mmv])), (mwy, .inl (c_wy, 201, .inr (.inl f_38609))), (mwn, .inl (c_wn, 201, .inr (.inl f_38610)))] H := hP
    have hD : va_D A [(o0, .inr (8, [.int x_th, .ref mwo, .ref mim, .ref mhi, .ref mlu, .ref mtp, .int x_td, .ref mfv, .int x_sz, .int x_at, .int x_fr, .int x_to, .int x_va, .int x_fk, .int x_fp, .ref mfr, .ref mwt, .int x_wt, .int x_op, .int x_jo, .ref mfg, .ref mpl, .long x_dr, .ref mtm, .ref mfa, .ref mqu, .ref mmo, .ref mwy, .ref mwn, .ref mma, .ref mwi, .ref mnu, .ref mmv])), (mwy, .inl (c_wy, 201, .inr (.inl f_38609))), (mwn, .inl (c_wn, 201, .inr (.inl f_38610)))] := hD
    have hl : lv_has ls 7 [(4, .int y_38608), (0, .ref o0), (1, .int a1), (2, .int a2), (3, .int a3)] := hl
    refine lv_iload hx hb dX10_fillWays_37 (lv_at hl 0 rfl) ?_
    refine lv_iload_n hx hb dX10_fillWays_39 rfl (lv_at hl 2 rfl) ?_
    refine lv_icmp_ge (tgt := 147) hx hb dX10_fillWays_40 (by decide) (fun c_43051 => ?_) (fun c_43051 => ?_)
    ·
      have n_c_43051 : (a1.toInt : Int) ≤ y_38608.toInt := c_ge rfl rfl c_43051
      have hP9 := hP.sub (ws' := [(o0, .inr (8, [.int x_th, .ref mwo, .ref mim, .ref mhi, .ref mlu, .ref mtp, .int x_td, .ref mfv, .int x_sz, .int x_at, .int x_fr, .int x_to, .int x_va, .int x_fk, .int x_fp, .ref mfr, .ref mwt, .int x_wt, .int x_op, .int x_jo, .ref mfg, .ref mpl, .long x_dr, .ref mtm, .ref mfa, .ref mqu, .ref mmo, .ref mwy, .ref mwn, .ref mma, .ref mwi, .ref mnu, .ref mmv])), (mwy, .inl (c_wy, 201, .inr (.inl f_38609))), (mwn, .inl (c_wn, 201, .inr (.inl f_38610)))]) [0, 1, 2] rfl
      have hD9 := hD.sub (ws' := [(o0, .inr (8, [.int x_th, .ref mwo, .ref mim, .ref mhi, .ref mlu, .ref mtp, .int x_td, .ref mfv, .int x_sz, .int x_at, .int x_fr, .int x_to, .int x_va, .int x_fk, .int x_fp, .ref mfr, .ref mwt, .int x_wt, .int x_op, .int x_jo, .ref mfg, .ref mpl, .long x_dr, .ref mtm, .ref mfa, .ref mqu, .ref mmo, .ref mwy, .ref mwn, .ref mma, .ref mwi, .ref mnu, .ref mmv])), (mwy, .inl (c_wy, 201, .inr (.inl f_38609))), (mwn, .inl (c_wn, 201, .inr (.inl f_38610)))]) [0, 1, 2] (by decide) rfl
      have hK9 := hK.sub (tys' := [(c_wy, .long), (c_wn, .long)]) [0, 1] rfl
      exact W.vret hx hb hr (fun t ht hW => ⟨⟨(), rfl, trivial, f_38609, f_38610, by rw [ht]; exact hP9, va_K.moved hW.alike hK9, hD9⟩, hS.F ht⟩) hS.2.2 dX10_fillWays_147
    ·
      have n_c_43051 : (y_38608.toInt : Int) < a1.toInt := c_nge rfl rfl c_43051
      have b_y_38608 : (0 : Int) ≤ y_38608.toInt ∧ y_38608.toInt ≤ 11 := r_lt1 b_y_38608 b_a1 n_c_43051 (by decide)
      have b_a1 : (1 : Int) ≤ a1.toInt ∧ a1.toInt ≤ 12 := r_lt2 b_y_38608 b_a1 n_c_43051 (by decide)
      refine lv_iconst (v := 0) hx hb dX10_fillWays_43 (by decide) ?_
      refine lv_istore (lv' := [(5, .int 0), (4, .int y_38608), (0, .ref o0), (1, .int a1), (2, .int a2), (3, .int a3)]) hx hb dX10_fillWays_44 hl (by decide) rfl (fun ls hl => ?_)
      refine loopW (σ := Int32 × (Nat → Int64)) (fun v => (201 - v.1.toInt).toNat) (fun v H locs ls => ((0 : Int) ≤ v.1.toInt ∧ v.1.toInt ≤ 201) ∧ va_P (dC, dI) vwCl [(o0, .inr (8, [.int x_th, .ref mwo, .ref mim, .ref mhi, .ref mlu, .ref mtp, .int x_td, .ref mfv, .int x_sz, .int x_at, .int x_fr, .int x_to, .int x_va, .int x_fk, .int x_fp, .ref mfr, .ref mwt, .int x_wt, .int x_op, .int x_jo, .ref mfg, .ref mpl, .long x_dr, .ref mtm, .ref mfa, .ref mqu, .ref mmo, .ref mwy, .ref mwn, .ref mma, .ref mwi, .ref mnu, .ref mmv])), (mwy, .inl (c_wy, 201, .inr (.inl f_38609))), (mwn, .inl (c_wn, 201, .inr (.inl v.2)))] H ∧ va_D A [(o0, .inr (8, [.int x_th, .ref mwo, .ref mim, .ref mhi, .ref mlu, .ref mtp, .int x_td, .ref mfv, .int x_sz, .int x_at, .int x_fr, .int x_to, .int x_va, .int x_fk, .int x_fp, .ref mfr, .ref mwt, .int x_wt, .int x_op, .int x_jo, .ref mfg, .ref mpl, .long x_dr, .ref mtm, .ref mfa, .ref mqu, .ref mmo, .ref mwy, .ref mwn, .ref mma, .ref mwi, .ref mnu, .ref mmv])), (mwy, .inl (c_wy, 201, .inr (.inl f_38609))), (mwn, .inl (c_wn, 201, .inr (.inl v.2)))] ∧ va_S A s.heap H locs ∧ lv_has ls 7 [(5, .int v.1), (4, .int y_38608), (0, .ref o0), (1, .int a1), (2, .int a2), (3, .int a3)]) (fun v H locs ls hI ih_46_44219 => ?_) ((0 : Int32), f_38610) ⟨(show (0 : Int) ≤ (0 : Int32).toInt ∧ (0 : Int32).toInt ≤ 201 from (rg_w (by decide : (0 : Int) ≤ (0 : Int32).toInt ∧ (0 : Int32).toInt ≤ 0) (by decide) (by decide))), hP, hD, hS, lv_sub hl [0, 1, 2, 3, 4, 5] rfl⟩
      obtain ⟨y_43101, f_43102⟩ := v
      obtain ⟨b_y_43101, hP, hD, hS, hl⟩ := hI
      have b_y_43101 : (0 : Int) ≤ y_43101.toInt ∧ y_43101.toInt ≤ 201 := b_y_43101
      have hP : va_P (dC, dI) vwCl [(o0, .inr (8, [.int x_th, .ref mwo, .ref mim, .ref mhi, .ref mlu, .ref mtp, .int x_td, .ref mfv, .int x_sz, .int x_at, .int x_fr, .int x_to, .int x_va, .int x_fk, .int x_fp, .ref mfr, .ref mwt, .int x_wt, .int x_op, .int x_jo, .ref mfg, .ref mpl, .long x_dr, .ref mtm, .ref mfa, .ref mqu, .ref mmo, .ref mwy, .ref mwn, .ref mma, .ref mwi, .ref mnu, .ref mmv])), (mwy, .inl (c_wy, 201, .inr (.inl f_38609))), (mwn, .inl (c_wn, 201, .inr (.inl f_43102)))] H := hP
      have hD : va_D A [(o0, .inr (8, [.int x_th, .ref mwo, .ref mim, .ref mhi, .ref mlu, .ref mtp, .int x_td, .ref mfv, .int x_sz, .int x_at, .int x_fr, .int x_to, .int x_va, .int x_fk, .int x_fp, .ref mfr, .ref mwt, .int x_wt, .int x_op, .int x_jo, .ref mfg, .ref mpl, .long x_dr, .ref mtm, .ref mfa, .ref mqu, .ref mmo, .ref mwy, .ref mwn, .ref mma, .ref mwi, .ref mnu, .ref mmv])), (mwy, .inl (c_wy, 201, .inr (.inl f_38609))), (mwn, .inl (c_wn, 201, .inr (.inl f_43102)))] := hD
      have hl : lv_has ls 7 [(5, .int y_43101), (4, .int y_38608), (0, .ref o0), (1, .int a1), (2, .int a2), (3, .int a3)] := hl
      refine lv_iload hx hb dX10_fillWays_46 (lv_at hl 0 rfl) ?_
      refine lv_sipush (v := 201) hx hb dX10_fillWays_48 (by decide) ?_
      refine lv_icmp_ge (tgt := 110) hx hb dX10_fillWays_51 (by decide) (fun c_44220 => ?_) (fun c_44220 => ?_)
      ·
        have n_c_44220 : (201 : Int) ≤ y_43101.toInt := c_ge rfl (by decide) c_44220
        have b_y_43101 : (201 : Int) ≤ y_43101.toInt ∧ y_43101.toInt ≤ 201 := r_le2 (by decide : (201 : Int) ≤ (201 : Int32).toInt ∧ (201 : Int32).toInt ≤ 201) b_y_43101 n_c_44220 (by decide)
        refine lv_iconst (v := 0) hx hb dX10_fillWays_110 (by decide) ?_
        refine lv_istore (lv' := [(5, .int 0), (4, .int y_38608), (0, .ref o0), (1, .int a1), (2, .int a2), (3, .int a3)]) hx hb dX10_fillWays_111 hl (by decide) rfl (fun ls hl => ?_)
        refine loopW (σ := Int32 × (Nat → Int64)) (fun v => (201 - v.1.toInt).toNat) (fun v H locs ls => ((0 : Int) ≤ v.1.toInt ∧ v.1.toInt ≤ 201) ∧ va_P (dC, dI) vwCl [(o0, .inr (8, [.int x_th, .ref mwo, .ref mim, .ref mhi, .ref mlu, .ref mtp, .int x_td, .ref mfv, .int x_sz, .int x_at, .int x_fr, .int x_to, .int x_va, .int x_fk, .int x_fp, .ref mfr, .ref mwt, .int x_wt, .int x_op, .int x_jo, .ref mfg, .ref mpl, .long x_dr, .ref mtm, .ref mfa, .ref mqu, .ref mmo, .ref mwy, .ref mwn, .ref mma, .ref mwi, .ref mnu, .ref mmv])), (mwy, .inl (c_wy, 201, .inr (.inl v.2))), (mwn, .inl (c_wn, 201, .inr (.inl f_43102)))] H ∧ va_D A [(o0, .inr (8, [.int x_th, .ref mwo, .ref mim, .ref mhi, .ref mlu, .ref mtp, .int x_td, .ref mfv, .int x_sz, .int x_at, .int x_fr, .int x_to, .int x_va, .int x_fk, .int x_fp, .ref mfr, .ref mwt, .int x_wt, .int x_op, .int x_jo, .ref mfg, .ref mpl, .long x_dr, .ref mtm, .ref mfa, .ref mqu, .ref mmo, .ref mwy, .ref mwn, .ref mma, .ref mwi, .ref mnu, .ref mmv])), (mwy, .inl (c_wy, 201, .inr (.inl v.2))), (mwn, .inl (c_wn, 201, .inr (.inl f_43102)))] ∧ va_S A s.heap H locs ∧ lv_has ls 7 [(5, .int v.1), (4, .int y_38608), (0, .ref o0), (1, .int a1), (2, .int a2), (3, .int a3)]) (fun v H locs ls hI ih_113_44392 => ?_) ((0 : Int32), f_38609) ⟨(show (0 : Int) ≤ (0 : Int32).toInt ∧ (0 : Int32).toInt ≤ 201 from (rg_w (by decide : (0 : Int) ≤ (0 : Int32).toInt ∧ (0 : Int32).toInt ≤ 0) (by decide) (by decide))), hP, hD, hS, lv_sub hl [0, 1, 2, 3, 4, 5] rfl⟩
        obtain ⟨y_44355, f_44356⟩ := v
        obtain ⟨b_y_44355, hP, hD, hS, hl⟩ := hI
        have b_y_44355 : (0 : Int) ≤ y_44355.toInt ∧ y_44355.toInt ≤ 201 := b_y_44355
        have hP : va_P (dC, dI) vwCl [(o0, .inr (8, [.int x_th, .ref mwo, .ref mim, .ref mhi, .ref mlu, .ref mtp, .int x_td, .ref mfv, .int x_sz, .int x_at, .int x_fr, .int x_to, .int x_va, .int x_fk, .int x_fp, .ref mfr, .ref mwt, .int x_wt, .int x_op, .int x_jo, .ref mfg, .ref mpl, .long x_dr, .ref mtm, .ref mfa, .ref mqu, .ref mmo, .ref mwy, .ref mwn, .ref mma, .ref mwi, .ref mnu, .ref mmv])), (mwy, .inl (c_wy, 201, .inr (.inl f_44356))), (mwn, .inl (c_wn, 201, .inr (.inl f_43102)))] H := hP
        have hD : va_D A [(o0, .inr (8, [.int x_th, .ref mwo, .ref mim, .ref mhi, .ref mlu, .ref mtp, .int x_td, .ref mfv, .int x_sz, .int x_at, .int x_fr, .int x_to, .int x_va, .int x_fk, .int x_fp, .ref mfr, .ref mwt, .int x_wt, .int x_op, .int x_jo, .ref mfg, .ref mpl, .long x_dr, .ref mtm, .ref mfa, .ref mqu, .ref mmo, .ref mwy, .ref mwn, .ref mma, .ref mwi, .ref mnu, .ref mmv])), (mwy, .inl (c_wy, 201, .inr (.inl f_44356))), (mwn, .inl (c_wn, 201, .inr (.inl f_43102)))] := hD
        have hl : lv_has ls 7 [(5, .int y_44355), (4, .int y_38608), (0, .ref o0), (1, .int a1), (2, .int a2), (3, .int a3)] := hl
        refine lv_iload hx hb dX10_fillWays_113 (lv_at hl 0 rfl) ?_
        refine lv_sipush (v := 201) hx hb dX10_fillWays_115 (by decide) ?_
        refine lv_icmp_ge (tgt := 141) hx hb dX10_fillWays_118 (by decide) (fun c_44393 => ?_) (fun c_44393 => ?_)
        ·
          have n_c_44393 : (201 : Int) ≤ y_44355.toInt := c_ge rfl (by decide) c_44393
          have b_y_44355 : (201 : Int) ≤ y_44355.toInt ∧ y_44355.toInt ≤ 201 := r_le2 (by decide : (201 : Int) ≤ (201 : Int32).toInt ∧ (201 : Int32).toInt ≤ 201) b_y_44355 n_c_44393 (by decide)
          obtain ⟨z_44397, e_z_44397⟩ : ∃ y : Int32, y = y_38608 + 1 := ⟨_, rfl⟩
          refine lv_iinc (v := z_44397) (lv' := [(4, .int z_44397), (5, .int y_44355), (0, .ref o0), (1, .int a1), (2, .int a2), (3, .int a3)]) hx hb dX10_fillWays_141 hl (k := 1) rfl (by rw [e_z_44397]; rfl) (by decide) rfl (fun ls hl => ?_)
          obtain ⟨q_z_44397, b_z_44397⟩ := ti_add (lo := 1) (hi := 12) e_z_44397 rfl (by decide : (1 : Int32).toInt = 1) b_y_38608 (by decide : (1 : Int) ≤ (1 : Int32).toInt ∧ (1 : Int32).toInt ≤ 1) (by decide)
          refine lv_goto (tgt := 37) hx hb dX10_fillWays_144 (by decide) ?_
          exact ih_37_43050 (z_44397, f_44356, f_43102) _ _ _ ⟨(show (0 : Int) ≤ z_44397.toInt ∧ z_44397.toInt ≤ 12 from (rg_w b_z_44397 (by decide) (by decide))), hP, hD, hS, lv_sub hl [0, 2, 3, 4, 5] rfl⟩ (show (12 - z_44397.toInt).toNat < (12 - y_38608.toInt).toNat by omega)
        ·
          have n_c_44393 : (y_44355.toInt : Int) < 201 := c_nge rfl (by decide) c_44393
          have b_y_44355 : (0 : Int) ≤ y_44355.toInt ∧ y_44355.toInt ≤ 200 := r_lt1 b_y_44355 (by decide : (201 : Int) ≤ (201 : Int32).toInt ∧ (201 : Int32).toInt ≤ 201) n_c_44393 (by decide)
          refine lv_aload_n hx hb dX10_fillWays_121 rfl (lv_at hl 2 rfl) ?_
          refine va_get (D := (dC, dI)) (ci := 8) (v := .ref mwy) (C := RX10) (T := TX10) (N := 33) hx hb hts iX10_fillWays_X10 hown hK hP 0 rfl rfl 27 (by decide) (hts (.fieldLink RX10 58 "LuckyTicketModel" "ways" "[J") (List.mem_of_getElem? (i := 1) rfl)) (fun _ h9 => h9) rfl dX10_fillWays_122 ?_
          refine lv_iload hx hb dX10_fillWays_125 (lv_at hl 0 rfl) ?_
          refine lv_aload_n hx hb dX10_fillWays_127 rfl (lv_at hl 2 rfl) ?_
          refine va_get (D := (dC, dI)) (ci := 8) (v := .ref mwn) (C := RX10) (T := TX10) (N := 33) hx hb hts iX10_fillWays_X10 hown hK hP 0 rfl rfl 28 (by decide) (hts (.fieldLink RX10 62 "LuckyTicketModel" "waysOn" "[J") (List.mem_of_getElem? (i := 2) rfl)) (fun _ h9 => h9) rfl dX10_fillWays_128 ?_
          refine lv_iload hx hb dX10_fillWays_131 (lv_at hl 0 rfl) ?_
          refine va_lald hx hb hK hP 2 1 rfl rfl (vp_in_b b_y_44355 (by decide) (by decide)) dX10_fillWays_133 ?_
          refine lv_topl (fun z_44398 e_z_44398 => ?_)
          refine va_last hx hb hK hP hD hS 1 0 rfl rfl (vp_in_b b_y_44355 (by decide) (by decide)) dX10_fillWays_134 (fun H locs hP hD hS => ?_)
          have hP : va_P (dC, dI) vwCl [(o0, .inr (8, [.int x_th, .ref mwo, .ref mim, .ref mhi, .ref mlu, .ref mtp, .int x_td, .ref mfv, .int x_sz, .int x_at, .int x_fr, .int x_to, .int x_va, .int x_fk, .int x_fp, .ref mfr, .ref mwt, .int x_wt, .int x_op, .int x_jo, .ref mfg, .ref mpl, .long x_dr, .ref mtm, .ref mfa, .ref mqu, .ref mmo, .ref mwy, .ref mwn, .ref mma, .ref mwi, .ref mnu, .ref mmv])), (mwy, .inl (c_wy, 201, .inr (.inl (vp_updL f_44356 (y_44355 : Int32).toNatClampNeg z_44398)))), (mwn, .inl (c_wn, 201, .inr (.inl f_43102)))] H := hP
          have hD : va_D A [(o0, .inr (8, [.int x_th, .ref mwo, .ref mim, .ref mhi, .ref mlu, .ref mtp, .int x_td, .ref mfv, .int x_sz, .int x_at, .int x_fr, .int x_to, .int x_va, .int x_fk, .int x_fp, .ref mfr, .ref mwt, .int x_wt, .int x_op, .int x_jo, .ref mfg, .ref mpl, .long x_dr, .ref mtm, .ref mfa, .ref mqu, .ref mmo, .ref mwy, .ref mwn, .ref mma, .ref mwi, .ref mnu, .ref mmv])), (mwy, .inl (c_wy, 201, .inr (.inl (vp_updL f_44356 (y_44355 : Int32).toNatClampNeg z_44398)))), (mwn, .inl (c_wn, 201, .inr (.inl f_43102)))] := hD
          generalize (vp_updL f_44356 (y_44355 : Int32).toNatClampNeg z_44398) = f_44399 at hP hD
          have hP : va_P (dC, dI) vwCl [(o0, .inr (8, [.int x_th, .ref mwo, .ref mim, .ref mhi, .ref mlu, .ref mtp, .int x_td, .ref mfv, .int x_sz, .int x_at, .int x_fr, .int x_to, .int x_va, .int x_fk, .int x_fp, .ref mfr, .ref mwt, .int x_wt, .int x_op, .int x_jo, .ref mfg, .ref mpl, .long x_dr, .ref mtm, .ref mfa, .ref mqu, .ref mmo, .ref mwy, .ref mwn, .ref mma, .ref mwi, .ref mnu, .ref mmv])), (mwy, .inl (c_wy, 201, .inr (.inl f_44399))), (mwn, .inl (c_wn, 201, .inr (.inl f_43102)))] H := hP
          have hD : va_D A [(o0, .inr (8, [.int x_th, .ref mwo, .ref mim, .ref mhi, .ref mlu, .ref mtp, .int x_td, .ref mfv, .int x_sz, .int x_at, .int x_fr, .int x_to, .int x_va, .int x_fk, .int x_fp, .ref mfr, .ref mwt, .int x_wt, .int x_op, .int x_jo, .ref mfg, .ref mpl, .long x_dr, .ref mtm, .ref mfa, .ref mqu, .ref mmo, .ref mwy, .ref mwn, .ref mma, .ref mwi, .ref mnu, .ref mmv])), (mwy, .inl (c_wy, 201, .inr (.inl f_44399))), (mwn, .inl (c_wn, 201, .inr (.inl f_43102)))] := hD
          obtain ⟨z_44400, e_z_44400⟩ : ∃ y : Int32, y = y_44355 + 1 := ⟨_, rfl⟩
          refine lv_iinc (v := z_44400) (lv' := [(5, .int z_44400), (4, .int y_38608), (0, .ref o0), (1, .int a1), (2, .int a2), (3, .int a3)]) hx hb dX10_fillWays_135 hl (k := 0) rfl (by rw [e_z_44400]; rfl) (by decide) rfl (fun ls hl => ?_)
          obtain ⟨q_z_44400, b_z_44400⟩ := ti_add (lo := 1) (hi := 201) e_z_44400 rfl (by decide : (1 : Int32).toInt = 1) b_y_44355 (by decide : (1 : Int) ≤ (1 : Int32).toInt ∧ (1 : Int32).toInt ≤ 1) (by decide)
          refine lv_goto (tgt := 113) hx hb dX10_fillWays_138 (by decide) ?_
          exact ih_113_44392 (z_44400, f_44399) _ _ _ ⟨(show (0 : Int) ≤ z_44400.toInt ∧ z_44400.toInt ≤ 201 from (rg_w b_z_44400 (by decide) (by decide))), hP, hD, hS, lv_sub hl [0, 1, 2, 3, 4, 5] rfl⟩ (show (201 - z_44400.toInt).toNat < (201 - y_44355.toInt).toNat by omega)
      ·
        have n_c_44220 : (y_43101.toInt : Int) < 201 := c_nge rfl (by decide) c_44220
        have b_y_43101 : (0 : Int) ≤ y_43101.toInt ∧ y_43101.toInt ≤ 200 := r_lt1 b_y_43101 (by decide : (201 : Int) ≤ (201 : Int32).toInt ∧ (201 : Int32).toInt ≤ 201) n_c_44220 (by decide)
        refine lv_aload_n hx hb dX10_fillWays_54 rfl (lv_at hl 2 rfl) ?_
        refine va_get (D := (dC, dI)) (ci := 8) (v := .ref mwn) (C := RX10) (T := TX10) (N := 33) hx hb hts iX10_fillWays_X10 hown hK hP 0 rfl rfl 28 (by decide) (hts (.fieldLink RX10 62 "LuckyTicketModel" "waysOn" "[J") (List.mem_of_getElem? (i := 2) rfl)) (fun _ h9 => h9) rfl dX10_fillWays_55 ?_
        refine lv_iload hx hb dX10_fillWays_58 (lv_at hl 0 rfl) ?_
        refine lv_lconst (v := 0) hx hb dX10_fillWays_60 (by decide) ?_
        refine va_last hx hb hK hP hD hS 2 1 rfl rfl (vp_in_b b_y_43101 (by decide) (by decide)) dX10_fillWays_61 (fun H locs hP hD hS => ?_)
        have hP : va_P (dC, dI) vwCl [(o0, .inr (8, [.int x_th, .ref mwo, .ref mim, .ref mhi, .ref mlu, .ref mtp, .int x_td, .ref mfv, .int x_sz, .int x_at, .int x_fr, .int x_to, .int x_va, .int x_fk, .int x_fp, .ref mfr, .ref mwt, .int x_wt, .int x_op, .int x_jo, .ref mfg, .ref mpl, .long x_dr, .ref mtm, .ref mfa, .ref mqu, .ref mmo, .ref mwy, .ref mwn, .ref mma, .ref mwi, .ref mnu, .ref mmv])), (mwy, .inl (c_wy, 201, .inr (.inl f_38609))), (mwn, .inl (c_wn, 201, .inr (.inl (vp_updL f_43102 (y_43101 : Int32).toNatClampNeg 0))))] H := hP
        have hD : va_D A [(o0, .inr (8, [.int x_th, .ref mwo, .ref mim, .ref mhi, .ref mlu, .ref mtp, .int x_td, .ref mfv, .int x_sz, .int x_at, .int x_fr, .int x_to, .int x_va, .int x_fk, .int x_fp, .ref mfr, .ref mwt, .int x_wt, .int x_op, .int x_jo, .ref mfg, .ref mpl, .long x_dr, .ref mtm, .ref mfa, .ref mqu, .ref mmo, .ref mwy, .ref mwn, .ref mma, .ref mwi, .ref mnu, .ref mmv])), (mwy, .inl (c_wy, 201, .inr (.inl f_38609))), (mwn, .inl (c_wn, 201, .inr (.inl (vp_updL f_43102 (y_43101 : Int32).toNatClampNeg 0))))] := hD
        generalize (vp_updL f_43102 (y_43101 : Int32).toNatClampNeg 0) = f_44401 at hP hD
        have hP : va_P (dC, dI) vwCl [(o0, .inr (8, [.int x_th, .ref mwo, .ref mim, .ref mhi, .ref mlu, .ref mtp, .int x_td, .ref mfv, .int x_sz, .int x_at, .int x_fr, .int x_to, .int x_va, .int x_fk, .int x_fp, .ref mfr, .ref mwt, .int x_wt, .int x_op, .int x_jo, .ref mfg, .ref mpl, .long x_dr, .ref mtm, .ref mfa, .ref mqu, .ref mmo, .ref mwy, .ref mwn, .ref mma, .ref mwi, .ref mnu, .ref mmv])), (mwy, .inl (c_wy, 201, .inr (.inl f_38609))), (mwn, .inl (c_wn, 201, .inr (.inl f_44401)))] H := hP
        have hD : va_D A [(o0, .inr (8, [.int x_th, .ref mwo, .ref mim, .ref mhi, .ref mlu, .ref mtp, .int x_td, .ref mfv, .int x_sz, .int x_at, .int x_fr, .int x_to, .int x_va, .int x_fk, .int x_fp, .ref mfr, .ref mwt, .int x_wt, .int x_op, .int x_jo, .ref mfg, .ref mpl, .long x_dr, .ref mtm, .ref mfa, .ref mqu, .ref mmo, .ref mwy, .ref mwn, .ref mma, .ref mwi, .ref mnu, .ref mmv])), (mwy, .inl (c_wy, 201, .inr (.inl f_38609))), (mwn, .inl (c_wn, 201, .inr (.inl f_44401)))] := hD
        refine lv_iload_n hx hb dX10_fillWays_62 rfl (lv_at hl 4 rfl) ?_
        refine lv_istore (lv' := [(6, .int a2), (5, .int y_43101), (4, .int y_38608), (0, .ref o0), (1, .int a1), (2, .int a2), (3, .int a3)]) hx hb dX10_fillWays_63 hl (by decide) rfl (fun ls hl => ?_)
        refine loopW (σ := Int32 × (Nat → Int64)) (fun v => (17 - v.1.toInt).toNat) (fun v H locs ls => ((0 : Int) ≤ v.1.toInt ∧ v.1.toInt ≤ 17) ∧ va_P (dC, dI) vwCl [(o0, .inr (8, [.int x_th, .ref mwo, .ref mim, .ref mhi, .ref mlu, .ref mtp, .int x_td, .ref mfv, .int x_sz, .int x_at, .int x_fr, .int x_to, .int x_va, .int x_fk, .int x_fp, .ref mfr, .ref mwt, .int x_wt, .int x_op, .int x_jo, .ref mfg, .ref mpl, .long x_dr, .ref mtm, .ref mfa, .ref mqu, .ref mmo, .ref mwy, .ref mwn, .ref mma, .ref mwi, .ref mnu, .ref mmv])), (mwy, .inl (c_wy, 201, .inr (.inl f_38609))), (mwn, .inl (c_wn, 201, .inr (.inl v.2)))] H ∧ va_D A [(o0, .inr (8, [.int x_th, .ref mwo, .ref mim, .ref mhi, .ref mlu, .ref mtp, .int x_td, .ref mfv, .int x_sz, .int x_at, .int x_fr, .int x_to, .int x_va, .int x_fk, .int x_fp, .ref mfr, .ref mwt, .int x_wt, .int x_op, .int x_jo, .ref mfg, .ref mpl, .long x_dr, .ref mtm, .ref mfa, .ref mqu, .ref mmo, .ref mwy, .ref mwn, .ref mma, .ref mwi, .ref mnu, .ref mmv])), (mwy, .inl (c_wy, 201, .inr (.inl f_38609))), (mwn, .inl (c_wn, 201, .inr (.inl v.2)))] ∧ va_S A s.heap H locs ∧ lv_has ls 7 [(6, .int v.1), (5, .int y_43101), (4, .int y_38608), (0, .ref o0), (1, .int a1), (2, .int a2), (3, .int a3)]) (fun v H locs ls hI ih_65_44514 => ?_) (a2, f_44401) ⟨(show (0 : Int) ≤ a2.toInt ∧ a2.toInt ≤ 17 from (rg_w b_a2 (by decide) (by decide))), hP, hD, hS, lv_sub hl [0, 1, 2, 3, 4, 5, 6] rfl⟩
        obtain ⟨y_44417, f_44418⟩ := v
        obtain ⟨b_y_44417, hP, hD, hS, hl⟩ := hI
        have b_y_44417 : (0 : Int) ≤ y_44417.toInt ∧ y_44417.toInt ≤ 17 := b_y_44417
        have hP : va_P (dC, dI) vwCl [(o0, .inr (8, [.int x_th, .ref mwo, .ref mim, .ref mhi, .ref mlu, .ref mtp, .int x_td, .ref mfv, .int x_sz, .int x_at, .int x_fr, .int x_to, .int x_va, .int x_fk, .int x_fp, .ref mfr, .ref mwt, .int x_wt, .int x_op, .int x_jo, .ref mfg, .ref mpl, .long x_dr, .ref mtm, .ref mfa, .ref mqu, .ref mmo, .ref mwy, .ref mwn, .ref mma, .ref mwi, .ref mnu, .ref mmv])), (mwy, .inl (c_wy, 201, .inr (.inl f_38609))), (mwn, .inl (c_wn, 201, .inr (.inl f_44418)))] H := hP
        have hD : va_D A [(o0, .inr (8, [.int x_th, .ref mwo, .ref mim, .ref mhi, .ref mlu, .ref mtp, .int x_td, .ref mfv, .int x_sz, .int x_at, .int x_fr, .int x_to, .int x_va, .int x_fk, .int x_fp, .ref mfr, .ref mwt, .int x_wt, .int x_op, .int x_jo, .ref mfg, .ref mpl, .long x_dr, .ref mtm, .ref mfa, .ref mqu, .ref mmo, .ref mwy, .ref mwn, .ref mma, .ref mwi, .ref mnu, .ref mmv])), (mwy, .inl (c_wy, 201, .inr (.inl f_38609))), (mwn, .inl (c_wn, 201, .inr (.inl f_44418)))] := hD
        have hl : lv_has ls 7 [(6, .int y_44417), (5, .int y_43101), (4, .int y_38608), (0, .ref o0), (1, .int a1), (2, .int a2), (3, .int a3)] := hl
        refine lv_iload hx hb dX10_fillWays_65 (lv_at hl 0 rfl) ?_
        refine lv_iload_n hx hb dX10_fillWays_67 rfl (lv_at hl 6 rfl) ?_
        refine cutW (σ := Unit) (pc2 := 104) (st2 := fun v => []) (cells2 := 0) (slots2 := 0) (fun v H locs ls => va_P (dC, dI) vwCl [(o0, .inr (8, [.int x_th, .ref mwo, .ref mim, .ref mhi, .ref mlu, .ref mtp, .int x_td, .ref mfv, .int x_sz, .int x_at, .int x_fr, .int x_to, .int x_va, .int x_fk, .int x_fp, .ref mfr, .ref mwt, .int x_wt, .int x_op, .int x_jo, .ref mfg, .ref mpl, .long x_dr, .ref mtm, .ref mfa, .ref mqu, .ref mmo, .ref mwy, .ref mwn, .ref mma, .ref mwi, .ref mnu, .ref mmv])), (mwy, .inl (c_wy, 201, .inr (.inl f_38609))), (mwn, .inl (c_wn, 201, .inr (.inl f_44418)))] H ∧ va_D A [(o0, .inr (8, [.int x_th, .ref mwo, .ref mim, .ref mhi, .ref mlu, .ref mtp, .int x_td, .ref mfv, .int x_sz, .int x_at, .int x_fr, .int x_to, .int x_va, .int x_fk, .int x_fp, .ref mfr, .ref mwt, .int x_wt, .int x_op, .int x_jo, .ref mfg, .ref mpl, .long x_dr, .ref mtm, .ref mfa, .ref mqu, .ref mmo, .ref mwy, .ref mwn, .ref mma, .ref mwi, .ref mnu, .ref mmv])), (mwy, .inl (c_wy, 201, .inr (.inl f_38609))), (mwn, .inl (c_wn, 201, .inr (.inl f_44418)))] ∧ va_S A s.heap H locs ∧ lv_has ls 7 [(6, .int y_44417), (5, .int y_43101), (4, .int y_38608), (0, .ref o0), (1, .int a1), (2, .int a2), (3, .int a3)]) (fun v H locs ls hI => ?_) (fun hj_104_44522 => ?_)
        ·
          obtain ⟨hP, hD, hS, hl⟩ := hI
          have hP : va_P (dC, dI) vwCl [(o0, .inr (8, [.int x_th, .ref mwo, .ref mim, .ref mhi, .ref mlu, .ref mtp, .int x_td, .ref mfv, .int x_sz, .int x_at, .int x_fr, .int x_to, .int x_va, .int x_fk, .int x_fp, .ref mfr, .ref mwt, .int x_wt, .int x_op, .int x_jo, .ref mfg, .ref mpl, .long x_dr, .ref mtm, .ref mfa, .ref mqu, .ref mmo, .ref mwy, .ref mwn, .ref mma, .ref mwi, .ref mnu, .ref mmv])), (mwy, .inl (c_wy, 201, .inr (.inl f_38609))), (mwn, .inl (c_wn, 201, .inr (.inl f_44418)))] H := hP
          have hD : va_D A [(o0, .inr (8, [.int x_th, .ref mwo, .ref mim, .ref mhi, .ref mlu, .ref mtp, .int x_td, .ref mfv, .int x_sz, .int x_at, .int x_fr, .int x_to, .int x_va, .int x_fk, .int x_fp, .ref mfr, .ref mwt, .int x_wt, .int x_op, .int x_jo, .ref mfg, .ref mpl, .long x_dr, .ref mtm, .ref mfa, .ref mqu, .ref mmo, .ref mwy, .ref mwn, .ref mma, .ref mwi, .ref mnu, .ref mmv])), (mwy, .inl (c_wy, 201, .inr (.inl f_38609))), (mwn, .inl (c_wn, 201, .inr (.inl f_44418)))] := hD
          have hl : lv_has ls 7 [(6, .int y_44417), (5, .int y_43101), (4, .int y_38608), (0, .ref o0), (1, .int a1), (2, .int a2), (3, .int a3)] := hl
          obtain ⟨z_44523, e_z_44523⟩ : ∃ y : Int32, y = y_43101 + 1 := ⟨_, rfl⟩
          refine lv_iinc (v := z_44523) (lv' := [(5, .int z_44523), (6, .int y_44417), (4, .int y_38608), (0, .ref o0), (1, .int a1), (2, .int a2), (3, .int a3)]) hx hb dX10_fillWays_104 hl (k := 1) rfl (by rw [e_z_44523]; rfl) (by decide) rfl (fun ls hl => ?_)
          obtain ⟨q_z_44523, b_z_44523⟩ := ti_add (lo := 1) (hi := 201) e_z_44523 rfl (by decide : (1 : Int32).toInt = 1) b_y_43101 (by decide : (1 : Int) ≤ (1 : Int32).toInt ∧ (1 : Int32).toInt ≤ 1) (by decide)
          refine lv_goto (tgt := 46) hx hb dX10_fillWays_107 (by decide) ?_
          exact ih_46_44219 (z_44523, f_44418) _ _ _ ⟨(show (0 : Int) ≤ z_44523.toInt ∧ z_44523.toInt ≤ 201 from (rg_w b_z_44523 (by decide) (by decide))), hP, hD, hS, lv_sub hl [0, 2, 3, 4, 5, 6] rfl⟩ (show (201 - z_44523.toInt).toNat < (201 - y_43101.toInt).toNat by omega)
        ·
          refine lv_icmp_gt (tgt := 104) hx hb dX10_fillWays_68 (by decide) (fun c_44515 => ?_) (fun c_44515 => ?_)
          ·
            have n_c_44515 : (a3.toInt : Int) < y_44417.toInt := c_gt rfl rfl c_44515
            have b_y_44417 : (2 : Int) ≤ y_44417.toInt ∧ y_44417.toInt ≤ 17 := r_lt2 b_a3 b_y_44417 n_c_44515 (by decide)
            exact hj_104_44522 () _ _ _ ⟨hP, hD, hS, lv_sub hl [0, 1, 2, 3, 4, 5, 6] rfl⟩
          ·
            have n_c_44515 : (y_44417.toInt : Int) ≤ a3.toInt := c_ngt rfl rfl c_44515
            have b_y_44417 : (0 : Int) ≤ y_44417.toInt ∧ y_44417.toInt ≤ 16 := r_le1 b_y_44417 b_a3 n_c_44515 (by decide)
            refine lv_iload hx hb dX10_fillWays_71 (lv_at hl 0 rfl) ?_
            refine lv_iload hx hb dX10_fillWays_73 (lv_at hl 1 rfl) ?_
            refine lv_icmp_gt (tgt := 104) hx hb dX10_fillWays_75 (by decide) (fun c_44524 => ?_) (fun c_44524 => ?_)
            ·
              have n_c_44524 : (y_43101.toInt : Int) < y_44417.toInt := c_gt rfl rfl c_44524
              have b_y_43101 : (0 : Int) ≤ y_43101.toInt ∧ y_43101.toInt ≤ 15 := r_lt1 b_y_43101 b_y_44417 n_c_44524 (by decide)
              have b_y_44417 : (1 : Int) ≤ y_44417.toInt ∧ y_44417.toInt ≤ 16 := r_lt2 b_y_43101 b_y_44417 n_c_44524 (by decide)
              exact hj_104_44522 () _ _ _ ⟨hP, hD, hS, lv_sub hl [0, 1, 2, 3, 4, 5, 6] rfl⟩
            ·
              have n_c_44524 : (y_44417.toInt : Int) ≤ y_43101.toInt := c_ngt rfl rfl c_44524
              refine lv_aload_n hx hb dX10_fillWays_78 rfl (lv_at hl 3 rfl) ?_
              refine va_get (D := (dC, dI)) (ci := 8) (v := .ref mwn) (C := RX10) (T := TX10) (N := 33) hx hb hts iX10_fillWays_X10 hown hK hP 0 rfl rfl 28 (by decide) (hts (.fieldLink RX10 62 "LuckyTicketModel" "waysOn" "[J") (List.mem_of_getElem? (i := 2) rfl)) (fun _ h9 => h9) rfl dX10_fillWays_79 ?_
              refine lv_iload hx hb dX10_fillWays_82 (lv_at hl 1 rfl) ?_
              refine lv_dup2_11 hx hb dX10_fillWays_84 rfl rfl ?_
              refine va_lald hx hb hK hP 2 1 rfl rfl (vp_in_b b_y_43101 (by decide) (by decide)) dX10_fillWays_85 ?_
              refine lv_topl (fun z_44525 e_z_44525 => ?_)
              refine lv_aload_n hx hb dX10_fillWays_86 rfl (lv_at hl 3 rfl) ?_
              refine va_get (D := (dC, dI)) (ci := 8) (v := .ref mwy) (C := RX10) (T := TX10) (N := 33) hx hb hts iX10_fillWays_X10 hown hK hP 0 rfl rfl 27 (by decide) (hts (.fieldLink RX10 58 "LuckyTicketModel" "ways" "[J") (List.mem_of_getElem? (i := 1) rfl)) (fun _ h9 => h9) rfl dX10_fillWays_87 ?_
              refine lv_iload hx hb dX10_fillWays_90 (lv_at hl 1 rfl) ?_
              refine lv_iload hx hb dX10_fillWays_92 (lv_at hl 0 rfl) ?_
              refine lv_isub hx hb dX10_fillWays_94 ?_
              refine lv_topi (fun z_44526 e_z_44526 => ?_)
              obtain ⟨q_z_44526, b_z_44526⟩ := ti_sub (lo := -16) (hi := 200) e_z_44526 rfl rfl b_y_43101 b_y_44417 (by decide)
              refine va_lald hx hb hK hP 1 0 rfl rfl (vp_in_iff.mpr ⟨by omega, by omega⟩) dX10_fillWays_95 ?_
              refine lv_topl (fun z_44527 e_z_44527 => ?_)
              refine lv_ladd hx hb dX10_fillWays_96 ?_
              refine lv_topl (fun z_44528 e_z_44528 => ?_)
              refine va_last hx hb hK hP hD hS 2 1 rfl rfl (vp_in_b b_y_43101 (by decide) (by decide)) dX10_fillWays_97 (fun H locs hP hD hS => ?_)
              have hP : va_P (dC, dI) vwCl [(o0, .inr (8, [.int x_th, .ref mwo, .ref mim, .ref mhi, .ref mlu, .ref mtp, .int x_td, .ref mfv, .int x_sz, .int x_at, .int x_fr, .int x_to, .int x_va, .int x_fk, .int x_fp, .ref mfr, .ref mwt, .int x_wt, .int x_op, .int x_jo, .ref mfg, .ref mpl, .long x_dr, .ref mtm, .ref mfa, .ref mqu, .ref mmo, .ref mwy, .ref mwn, .ref mma, .ref mwi, .ref mnu, .ref mmv])), (mwy, .inl (c_wy, 201, .inr (.inl f_38609))), (mwn, .inl (c_wn, 201, .inr (.inl (vp_updL f_44418 (y_43101 : Int32).toNatClampNeg z_44528))))] H := hP
              have hD : va_D A [(o0, .inr (8, [.int x_th, .ref mwo, .ref mim, .ref mhi, .ref mlu, .ref mtp, .int x_td, .ref mfv, .int x_sz, .int x_at, .int x_fr, .int x_to, .int x_va, .int x_fk, .int x_fp, .ref mfr, .ref mwt, .int x_wt, .int x_op, .int x_jo, .ref mfg, .ref mpl, .long x_dr, .ref mtm, .ref mfa, .ref mqu, .ref mmo, .ref mwy, .ref mwn, .ref mma, .ref mwi, .ref mnu, .ref mmv])), (mwy, .inl (c_wy, 201, .inr (.inl f_38609))), (mwn, .inl (c_wn, 201, .inr (.inl (vp_updL f_44418 (y_43101 : Int32).toNatClampNeg z_44528))))] := hD
              generalize (vp_updL f_44418 (y_43101 : Int32).toNatClampNeg z_44528) = f_44529 at hP hD
              have hP : va_P (dC, dI) vwCl [(o0, .inr (8, [.int x_th, .ref mwo, .ref mim, .ref mhi, .ref mlu, .ref mtp, .int x_td, .ref mfv, .int x_sz, .int x_at, .int x_fr, .int x_to, .int x_va, .int x_fk, .int x_fp, .ref mfr, .ref mwt, .int x_wt, .int x_op, .int x_jo, .ref mfg, .ref mpl, .long x_dr, .ref mtm, .ref mfa, .ref mqu, .ref mmo, .ref mwy, .ref mwn, .ref mma, .ref mwi, .ref mnu, .ref mmv])), (mwy, .inl (c_wy, 201, .inr (.inl f_38609))), (mwn, .inl (c_wn, 201, .inr (.inl f_44529)))] H := hP
              have hD : va_D A [(o0, .inr (8, [.int x_th, .ref mwo, .ref mim, .ref mhi, .ref mlu, .ref mtp, .int x_td, .ref mfv, .int x_sz, .int x_at, .int x_fr, .int x_to, .int x_va, .int x_fk, .int x_fp, .ref mfr, .ref mwt, .int x_wt, .int x_op, .int x_jo, .ref mfg, .ref mpl, .long x_dr, .ref mtm, .ref mfa, .ref mqu, .ref mmo, .ref mwy, .ref mwn, .ref mma, .ref mwi, .ref mnu, .ref mmv])), (mwy, .inl (c_wy, 201, .inr (.inl f_38609))), (mwn, .inl (c_wn, 201, .inr (.inl f_44529)))] := hD
              obtain ⟨z_44530, e_z_44530⟩ : ∃ y : Int32, y = y_44417 + 1 := ⟨_, rfl⟩
              refine lv_iinc (v := z_44530) (lv' := [(6, .int z_44530), (5, .int y_43101), (4, .int y_38608), (0, .ref o0), (1, .int a1), (2, .int a2), (3, .int a3)]) hx hb dX10_fillWays_98 hl (k := 0) rfl (by rw [e_z_44530]; rfl) (by decide) rfl (fun ls hl => ?_)
              obtain ⟨q_z_44530, b_z_44530⟩ := ti_add (lo := 1) (hi := 17) e_z_44530 rfl (by decide : (1 : Int32).toInt = 1) b_y_44417 (by decide : (1 : Int) ≤ (1 : Int32).toInt ∧ (1 : Int32).toInt ≤ 1) (by decide)
              refine lv_goto (tgt := 65) hx hb dX10_fillWays_101 (by decide) ?_
              exact ih_65_44514 (z_44530, f_44529) _ _ _ ⟨(show (0 : Int) ≤ z_44530.toInt ∧ z_44530.toInt ≤ 17 from (rg_w b_z_44530 (by decide) (by decide))), hP, hD, hS, lv_sub hl [0, 1, 2, 3, 4, 5, 6] rfl⟩ (show (17 - z_44530.toInt).toNat < (17 - y_44417.toInt).toNat by omega)
  ·
    have n_c_37123 : (y_22272.toInt : Int) < 201 := c_nge rfl (by decide) c_37123
    have b_y_22272 : (0 : Int) ≤ y_22272.toInt ∧ y_22272.toInt ≤ 200 := r_lt1 b_y_22272 (by decide : (201 : Int) ≤ (201 : Int32).toInt ∧ (201 : Int32).toInt ≤ 201) n_c_37123 (by decide)
    refine lv_aload_n hx hb dX10_fillWays_11 rfl (lv_at hl 1 rfl) ?_
    refine va_get (D := (dC, dI)) (ci := 8) (v := .ref mwy) (C := RX10) (T := TX10) (N := 33) hx hb hts iX10_fillWays_X10 hown hK hP 0 rfl rfl 27 (by decide) (hts (.fieldLink RX10 58 "LuckyTicketModel" "ways" "[J") (List.mem_of_getElem? (i := 1) rfl)) (fun _ h9 => h9) rfl dX10_fillWays_12 ?_
    refine lv_iload hx hb dX10_fillWays_15 (lv_at hl 0 rfl) ?_
    refine lv_iload hx hb dX10_fillWays_17 (lv_at hl 0 rfl) ?_
    refine cutW (σ := Int64) (pc2 := 27) (st2 := fun v => [.long v, .int y_22272, .ref mwy]) (cells2 := 0) (slots2 := 0) (fun v H locs ls => ((0 : Int) ≤ v.toInt ∧ v.toInt ≤ 1) ∧ va_P (dC, dI) vwCl [(o0, .inr (8, [.int x_th, .ref mwo, .ref mim, .ref mhi, .ref mlu, .ref mtp, .int x_td, .ref mfv, .int x_sz, .int x_at, .int x_fr, .int x_to, .int x_va, .int x_fk, .int x_fp, .ref mfr, .ref mwt, .int x_wt, .int x_op, .int x_jo, .ref mfg, .ref mpl, .long x_dr, .ref mtm, .ref mfa, .ref mqu, .ref mmo, .ref mwy, .ref mwn, .ref mma, .ref mwi, .ref mnu, .ref mmv])), (mwy, .inl (c_wy, 201, .inr (.inl f_22273))), (mwn, .inl (c_wn, 201, .inr (.inl w_wn)))] H ∧ va_D A [(o0, .inr (8, [.int x_th, .ref mwo, .ref mim, .ref mhi, .ref mlu, .ref mtp, .int x_td, .ref mfv, .int x_sz, .int x_at, .int x_fr, .int x_to, .int x_va, .int x_fk, .int x_fp, .ref mfr, .ref mwt, .int x_wt, .int x_op, .int x_jo, .ref mfg, .ref mpl, .long x_dr, .ref mtm, .ref mfa, .ref mqu, .ref mmo, .ref mwy, .ref mwn, .ref mma, .ref mwi, .ref mnu, .ref mmv])), (mwy, .inl (c_wy, 201, .inr (.inl f_22273))), (mwn, .inl (c_wn, 201, .inr (.inl w_wn)))] ∧ va_S A s.heap H locs ∧ lv_has ls 7 [(4, .int y_22272), (0, .ref o0), (1, .int a1), (2, .int a2), (3, .int a3)]) (fun v H locs ls hI => ?_) (fun hj_27_44532 => ?_)
    ·
      obtain ⟨y_44532, rfl⟩ : ∃ z, z = v := ⟨_, rfl⟩
      obtain ⟨b_y_44532, hP, hD, hS, hl⟩ := hI
      have b_y_44532 : (0 : Int) ≤ y_44532.toInt ∧ y_44532.toInt ≤ 1 := b_y_44532
      have hP : va_P (dC, dI) vwCl [(o0, .inr (8, [.int x_th, .ref mwo, .ref mim, .ref mhi, .ref mlu, .ref mtp, .int x_td, .ref mfv, .int x_sz, .int x_at, .int x_fr, .int x_to, .int x_va, .int x_fk, .int x_fp, .ref mfr, .ref mwt, .int x_wt, .int x_op, .int x_jo, .ref mfg, .ref mpl, .long x_dr, .ref mtm, .ref mfa, .ref mqu, .ref mmo, .ref mwy, .ref mwn, .ref mma, .ref mwi, .ref mnu, .ref mmv])), (mwy, .inl (c_wy, 201, .inr (.inl f_22273))), (mwn, .inl (c_wn, 201, .inr (.inl w_wn)))] H := hP
      have hD : va_D A [(o0, .inr (8, [.int x_th, .ref mwo, .ref mim, .ref mhi, .ref mlu, .ref mtp, .int x_td, .ref mfv, .int x_sz, .int x_at, .int x_fr, .int x_to, .int x_va, .int x_fk, .int x_fp, .ref mfr, .ref mwt, .int x_wt, .int x_op, .int x_jo, .ref mfg, .ref mpl, .long x_dr, .ref mtm, .ref mfa, .ref mqu, .ref mmo, .ref mwy, .ref mwn, .ref mma, .ref mwi, .ref mnu, .ref mmv])), (mwy, .inl (c_wy, 201, .inr (.inl f_22273))), (mwn, .inl (c_wn, 201, .inr (.inl w_wn)))] := hD
      have hl : lv_has ls 7 [(4, .int y_22272), (0, .ref o0), (1, .int a1), (2, .int a2), (3, .int a3)] := hl
      refine va_last hx hb hK hP hD hS 1 0 rfl rfl (vp_in_b b_y_22272 (by decide) (by decide)) dX10_fillWays_27 (fun H locs hP hD hS => ?_)
      have hP : va_P (dC, dI) vwCl [(o0, .inr (8, [.int x_th, .ref mwo, .ref mim, .ref mhi, .ref mlu, .ref mtp, .int x_td, .ref mfv, .int x_sz, .int x_at, .int x_fr, .int x_to, .int x_va, .int x_fk, .int x_fp, .ref mfr, .ref mwt, .int x_wt, .int x_op, .int x_jo, .ref mfg, .ref mpl, .long x_dr, .ref mtm, .ref mfa, .ref mqu, .ref mmo, .ref mwy, .ref mwn, .ref mma, .ref mwi, .ref mnu, .ref mmv])), (mwy, .inl (c_wy, 201, .inr (.inl (vp_updL f_22273 (y_22272 : Int32).toNatClampNeg y_44532)))), (mwn, .inl (c_wn, 201, .inr (.inl w_wn)))] H := hP
      have hD : va_D A [(o0, .inr (8, [.int x_th, .ref mwo, .ref mim, .ref mhi, .ref mlu, .ref mtp, .int x_td, .ref mfv, .int x_sz, .int x_at, .int x_fr, .int x_to, .int x_va, .int x_fk, .int x_fp, .ref mfr, .ref mwt, .int x_wt, .int x_op, .int x_jo, .ref mfg, .ref mpl, .long x_dr, .ref mtm, .ref mfa, .ref mqu, .ref mmo, .ref mwy, .ref mwn, .ref mma, .ref mwi, .ref mnu, .ref mmv])), (mwy, .inl (c_wy, 201, .inr (.inl (vp_updL f_22273 (y_22272 : Int32).toNatClampNeg y_44532)))), (mwn, .inl (c_wn, 201, .inr (.inl w_wn)))] := hD
      generalize (vp_updL f_22273 (y_22272 : Int32).toNatClampNeg y_44532) = f_44533 at hP hD
      have hP : va_P (dC, dI) vwCl [(o0, .inr (8, [.int x_th, .ref mwo, .ref mim, .ref mhi, .ref mlu, .ref mtp, .int x_td, .ref mfv, .int x_sz, .int x_at, .int x_fr, .int x_to, .int x_va, .int x_fk, .int x_fp, .ref mfr, .ref mwt, .int x_wt, .int x_op, .int x_jo, .ref mfg, .ref mpl, .long x_dr, .ref mtm, .ref mfa, .ref mqu, .ref mmo, .ref mwy, .ref mwn, .ref mma, .ref mwi, .ref mnu, .ref mmv])), (mwy, .inl (c_wy, 201, .inr (.inl f_44533))), (mwn, .inl (c_wn, 201, .inr (.inl w_wn)))] H := hP
      have hD : va_D A [(o0, .inr (8, [.int x_th, .ref mwo, .ref mim, .ref mhi, .ref mlu, .ref mtp, .int x_td, .ref mfv, .int x_sz, .int x_at, .int x_fr, .int x_to, .int x_va, .int x_fk, .int x_fp, .ref mfr, .ref mwt, .int x_wt, .int x_op, .int x_jo, .ref mfg, .ref mpl, .long x_dr, .ref mtm, .ref mfa, .ref mqu, .ref mmo, .ref mwy, .ref mwn, .ref mma, .ref mwi, .ref mnu, .ref mmv])), (mwy, .inl (c_wy, 201, .inr (.inl f_44533))), (mwn, .inl (c_wn, 201, .inr (.inl w_wn)))] := hD
      obtain ⟨z_44534, e_z_44534⟩ : ∃ y : Int32, y = y_22272 + 1 := ⟨_, rfl⟩
      refine lv_iinc (v := z_44534) (lv' := [(4, .int z_44534), (0, .ref o0), (1, .int a1), (2, .int a2), (3, .int a3)]) hx hb dX10_fillWays_28 hl (k := 0) rfl (by rw [e_z_44534]; rfl) (by decide) rfl (fun ls hl => ?_)
      obtain ⟨q_z_44534, b_z_44534⟩ := ti_add (lo := 1) (hi := 201) e_z_44534 rfl (by decide : (1 : Int32).toInt = 1) b_y_22272 (by decide : (1 : Int) ≤ (1 : Int32).toInt ∧ (1 : Int32).toInt ≤ 1) (by decide)
      refine lv_goto (tgt := 3) hx hb dX10_fillWays_31 (by decide) ?_
      exact ih_3_37122 (z_44534, f_44533) _ _ _ ⟨(show (0 : Int) ≤ z_44534.toInt ∧ z_44534.toInt ≤ 201 from (rg_w b_z_44534 (by decide) (by decide))), hP, hD, hS, lv_sub hl [0, 1, 2, 3, 4] rfl⟩ (show (201 - z_44534.toInt).toNat < (201 - y_22272.toInt).toNat by omega)
    ·
      refine lv_if_ne (tgt := 26) hx hb dX10_fillWays_19 (by decide) (fun c_44531 => ?_) (fun c_44531 => ?_)
      ·
        have n_c_44531 : (y_22272.toInt : Int) ≠ 0 := c_ne rfl (by decide) c_44531
        have b_y_22272 : (1 : Int) ≤ y_22272.toInt ∧ y_22272.toInt ≤ 200 := r_ne1 b_y_22272 (by decide : (0 : Int) ≤ (0 : Int32).toInt ∧ (0 : Int32).toInt ≤ 0) n_c_44531 (by decide)
        refine lv_lconst (v := 0) hx hb dX10_fillWays_26 (by decide) ?_
        exact hj_27_44532 (0 : Int64) _ _ _ ⟨(show (0 : Int) ≤ (0 : Int64).toInt ∧ (0 : Int64).toInt ≤ 1 from (rg_w (by decide : (0 : Int) ≤ (0 : Int64).toInt ∧ (0 : Int64).toInt ≤ 0) (by decide) (by decide))), hP, hD, hS, lv_sub hl [0, 1, 2, 3, 4] rfl⟩
      ·
        have n_c_44531 : (y_22272.toInt : Int) = 0 := c_eq rfl (by decide) c_44531
        have b_y_22272 : (0 : Int) ≤ y_22272.toInt ∧ y_22272.toInt ≤ 0 := r_eq1 b_y_22272 (by decide : (0 : Int) ≤ (0 : Int32).toInt ∧ (0 : Int32).toInt ≤ 0) n_c_44531 (by decide)
        refine lv_lconst (v := 1) hx hb dX10_fillWays_22 (by decide) ?_
        refine lv_goto (tgt := 27) hx hb dX10_fillWays_23 (by decide) ?_
        exact hj_27_44532 (1 : Int64) _ _ _ ⟨(show (0 : Int) ≤ (1 : Int64).toInt ∧ (1 : Int64).toInt ≤ 1 from (rg_w (by decide : (1 : Int) ≤ (1 : Int64).toInt ∧ (1 : Int64).toInt ≤ 1) (by decide) (by decide))), hP, hD, hS, lv_sub hl [0, 1, 2, 3, 4] rfl⟩
theorem dX10_of_0 : decode cX10_of 0 = .ok (.iload_n 1, 1) := by decide +kernel
theorem dX10_of_1 : decode cX10_of 1 = .ok (.iload_n 2, 1) := by decide +kernel
theorem dX10_of_2 : decode cX10_of 2 = .ok (.invokestatic 457, 3) := by decide +kernel
theorem dX10_of_5 : decode cX10_of 5 = .ok (.ifCond .eq 15, 3) := by decide +kernel
theorem dX10_of_8 : decode cX10_of 8 = .ok (.iload_n 3, 1) := by decide +kernel
theorem dX10_of_9 : decode cX10_of 9 = .ok (.i2l, 1) := by decide +kernel
theorem dX10_of_10 : decode cX10_of 10 = .ok (.lconst 0, 1) := by decide +kernel
theorem dX10_of_11 : decode cX10_of 11 = .ok (.ldc2_w 460, 3) := by decide +kernel
theorem dX10_of_14 : decode cX10_of 14 = .ok (.invokestatic 82, 3) := by decide +kernel
theorem dX10_of_17 : decode cX10_of 17 = .ok (.ifCond .ne 7, 3) := by decide +kernel
theorem dX10_of_20 : decode cX10_of 20 = .ok (.ldc2_w 416, 3) := by decide +kernel
theorem dX10_of_23 : decode cX10_of 23 = .ok (.lreturn, 1) := by decide +kernel
theorem dX10_of_24 : decode cX10_of 24 = .ok (.aload_n 0, 1) := by decide +kernel
theorem dX10_of_25 : decode cX10_of 25 = .ok (.iload_n 1, 1) := by decide +kernel
theorem dX10_of_26 : decode cX10_of 26 = .ok (.iconst 0, 1) := by decide +kernel
theorem dX10_of_27 : decode cX10_of 27 = .ok (.iload_n 2, 1) := by decide +kernel
theorem dX10_of_28 : decode cX10_of 28 = .ok (.iconst 1, 1) := by decide +kernel
theorem dX10_of_29 : decode cX10_of 29 = .ok (.isub, 1) := by decide +kernel
theorem dX10_of_30 : decode cX10_of 30 = .ok (.invokevirtual 462, 3) := by decide +kernel
theorem dX10_of_33 : decode cX10_of 33 = .ok (.aload_n 0, 1) := by decide +kernel
theorem dX10_of_34 : decode cX10_of 34 = .ok (.getfield 58, 3) := by decide +kernel
theorem dX10_of_37 : decode cX10_of 37 = .ok (.iload_n 3, 1) := by decide +kernel
theorem dX10_of_38 : decode cX10_of 38 = .ok (.laload, 1) := by decide +kernel
theorem dX10_of_39 : decode cX10_of 39 = .ok (.lreturn, 1) := by decide +kernel
theorem hd_yX10_of : yX10_of.cls = RX10 ∧ yX10_of.cls ≠ "java/lang/invoke/MethodHandle" ∧ yX10_of.cls ≠ "java/lang/invoke/VarHandle" ∧ (parseMethodDescriptor yX10_of.desc).map (fun d => d.parameters.length) = some 3 := by decide +kernel
def uX10_of : List Cond := List.cons (.code yX10_of cX10_of 4 (some .long)) (HAppend.hAppend ([.methodLink RX10 457 yX10_isLong, .static yX10_isLong, .initialized RX10, .constantLong RX10 416 (-2), .constantLong RX10 460 (180), .methodLink RX10 82 yX10_in, .static yX10_in, .methodLink RX10 462 yX10_fillWays, .instanceMethod yX10_fillWays, .selects RX10 yX10_fillWays yX10_fillWays, .fieldLink RX10 58 "LuckyTicketModel" "ways" "[J"] : List Cond) (HAppend.hAppend uX10_isLong (HAppend.hAppend uX10_in2 (HAppend.hAppend uX10_fillWays wsX100))))
theorem iX10_of_X10 : ∀ w ∈ wsX100, w ∈ uX10_of := fun _ h => (List.mem_cons_of_mem _ (List.mem_append_right _ (List.mem_append_right _ (List.mem_append_right _ (List.mem_append_right _ h)))))
theorem guX10_of : GU uX10_of := gu_cons (gu_app (by decide +kernel) (gu_ap guX10_isLong (gu_ap guX10_in2 (gu_ap guX10_fillWays gws_X10))))
theorem gX10_of__X10_isLong_S457 : GoodIn uX10_of (va_wsS RX10 457 yX10_isLong uX10_isLong) := gin_S (List.mem_of_getElem? (i := 1) rfl) (List.mem_of_getElem? (i := 2) rfl) (List.mem_of_getElem? (i := 3) rfl) (fun _ h => (List.mem_cons_of_mem _ (List.mem_append_right _ (List.mem_append_left _ h)))) guX10_isLong
theorem gX10_of__X10_in2_S82 : GoodIn uX10_of (va_wsS RX10 82 yX10_in uX10_in2) := gin_S (List.mem_of_getElem? (i := 6) rfl) (List.mem_of_getElem? (i := 7) rfl) (List.mem_of_getElem? (i := 3) rfl) (fun _ h => (List.mem_cons_of_mem _ (List.mem_append_right _ (List.mem_append_right _ (List.mem_append_left _ h))))) guX10_in2
theorem gX10_of__X10_fillWays_V462 : GoodIn uX10_of (wsV RX10 462 RX10 yX10_fillWays uX10_fillWays) := gin_V (List.mem_of_getElem? (i := 8) rfl) (List.mem_of_getElem? (i := 9) rfl) (List.mem_of_getElem? (i := 10) rfl) (List.mem_of_getElem? (i := 3) rfl) (fun _ h => (List.mem_cons_of_mem _ (List.mem_append_right _ (List.mem_append_right _ (List.mem_append_right _ (List.mem_append_left _ h)))))) guX10_fillWays
set_option maxHeartbeats 4000000 in
set_option maxRecDepth 100000 in
theorem kX10_of (l : Launch) (dC : Nat → ClassId) (dI : Nat → Nat → Nat) (o0 : Nat) (x_th : Int32) (mwo : Nat) (mim : Nat) (mhi : Nat) (mlu : Nat) (mtp : Nat) (x_td : Int32) (mfv : Nat) (x_sz : Int32) (x_at : Int32) (x_fr : Int32) (x_to : Int32) (x_va : Int32) (x_fk : Int32) (x_fp : Int32) (mfr : Nat) (mwt : Nat) (x_wt : Int32) (x_op : Int32) (x_jo : Int32) (mfg : Nat) (mpl : Nat) (x_dr : Int64) (mtm : Nat) (mfa : Nat) (mqu : Nat) (mmo : Nat) (mwy : Nat) (mwn : Nat) (mma : Nat) (mwi : Nat) (mnu : Nat) (mmv : Nat) (c_wy : ClassId) (c_wn : ClassId) (w_wy : Nat → Int64) (w_wn : Nat → Int64) (a1 : Int32) (a2 : Int32) (a3 : Int32) (sz : Nat) : Met l yX10_of uX10_of ({ frames := 2, cells := 0, slots := 0, locals := 46 }) (va_Pc [.ref o0, .int a1, .int a2, .int a3] (hw (dC, dI) vwCl [(o0, .inr (8, [.int x_th, .ref mwo, .ref mim, .ref mhi, .ref mlu, .ref mtp, .int x_td, .ref mfv, .int x_sz, .int x_at, .int x_fr, .int x_to, .int x_va, .int x_fk, .int x_fp, .ref mfr, .ref mwt, .int x_wt, .int x_op, .int x_jo, .ref mfg, .ref mpl, .long x_dr, .ref mtm, .ref mfa, .ref mqu, .ref mmo, .ref mwy, .ref mwn, .ref mma, .ref mwi, .ref mnu, .ref mmv])), (mwy, .inl (c_wy, 201, .inr (.inl w_wy))), (mwn, .inl (c_wn, 201, .inr (.inl w_wn)))] [(c_wy, .long), (c_wn, .long)] sz)) (va_Ql (fun (r : Int64) (_ : Unit) => True) (fun (_ : Unit) t => ∃ (o0_ : Nat → Int64) (o1_ : Nat → Int64), va_P (dC, dI) vwCl [(o0, .inr (8, [.int x_th, .ref mwo, .ref mim, .ref mhi, .ref mlu, .ref mtp, .int x_td, .ref mfv, .int x_sz, .int x_at, .int x_fr, .int x_to, .int x_va, .int x_fk, .int x_fp, .ref mfr, .ref mwt, .int x_wt, .int x_op, .int x_jo, .ref mfg, .ref mpl, .long x_dr, .ref mtm, .ref mfa, .ref mqu, .ref mmo, .ref mwy, .ref mwn, .ref mma, .ref mwi, .ref mnu, .ref mmv])), (mwy, .inl (c_wy, 201, .inr (.inl o0_))), (mwn, .inl (c_wn, 201, .inr (.inl o1_)))] t.heap ∧ va_K (dC, dI) vwCl [(c_wy, .long), (c_wn, .long)] t ∧ va_D (va_A [(o0, .inr (8, [.int x_th, .ref mwo, .ref mim, .ref mhi, .ref mlu, .ref mtp, .int x_td, .ref mfv, .int x_sz, .int x_at, .int x_fr, .int x_to, .int x_va, .int x_fk, .int x_fp, .ref mfr, .ref mwt, .int x_wt, .int x_op, .int x_jo, .ref mfg, .ref mpl, .long x_dr, .ref mtm, .ref mfa, .ref mqu, .ref mmo, .ref mwy, .ref mwn, .ref mma, .ref mwi, .ref mnu, .ref mmv])), (mwy, .inl (c_wy, 201, .inr (.inl w_wy))), (mwn, .inl (c_wn, 201, .inr (.inl w_wn)))] sz) [(o0, .inr (8, [.int x_th, .ref mwo, .ref mim, .ref mhi, .ref mlu, .ref mtp, .int x_td, .ref mfv, .int x_sz, .int x_at, .int x_fr, .int x_to, .int x_va, .int x_fk, .int x_fp, .ref mfr, .ref mwt, .int x_wt, .int x_op, .int x_jo, .ref mfg, .ref mpl, .long x_dr, .ref mtm, .ref mfa, .ref mqu, .ref mmo, .ref mwy, .ref mwn, .ref mma, .ref mwi, .ref mnu, .ref mmv])), (mwy, .inl (c_wy, 201, .inr (.inl o0_))), (mwn, .inl (c_wn, 201, .inr (.inl o1_)))]) (va_A [(o0, .inr (8, [.int x_th, .ref mwo, .ref mim, .ref mhi, .ref mlu, .ref mtp, .int x_td, .ref mfv, .int x_sz, .int x_at, .int x_fr, .int x_to, .int x_va, .int x_fk, .int x_fp, .ref mfr, .ref mwt, .int x_wt, .int x_op, .int x_jo, .ref mfg, .ref mpl, .long x_dr, .ref mtm, .ref mfa, .ref mqu, .ref mmo, .ref mwy, .ref mwn, .ref mma, .ref mwi, .ref mnu, .ref mmv])), (mwy, .inl (c_wy, 201, .inr (.inl w_wy))), (mwn, .inl (c_wn, 201, .inr (.inl w_wn)))] sz)) 0 0 (va_A [(o0, .inr (8, [.int x_th, .ref mwo, .ref mim, .ref mhi, .ref mlu, .ref mtp, .int x_td, .ref mfv, .int x_sz, .int x_at, .int x_fr, .int x_to, .int x_va, .int x_fk, .int x_fp, .ref mfr, .ref mwt, .int x_wt, .int x_op, .int x_jo, .ref mfg, .ref mpl, .long x_dr, .ref mtm, .ref mfa, .ref mqu, .ref mmo, .ref mwy, .ref mwn, .ref mma, .ref mwi, .ref mnu, .ref mmv])), (mwy, .inl (c_wy, 201, .inr (.inl w_wy))), (mwn, .inl (c_wn, 201, .inr (.inl w_wn)))] sz) := by
  refine Met.ofW (cc := cX10_of) (maxL := 4) (ret := (some .long)) pn_X10 rfl ?_
  intro p e s m args below meth c s₁ B hml hv
  obtain ⟨rfl, hsz, hP, hK, hD0, hN⟩ := hv
  have hx := B.exec
  have hb := B.bytes
  have hr := B.returns
  have hts := atoms_spec (ws := uX10_of) B.pre
  have hown : s.vm.findClass RX10 = some m.cls := hown_of B.named rfl
  have hlocks := B.notSynchronized
  subst hsz
  have hD := hD0.self (sz := s.heap.size)
  generalize hAe : va_A [(o0, .inr (8, [.int x_th, .ref mwo, .ref mim, .ref mhi, .ref mlu, .ref mtp, .int x_td, .ref mfv, .int x_sz, .int x_at, .int x_fr, .int x_to, .int x_va, .int x_fk, .int x_fp, .ref mfr, .ref mwt, .int x_wt, .int x_op, .int x_jo, .ref mfg, .ref mpl, .long x_dr, .ref mtm, .ref mfa, .ref mqu, .ref mmo, .ref mwy, .ref mwn, .ref mma, .ref mwi, .ref mnu, .ref mmv])), (mwy, .inl (c_wy, 201, .inr (.inl w_wy))), (mwn, .inl (c_wn, 201, .inr (.inl w_wn)))] s.heap.size = A at hD ⊢
  have hA : ∀ q : Nat, s.heap.size ≤ q → A q := fun q h => by rw [← hAe]; exact Or.inr h
  have hS : va_S A s.heap s.heap [] := va_S.rf
  have hP : va_P (dC, dI) vwCl [(o0, .inr (8, [.int x_th, .ref mwo, .ref mim, .ref mhi, .ref mlu, .ref mtp, .int x_td, .ref mfv, .int x_sz, .int x_at, .int x_fr, .int x_to, .int x_va, .int x_fk, .int x_fp, .ref mfr, .ref mwt, .int x_wt, .int x_op, .int x_jo, .ref mfg, .ref mpl, .long x_dr, .ref mtm, .ref mfa, .ref mqu, .ref mmo, .ref mwy, .ref mwn, .ref mma, .ref mwi, .ref mnu, .ref mmv])), (mwy, .inl (c_wy, 201, .inr (.inl w_wy))), (mwn, .inl (c_wn, 201, .inr (.inl w_wn)))] s.heap := hP
  have hl := lv_entry ([.ref o0, .int a1, .int a2, .int a3]) (n := 4) (Nat.le_of_ble_eq_true rfl)
  rw [lg_entry_eq]
  generalize (lg_sl ([.ref o0, .int a1, .int a2, .int a3]) ++ List.replicate (4 - (lg_sl ([.ref o0, .int a1, .int a2, .int a3])).length) Slot.unset).toArray = ls at hl ⊢
  have hl : lv_has ls 4 [(0, .ref o0), (1, .int a1), (2, .int a2), (3, .int a3)] := hl
  refine lv_iload_n hx hb dX10_of_0 rfl (lv_at hl 1 rfl) ?_
  refine lv_iload_n hx hb dX10_of_1 rfl (lv_at hl 2 rfl) ?_
  refine vp_callSi (W.runS (As := [.int a1, .int a2]) (rest := []) ⟨hx, hb, hml, hown, hts⟩ (kX10_isLong l dC dI a1 a2 ) (va_cwS 2 hts gX10_of__X10_isLong_S457 rfl rfl rfl hd_yX10_isLong.2 ⟨lel 2 2 rfl, lel 46 46 rfl⟩) ⟨pn_fb, pn_use⟩ rfl rfl hl.1 rfl (lv_room (Nat.le_of_ble_eq_true rfl)) dX10_of_2 ⟨lel 0 0 rfl, lel 0 0 rfl⟩) (fun r_15 h_r_15 => ?_)
  obtain ⟨b_r_15, nz_r_15⟩ := h_r_15
  have b_r_15 : (0 : Int) ≤ r_15.toInt ∧ r_15.toInt ≤ 1 := b_r_15
  refine lv_if_eq (tgt := 20) hx hb dX10_of_5 (by decide) (fun c_16 => ?_) (fun c_16 => ?_)
  ·
    have n_c_16 : (r_15.toInt : Int) = 0 := c_eq rfl (by decide) c_16
    have b_r_15 : (0 : Int) ≤ r_15.toInt ∧ r_15.toInt ≤ 0 := r_eq1 b_r_15 (by decide : (0 : Int) ≤ (0 : Int32).toInt ∧ (0 : Int32).toInt ≤ 0) n_c_16 (by decide)
    refine lv_ldc2 (v := (-2)) hx hb hown (hts (.constantLong RX10 416 (-2)) (List.mem_of_getElem? (i := 4) rfl)) dX10_of_20 ?_
    have hP9 := hP.sub (ws' := [(o0, .inr (8, [.int x_th, .ref mwo, .ref mim, .ref mhi, .ref mlu, .ref mtp, .int x_td, .ref mfv, .int x_sz, .int x_at, .int x_fr, .int x_to, .int x_va, .int x_fk, .int x_fp, .ref mfr, .ref mwt, .int x_wt, .int x_op, .int x_jo, .ref mfg, .ref mpl, .long x_dr, .ref mtm, .ref mfa, .ref mqu, .ref mmo, .ref mwy, .ref mwn, .ref mma, .ref mwi, .ref mnu, .ref mmv])), (mwy, .inl (c_wy, 201, .inr (.inl w_wy))), (mwn, .inl (c_wn, 201, .inr (.inl w_wn)))]) [0, 1, 2] rfl
    have hD9 := hD.sub (ws' := [(o0, .inr (8, [.int x_th, .ref mwo, .ref mim, .ref mhi, .ref mlu, .ref mtp, .int x_td, .ref mfv, .int x_sz, .int x_at, .int x_fr, .int x_to, .int x_va, .int x_fk, .int x_fp, .ref mfr, .ref mwt, .int x_wt, .int x_op, .int x_jo, .ref mfg, .ref mpl, .long x_dr, .ref mtm, .ref mfa, .ref mqu, .ref mmo, .ref mwy, .ref mwn, .ref mma, .ref mwi, .ref mnu, .ref mmv])), (mwy, .inl (c_wy, 201, .inr (.inl w_wy))), (mwn, .inl (c_wn, 201, .inr (.inl w_wn)))]) [0, 1, 2] (by decide) rfl
    have hK9 := hK.sub (tys' := [(c_wy, .long), (c_wn, .long)]) [0, 1] rfl
    exact W.lret (v := (-2)) hx hb hr (fun t ht hW => ⟨⟨(-2), (), rfl, trivial, w_wy, w_wn, by rw [ht]; exact hP9, va_K.moved hW.alike hK9, hD9⟩, hS.F ht⟩) hS.2.2 dX10_of_23
  ·
    have n_c_16 : (r_15.toInt : Int) ≠ 0 := c_ne rfl (by decide) c_16
    have b_r_15 : (1 : Int) ≤ r_15.toInt ∧ r_15.toInt ≤ 1 := r_ne1 b_r_15 (by decide : (0 : Int) ≤ (0 : Int32).toInt ∧ (0 : Int32).toInt ≤ 0) n_c_16 (by decide)
    obtain ⟨b_a1, b_a2, g_17⟩ := nz_r_15 c_16
    refine lv_iload_n hx hb dX10_of_8 rfl (lv_at hl 3 rfl) ?_
    obtain ⟨z_18, e_z_18⟩ : ∃ y : Int64, y = a3.toInt64 := ⟨_, rfl⟩
    refine lv_i2l (v := z_18) hx hb dX10_of_9 e_z_18.symm ?_
    obtain ⟨q_z_18, b_z_18⟩ := ti_i2l e_z_18 (ti_rng a3)
    refine lv_lconst (v := 0) hx hb dX10_of_10 (by decide) ?_
    refine lv_ldc2 (v := 180) hx hb hown (hts (.constantLong RX10 460 (180)) (List.mem_of_getElem? (i := 5) rfl)) dX10_of_11 ?_
    refine vp_callSi (W.runS (As := [.long z_18, .long 0, .long 180]) (rest := []) ⟨hx, hb, hml, hown, hts⟩ (kX10_in2 l dC dI z_18 0 180 ) (va_cwS 3 hts gX10_of__X10_in2_S82 rfl rfl rfl hd_yX10_in.2 ⟨lel 1 2 rfl, lel 25 46 rfl⟩) ⟨pn_fb, pn_use⟩ rfl rfl hl.1 rfl (lv_room (Nat.le_of_ble_eq_true rfl)) dX10_of_14 ⟨lel 0 0 rfl, lel 0 0 rfl⟩) (fun r_19 h_r_19 => ?_)
    obtain ⟨b_r_19, nz_r_19, zz_r_19⟩ := h_r_19
    have b_r_19 : (0 : Int) ≤ r_19.toInt ∧ r_19.toInt ≤ 1 := b_r_19
    refine lv_if_ne (tgt := 24) hx hb dX10_of_17 (by decide) (fun c_20 => ?_) (fun c_20 => ?_)
    ·
      have n_c_20 : (r_19.toInt : Int) ≠ 0 := c_ne rfl (by decide) c_20
      have b_r_19 : (1 : Int) ≤ r_19.toInt ∧ r_19.toInt ≤ 1 := r_ne1 b_r_19 (by decide : (0 : Int) ≤ (0 : Int32).toInt ∧ (0 : Int32).toInt ≤ 0) n_c_20 (by decide)
      have g_21 := nz_r_19 c_20
      have lt0_g_21 := (by decide : (0 : Int64).toInt = 0)
      have lt1_g_21 := (by decide : (180 : Int64).toInt = 180)
      have b_z_18 : (0 : Int) ≤ z_18.toInt ∧ z_18.toInt ≤ 180 := by
        have q0 := b_z_18
        have q1 := (by decide : (0 : Int) ≤ (0 : Int64).toInt ∧ (0 : Int64).toInt ≤ 0)
        have q2 := (by decide : (180 : Int) ≤ (180 : Int64).toInt ∧ (180 : Int64).toInt ≤ 180)
        omega
      have b_a3 : (0 : Int) ≤ a3.toInt ∧ a3.toInt ≤ 180 := by
        have q0 := b_z_18; have q1 := q_z_18; have q2 := (ti_rng a3); omega
      refine lv_aload_n hx hb dX10_of_24 rfl (lv_at hl 0 rfl) ?_
      refine lv_iload_n hx hb dX10_of_25 rfl (lv_at hl 1 rfl) ?_
      refine lv_iconst (v := 0) hx hb dX10_of_26 (by decide) ?_
      refine lv_iload_n hx hb dX10_of_27 rfl (lv_at hl 2 rfl) ?_
      refine lv_iconst (v := 1) hx hb dX10_of_28 (by decide) ?_
      refine lv_isub hx hb dX10_of_29 ?_
      refine lv_topi (fun z_22 e_z_22 => ?_)
      obtain ⟨q_z_22, b_z_22⟩ := ti_sub (lo := 1) (hi := 15) e_z_22 rfl (by decide : (1 : Int32).toInt = 1) b_a2 (by decide : (1 : Int) ≤ (1 : Int32).toInt ∧ (1 : Int32).toInt ≤ 1) (by decide)
      have hFc := va_free (wc := [(o0, .inr (8, [.int x_th, .ref mwo, .ref mim, .ref mhi, .ref mlu, .ref mtp, .int x_td, .ref mfv, .int x_sz, .int x_at, .int x_fr, .int x_to, .int x_va, .int x_fk, .int x_fp, .ref mfr, .ref mwt, .int x_wt, .int x_op, .int x_jo, .ref mfg, .ref mpl, .long x_dr, .ref mtm, .ref mfa, .ref mqu, .ref mmo, .ref mwy, .ref mwn, .ref mma, .ref mwi, .ref mnu, .ref mmv])), (mwy, .inl (c_wy, 201, .inr (.inl w_wy))), (mwn, .inl (c_wn, 201, .inr (.inl w_wn)))]) hD hS hA [0, 1, 2] rfl
      refine va_callv (va_runV (As := [.int a1, .int 0, .int z_22]) (rest := []) ⟨hx, hb, hml, hown, hts⟩ (kX10_fillWays l dC dI o0 x_th mwo mim mhi mlu mtp x_td mfv x_sz x_at x_fr x_to x_va x_fk x_fp mfr mwt x_wt x_op x_jo mfg mpl x_dr mtm mfa mqu mmo mwy mwn mma mwi mnu mmv c_wy c_wn w_wy w_wn a1 0 z_22 (s.heap.size) (rg_w b_a1 (by decide) (by decide)) (rg_w (by decide : (0 : Int) ≤ (0 : Int32).toInt ∧ (0 : Int32).toInt ≤ 0) (by decide) (by decide)) (rg_w b_z_22 (by decide) (by decide))) (cwV 3 hts gX10_of__X10_fillWays_V462 rfl rfl rfl hd_yX10_fillWays ⟨lel 1 2 rfl, lel 26 46 rfl⟩) ⟨hw_fb, rcv_X10 hK hP (q0 := 0) rfl, (hw_use hP hD hK hN [0, 1, 2] rfl (by decide) rfl [0, 1] rfl)⟩ rfl rfl hl.1 rfl (lv_room (Nat.le_of_ble_eq_true rfl)) dX10_of_30 ⟨lel 0 0 rfl, lel 0 0 rfl⟩) hS (fun q _ h => hFc q h) hFc (fun u_24 t H1 locs ht hvm hw_r_23 hB hz1 hk1 hS => ?_)
      obtain ⟨o0_25, o1_26, hP1, hK1, hD1⟩ := hB
      rw [ht] at hP1
      have hK1 := va_K.moved hvm.symm hK1
      obtain ⟨hP, hD⟩ := va_join (wr := []) (w1 := [(o0, .inr (8, [.int x_th, .ref mwo, .ref mim, .ref mhi, .ref mlu, .ref mtp, .int x_td, .ref mfv, .int x_sz, .int x_at, .int x_fr, .int x_to, .int x_va, .int x_fk, .int x_fp, .ref mfr, .ref mwt, .int x_wt, .int x_op, .int x_jo, .ref mfg, .ref mpl, .long x_dr, .ref mtm, .ref mfa, .ref mqu, .ref mmo, .ref mwy, .ref mwn, .ref mma, .ref mwi, .ref mnu, .ref mmv])), (mwy, .inl (c_wy, 201, .inr (.inl o0_25))), (mwn, .inl (c_wn, 201, .inr (.inl o1_26)))]) hP hD [0, 1, 2] [] rfl rfl (by decide) (by decide) hk1 hFc hP1 hD1
      have hK := (hK.sub (tys' := []) [] rfl).app hK1
      generalize H1 = H at hP hS ⊢
      have hP : va_P (dC, dI) vwCl [(o0, .inr (8, [.int x_th, .ref mwo, .ref mim, .ref mhi, .ref mlu, .ref mtp, .int x_td, .ref mfv, .int x_sz, .int x_at, .int x_fr, .int x_to, .int x_va, .int x_fk, .int x_fp, .ref mfr, .ref mwt, .int x_wt, .int x_op, .int x_jo, .ref mfg, .ref mpl, .long x_dr, .ref mtm, .ref mfa, .ref mqu, .ref mmo, .ref mwy, .ref mwn, .ref mma, .ref mwi, .ref mnu, .ref mmv])), (mwy, .inl (c_wy, 201, .inr (.inl o0_25))), (mwn, .inl (c_wn, 201, .inr (.inl o1_26)))] H := hP
      have hD : va_D A [(o0, .inr (8, [.int x_th, .ref mwo, .ref mim, .ref mhi, .ref mlu, .ref mtp, .int x_td, .ref mfv, .int x_sz, .int x_at, .int x_fr, .int x_to, .int x_va, .int x_fk, .int x_fp, .ref mfr, .ref mwt, .int x_wt, .int x_op, .int x_jo, .ref mfg, .ref mpl, .long x_dr, .ref mtm, .ref mfa, .ref mqu, .ref mmo, .ref mwy, .ref mwn, .ref mma, .ref mwi, .ref mnu, .ref mmv])), (mwy, .inl (c_wy, 201, .inr (.inl o0_25))), (mwn, .inl (c_wn, 201, .inr (.inl o1_26)))] := hD
      have hK : va_K (dC, dI) vwCl [(c_wy, .long), (c_wn, .long)] s := hK
      refine lv_aload_n hx hb dX10_of_33 rfl (lv_at hl 0 rfl) ?_
      refine va_get (D := (dC, dI)) (ci := 8) (v := .ref mwy) (C := RX10) (T := TX10) (N := 33) hx hb hts iX10_of_X10 hown hK hP 0 rfl rfl 27 (by decide) (hts (.fieldLink RX10 58 "LuckyTicketModel" "ways" "[J") (List.mem_of_getElem? (i := 11) rfl)) (fun _ h9 => h9) rfl dX10_of_34 ?_
      refine lv_iload_n hx hb dX10_of_37 rfl (lv_at hl 3 rfl) ?_
      refine va_lald hx hb hK hP 1 0 rfl rfl (vp_in_b b_a3 (by decide) (by decide)) dX10_of_38 ?_
      refine lv_topl (fun z_27 e_z_27 => ?_)
      have hP9 := hP.sub (ws' := [(o0, .inr (8, [.int x_th, .ref mwo, .ref mim, .ref mhi, .ref mlu, .ref mtp, .int x_td, .ref mfv, .int x_sz, .int x_at, .int x_fr, .int x_to, .int x_va, .int x_fk, .int x_fp, .ref mfr, .ref mwt, .int x_wt, .int x_op, .int x_jo, .ref mfg, .ref mpl, .long x_dr, .ref mtm, .ref mfa, .ref mqu, .ref mmo, .ref mwy, .ref mwn, .ref mma, .ref mwi, .ref mnu, .ref mmv])), (mwy, .inl (c_wy, 201, .inr (.inl o0_25))), (mwn, .inl (c_wn, 201, .inr (.inl o1_26)))]) [0, 1, 2] rfl
      have hD9 := hD.sub (ws' := [(o0, .inr (8, [.int x_th, .ref mwo, .ref mim, .ref mhi, .ref mlu, .ref mtp, .int x_td, .ref mfv, .int x_sz, .int x_at, .int x_fr, .int x_to, .int x_va, .int x_fk, .int x_fp, .ref mfr, .ref mwt, .int x_wt, .int x_op, .int x_jo, .ref mfg, .ref mpl, .long x_dr, .ref mtm, .ref mfa, .ref mqu, .ref mmo, .ref mwy, .ref mwn, .ref mma, .ref mwi, .ref mnu, .ref mmv])), (mwy, .inl (c_wy, 201, .inr (.inl o0_25))), (mwn, .inl (c_wn, 201, .inr (.inl o1_26)))]) [0, 1, 2] (by decide) rfl
      have hK9 := hK.sub (tys' := [(c_wy, .long), (c_wn, .long)]) [0, 1] rfl
      exact W.lret (v := z_27) hx hb hr (fun t ht hW => ⟨⟨z_27, (), rfl, trivial, o0_25, o1_26, by rw [ht]; exact hP9, va_K.moved hW.alike hK9, hD9⟩, hS.F ht⟩) hS.2.2 dX10_of_39
    ·
      have n_c_20 : (r_19.toInt : Int) = 0 := c_eq rfl (by decide) c_20
      have b_r_19 : (0 : Int) ≤ r_19.toInt ∧ r_19.toInt ≤ 0 := r_eq1 b_r_19 (by decide : (0 : Int) ≤ (0 : Int32).toInt ∧ (0 : Int32).toInt ≤ 0) n_c_20 (by decide)
      have g_28 := zz_r_19 c_20
      have lt0_g_28 := (by decide : (0 : Int64).toInt = 0)
      have lt1_g_28 := (by decide : (180 : Int64).toInt = 180)
      refine lv_ldc2 (v := (-2)) hx hb hown (hts (.constantLong RX10 416 (-2)) (List.mem_of_getElem? (i := 4) rfl)) dX10_of_20 ?_
      have hP9 := hP.sub (ws' := [(o0, .inr (8, [.int x_th, .ref mwo, .ref mim, .ref mhi, .ref mlu, .ref mtp, .int x_td, .ref mfv, .int x_sz, .int x_at, .int x_fr, .int x_to, .int x_va, .int x_fk, .int x_fp, .ref mfr, .ref mwt, .int x_wt, .int x_op, .int x_jo, .ref mfg, .ref mpl, .long x_dr, .ref mtm, .ref mfa, .ref mqu, .ref mmo, .ref mwy, .ref mwn, .ref mma, .ref mwi, .ref mnu, .ref mmv])), (mwy, .inl (c_wy, 201, .inr (.inl w_wy))), (mwn, .inl (c_wn, 201, .inr (.inl w_wn)))]) [0, 1, 2] rfl
      have hD9 := hD.sub (ws' := [(o0, .inr (8, [.int x_th, .ref mwo, .ref mim, .ref mhi, .ref mlu, .ref mtp, .int x_td, .ref mfv, .int x_sz, .int x_at, .int x_fr, .int x_to, .int x_va, .int x_fk, .int x_fp, .ref mfr, .ref mwt, .int x_wt, .int x_op, .int x_jo, .ref mfg, .ref mpl, .long x_dr, .ref mtm, .ref mfa, .ref mqu, .ref mmo, .ref mwy, .ref mwn, .ref mma, .ref mwi, .ref mnu, .ref mmv])), (mwy, .inl (c_wy, 201, .inr (.inl w_wy))), (mwn, .inl (c_wn, 201, .inr (.inl w_wn)))]) [0, 1, 2] (by decide) rfl
      have hK9 := hK.sub (tys' := [(c_wy, .long), (c_wn, .long)]) [0, 1] rfl
      exact W.lret (v := (-2)) hx hb hr (fun t ht hW => ⟨⟨(-2), (), rfl, trivial, w_wy, w_wn, by rw [ht]; exact hP9, va_K.moved hW.alike hK9, hD9⟩, hS.F ht⟩) hS.2.2 dX10_of_23
theorem dX10_halves_0 : decode cX10_halves 0 = .ok (.iload_n 1, 1) := by decide +kernel
theorem dX10_halves_1 : decode cX10_halves 1 = .ok (.iload_n 2, 1) := by decide +kernel
theorem dX10_halves_2 : decode cX10_halves 2 = .ok (.invokestatic 457, 3) := by decide +kernel
theorem dX10_halves_5 : decode cX10_halves 5 = .ok (.ifCond .eq 9, 3) := by decide +kernel
theorem dX10_halves_8 : decode cX10_halves 8 = .ok (.iload_n 1, 1) := by decide +kernel
theorem dX10_halves_9 : decode cX10_halves 9 = .ok (.iconst 2, 1) := by decide +kernel
theorem dX10_halves_10 : decode cX10_halves 10 = .ok (.irem, 1) := by decide +kernel
theorem dX10_halves_11 : decode cX10_halves 11 = .ok (.ifCond .eq 7, 3) := by decide +kernel
theorem dX10_halves_14 : decode cX10_halves 14 = .ok (.ldc2_w 416, 3) := by decide +kernel
theorem dX10_halves_17 : decode cX10_halves 17 = .ok (.lreturn, 1) := by decide +kernel
theorem dX10_halves_18 : decode cX10_halves 18 = .ok (.aload_n 0, 1) := by decide +kernel
theorem dX10_halves_19 : decode cX10_halves 19 = .ok (.iload_n 1, 1) := by decide +kernel
theorem dX10_halves_20 : decode cX10_halves 20 = .ok (.iconst 2, 1) := by decide +kernel
theorem dX10_halves_21 : decode cX10_halves 21 = .ok (.idiv, 1) := by decide +kernel
theorem dX10_halves_22 : decode cX10_halves 22 = .ok (.iconst 0, 1) := by decide +kernel
theorem dX10_halves_23 : decode cX10_halves 23 = .ok (.iload_n 2, 1) := by decide +kernel
theorem dX10_halves_24 : decode cX10_halves 24 = .ok (.iconst 1, 1) := by decide +kernel
theorem dX10_halves_25 : decode cX10_halves 25 = .ok (.isub, 1) := by decide +kernel
theorem dX10_halves_26 : decode cX10_halves 26 = .ok (.invokevirtual 462, 3) := by decide +kernel
theorem dX10_halves_29 : decode cX10_halves 29 = .ok (.lconst 0, 1) := by decide +kernel
theorem dX10_halves_30 : decode cX10_halves 30 = .ok (.lstore_n 3, 1) := by decide +kernel
theorem dX10_halves_31 : decode cX10_halves 31 = .ok (.iconst 0, 1) := by decide +kernel
theorem dX10_halves_32 : decode cX10_halves 32 = .ok (.istore 5, 2) := by decide +kernel
theorem dX10_halves_34 : decode cX10_halves 34 = .ok (.iload 5, 2) := by decide +kernel
theorem dX10_halves_36 : decode cX10_halves 36 = .ok (.sipush 201, 3) := by decide +kernel
theorem dX10_halves_39 : decode cX10_halves 39 = .ok (.if_icmp .ge 27, 3) := by decide +kernel
theorem dX10_halves_42 : decode cX10_halves 42 = .ok (.lload_n 3, 1) := by decide +kernel
theorem dX10_halves_43 : decode cX10_halves 43 = .ok (.aload_n 0, 1) := by decide +kernel
theorem dX10_halves_44 : decode cX10_halves 44 = .ok (.getfield 58, 3) := by decide +kernel
theorem dX10_halves_47 : decode cX10_halves 47 = .ok (.iload 5, 2) := by decide +kernel
theorem dX10_halves_49 : decode cX10_halves 49 = .ok (.laload, 1) := by decide +kernel
theorem dX10_halves_50 : decode cX10_halves 50 = .ok (.aload_n 0, 1) := by decide +kernel
theorem dX10_halves_51 : decode cX10_halves 51 = .ok (.getfield 58, 3) := by decide +kernel
theorem dX10_halves_54 : decode cX10_halves 54 = .ok (.iload 5, 2) := by decide +kernel
theorem dX10_halves_56 : decode cX10_halves 56 = .ok (.laload, 1) := by decide +kernel
theorem dX10_halves_57 : decode cX10_halves 57 = .ok (.lmul, 1) := by decide +kernel
theorem dX10_halves_58 : decode cX10_halves 58 = .ok (.ladd, 1) := by decide +kernel
theorem dX10_halves_59 : decode cX10_halves 59 = .ok (.lstore_n 3, 1) := by decide +kernel
theorem dX10_halves_60 : decode cX10_halves 60 = .ok (.iinc 5 1, 3) := by decide +kernel
theorem dX10_halves_63 : decode cX10_halves 63 = .ok (.goto (-29), 3) := by decide +kernel
theorem dX10_halves_66 : decode cX10_halves 66 = .ok (.lload_n 3, 1) := by decide +kernel
theorem dX10_halves_67 : decode cX10_halves 67 = .ok (.lreturn, 1) := by decide +kernel
theorem hd_yX10_halves : yX10_halves.cls = RX10 ∧ yX10_halves.cls ≠ "java/lang/invoke/MethodHandle" ∧ yX10_halves.cls ≠ "java/lang/invoke/VarHandle" ∧ (parseMethodDescriptor yX10_halves.desc).map (fun d => d.parameters.length) = some 2 := by decide +kernel
def uX10_halves : List Cond := List.cons (.code yX10_halves cX10_halves 6 (some .long)) (HAppend.hAppend ([.methodLink RX10 457 yX10_isLong, .static yX10_isLong, .initialized RX10, .constantLong RX10 416 (-2), .methodLink RX10 462 yX10_fillWays, .instanceMethod yX10_fillWays, .selects RX10 yX10_fillWays yX10_fillWays, .fieldLink RX10 58 "LuckyTicketModel" "ways" "[J"] : List Cond) (HAppend.hAppend uX10_isLong (HAppend.hAppend uX10_fillWays wsX100)))
theorem iX10_halves_X10 : ∀ w ∈ wsX100, w ∈ uX10_halves := fun _ h => (List.mem_cons_of_mem _ (List.mem_append_right _ (List.mem_append_right _ (List.mem_append_right _ h))))
theorem guX10_halves : GU uX10_halves := gu_cons (gu_app (by decide +kernel) (gu_ap guX10_isLong (gu_ap guX10_fillWays gws_X10)))
theorem gX10_halves__X10_isLong_S457 : GoodIn uX10_halves (va_wsS RX10 457 yX10_isLong uX10_isLong) := gin_S (List.mem_of_getElem? (i := 1) rfl) (List.mem_of_getElem? (i := 2) rfl) (List.mem_of_getElem? (i := 3) rfl) (fun _ h => (List.mem_cons_of_mem _ (List.mem_append_right _ (List.mem_append_left _ h)))) guX10_isLong
theorem gX10_halves__X10_fillWays_V462 : GoodIn uX10_halves (wsV RX10 462 RX10 yX10_fillWays uX10_fillWays) := gin_V (List.mem_of_getElem? (i := 5) rfl) (List.mem_of_getElem? (i := 6) rfl) (List.mem_of_getElem? (i := 7) rfl) (List.mem_of_getElem? (i := 3) rfl) (fun _ h => (List.mem_cons_of_mem _ (List.mem_append_right _ (List.mem_append_right _ (List.mem_append_left _ h))))) guX10_fillWays
set_option maxHeartbeats 4000000 in
set_option maxRecDepth 100000 in
theorem kX10_halves (l : Launch) (dC : Nat → ClassId) (dI : Nat → Nat → Nat) (o0 : Nat) (x_th : Int32) (mwo : Nat) (mim : Nat) (mhi : Nat) (mlu : Nat) (mtp : Nat) (x_td : Int32) (mfv : Nat) (x_sz : Int32) (x_at : Int32) (x_fr : Int32) (x_to : Int32) (x_va : Int32) (x_fk : Int32) (x_fp : Int32) (mfr : Nat) (mwt : Nat) (x_wt : Int32) (x_op : Int32) (x_jo : Int32) (mfg : Nat) (mpl : Nat) (x_dr : Int64) (mtm : Nat) (mfa : Nat) (mqu : Nat) (mmo : Nat) (mwy : Nat) (mwn : Nat) (mma : Nat) (mwi : Nat) (mnu : Nat) (mmv : Nat) (c_wy : ClassId) (c_wn : ClassId) (w_wy : Nat → Int64) (w_wn : Nat → Int64) (a1 : Int32) (a2 : Int32) (sz : Nat) : Met l yX10_halves uX10_halves ({ frames := 2, cells := 0, slots := 0, locals := 46 }) (va_Pc [.ref o0, .int a1, .int a2] (hw (dC, dI) vwCl [(o0, .inr (8, [.int x_th, .ref mwo, .ref mim, .ref mhi, .ref mlu, .ref mtp, .int x_td, .ref mfv, .int x_sz, .int x_at, .int x_fr, .int x_to, .int x_va, .int x_fk, .int x_fp, .ref mfr, .ref mwt, .int x_wt, .int x_op, .int x_jo, .ref mfg, .ref mpl, .long x_dr, .ref mtm, .ref mfa, .ref mqu, .ref mmo, .ref mwy, .ref mwn, .ref mma, .ref mwi, .ref mnu, .ref mmv])), (mwy, .inl (c_wy, 201, .inr (.inl w_wy))), (mwn, .inl (c_wn, 201, .inr (.inl w_wn)))] [(c_wy, .long), (c_wn, .long)] sz)) (va_Ql (fun (r : Int64) (_ : Unit) => True) (fun (_ : Unit) t => ∃ (o0_ : Nat → Int64) (o1_ : Nat → Int64), va_P (dC, dI) vwCl [(o0, .inr (8, [.int x_th, .ref mwo, .ref mim, .ref mhi, .ref mlu, .ref mtp, .int x_td, .ref mfv, .int x_sz, .int x_at, .int x_fr, .int x_to, .int x_va, .int x_fk, .int x_fp, .ref mfr, .ref mwt, .int x_wt, .int x_op, .int x_jo, .ref mfg, .ref mpl, .long x_dr, .ref mtm, .ref mfa, .ref mqu, .ref mmo, .ref mwy, .ref mwn, .ref mma, .ref mwi, .ref mnu, .ref mmv])), (mwy, .inl (c_wy, 201, .inr (.inl o0_))), (mwn, .inl (c_wn, 201, .inr (.inl o1_)))] t.heap ∧ va_K (dC, dI) vwCl [(c_wy, .long), (c_wn, .long)] t ∧ va_D (va_A [(o0, .inr (8, [.int x_th, .ref mwo, .ref mim, .ref mhi, .ref mlu, .ref mtp, .int x_td, .ref mfv, .int x_sz, .int x_at, .int x_fr, .int x_to, .int x_va, .int x_fk, .int x_fp, .ref mfr, .ref mwt, .int x_wt, .int x_op, .int x_jo, .ref mfg, .ref mpl, .long x_dr, .ref mtm, .ref mfa, .ref mqu, .ref mmo, .ref mwy, .ref mwn, .ref mma, .ref mwi, .ref mnu, .ref mmv])), (mwy, .inl (c_wy, 201, .inr (.inl w_wy))), (mwn, .inl (c_wn, 201, .inr (.inl w_wn)))] sz) [(o0, .inr (8, [.int x_th, .ref mwo, .ref mim, .ref mhi, .ref mlu, .ref mtp, .int x_td, .ref mfv, .int x_sz, .int x_at, .int x_fr, .int x_to, .int x_va, .int x_fk, .int x_fp, .ref mfr, .ref mwt, .int x_wt, .int x_op, .int x_jo, .ref mfg, .ref mpl, .long x_dr, .ref mtm, .ref mfa, .ref mqu, .ref mmo, .ref mwy, .ref mwn, .ref mma, .ref mwi, .ref mnu, .ref mmv])), (mwy, .inl (c_wy, 201, .inr (.inl o0_))), (mwn, .inl (c_wn, 201, .inr (.inl o1_)))]) (va_A [(o0, .inr (8, [.int x_th, .ref mwo, .ref mim, .ref mhi, .ref mlu, .ref mtp, .int x_td, .ref mfv, .int x_sz, .int x_at, .int x_fr, .int x_to, .int x_va, .int x_fk, .int x_fp, .ref mfr, .ref mwt, .int x_wt, .int x_op, .int x_jo, .ref mfg, .ref mpl, .long x_dr, .ref mtm, .ref mfa, .ref mqu, .ref mmo, .ref mwy, .ref mwn, .ref mma, .ref mwi, .ref mnu, .ref mmv])), (mwy, .inl (c_wy, 201, .inr (.inl w_wy))), (mwn, .inl (c_wn, 201, .inr (.inl w_wn)))] sz)) 0 0 (va_A [(o0, .inr (8, [.int x_th, .ref mwo, .ref mim, .ref mhi, .ref mlu, .ref mtp, .int x_td, .ref mfv, .int x_sz, .int x_at, .int x_fr, .int x_to, .int x_va, .int x_fk, .int x_fp, .ref mfr, .ref mwt, .int x_wt, .int x_op, .int x_jo, .ref mfg, .ref mpl, .long x_dr, .ref mtm, .ref mfa, .ref mqu, .ref mmo, .ref mwy, .ref mwn, .ref mma, .ref mwi, .ref mnu, .ref mmv])), (mwy, .inl (c_wy, 201, .inr (.inl w_wy))), (mwn, .inl (c_wn, 201, .inr (.inl w_wn)))] sz) := by
  refine Met.ofW (cc := cX10_halves) (maxL := 6) (ret := (some .long)) pn_X10 rfl ?_
  intro p e s m args below meth c s₁ B hml hv
  obtain ⟨rfl, hsz, hP, hK, hD0, hN⟩ := hv
  have hx := B.exec
  have hb := B.bytes
  have hr := B.returns
  have hts := atoms_spec (ws := uX10_halves) B.pre
  have hown : s.vm.findClass RX10 = some m.cls := hown_of B.named rfl
  have hlocks := B.notSynchronized
  subst hsz
  have hD := hD0.self (sz := s.heap.size)
  generalize hAe : va_A [(o0, .inr (8, [.int x_th, .ref mwo, .ref mim, .ref mhi, .ref mlu, .ref mtp, .int x_td, .ref mfv, .int x_sz, .int x_at, .int x_fr, .int x_to, .int x_va, .int x_fk, .int x_fp, .ref mfr, .ref mwt, .int x_wt, .int x_op, .int x_jo, .ref mfg, .ref mpl, .long x_dr, .ref mtm, .ref mfa, .ref mqu, .ref mmo, .ref mwy, .ref mwn, .ref mma, .ref mwi, .ref mnu, .ref mmv])), (mwy, .inl (c_wy, 201, .inr (.inl w_wy))), (mwn, .inl (c_wn, 201, .inr (.inl w_wn)))] s.heap.size = A at hD ⊢
  have hA : ∀ q : Nat, s.heap.size ≤ q → A q := fun q h => by rw [← hAe]; exact Or.inr h
  have hS : va_S A s.heap s.heap [] := va_S.rf
  have hP : va_P (dC, dI) vwCl [(o0, .inr (8, [.int x_th, .ref mwo, .ref mim, .ref mhi, .ref mlu, .ref mtp, .int x_td, .ref mfv, .int x_sz, .int x_at, .int x_fr, .int x_to, .int x_va, .int x_fk, .int x_fp, .ref mfr, .ref mwt, .int x_wt, .int x_op, .int x_jo, .ref mfg, .ref mpl, .long x_dr, .ref mtm, .ref mfa, .ref mqu, .ref mmo, .ref mwy, .ref mwn, .ref mma, .ref mwi, .ref mnu, .ref mmv])), (mwy, .inl (c_wy, 201, .inr (.inl w_wy))), (mwn, .inl (c_wn, 201, .inr (.inl w_wn)))] s.heap := hP
  have hl := lv_entry ([.ref o0, .int a1, .int a2]) (n := 6) (Nat.le_of_ble_eq_true rfl)
  rw [lg_entry_eq]
  generalize (lg_sl ([.ref o0, .int a1, .int a2]) ++ List.replicate (6 - (lg_sl ([.ref o0, .int a1, .int a2])).length) Slot.unset).toArray = ls at hl ⊢
  have hl : lv_has ls 6 [(0, .ref o0), (1, .int a1), (2, .int a2)] := hl
  refine lv_iload_n hx hb dX10_halves_0 rfl (lv_at hl 1 rfl) ?_
  refine lv_iload_n hx hb dX10_halves_1 rfl (lv_at hl 2 rfl) ?_
  refine vp_callSi (W.runS (As := [.int a1, .int a2]) (rest := []) ⟨hx, hb, hml, hown, hts⟩ (kX10_isLong l dC dI a1 a2 ) (va_cwS 2 hts gX10_halves__X10_isLong_S457 rfl rfl rfl hd_yX10_isLong.2 ⟨lel 2 2 rfl, lel 46 46 rfl⟩) ⟨pn_fb, pn_use⟩ rfl rfl hl.1 rfl (lv_room (Nat.le_of_ble_eq_true rfl)) dX10_halves_2 ⟨lel 0 0 rfl, lel 0 0 rfl⟩) (fun r_68 h_r_68 => ?_)
  obtain ⟨b_r_68, nz_r_68⟩ := h_r_68
  have b_r_68 : (0 : Int) ≤ r_68.toInt ∧ r_68.toInt ≤ 1 := b_r_68
  refine lv_if_eq (tgt := 14) hx hb dX10_halves_5 (by decide) (fun c_69 => ?_) (fun c_69 => ?_)
  ·
    have n_c_69 : (r_68.toInt : Int) = 0 := c_eq rfl (by decide) c_69
    have b_r_68 : (0 : Int) ≤ r_68.toInt ∧ r_68.toInt ≤ 0 := r_eq1 b_r_68 (by decide : (0 : Int) ≤ (0 : Int32).toInt ∧ (0 : Int32).toInt ≤ 0) n_c_69 (by decide)
    refine lv_ldc2 (v := (-2)) hx hb hown (hts (.constantLong RX10 416 (-2)) (List.mem_of_getElem? (i := 4) rfl)) dX10_halves_14 ?_
    have hP9 := hP.sub (ws' := [(o0, .inr (8, [.int x_th, .ref mwo, .ref mim, .ref mhi, .ref mlu, .ref mtp, .int x_td, .ref mfv, .int x_sz, .int x_at, .int x_fr, .int x_to, .int x_va, .int x_fk, .int x_fp, .ref mfr, .ref mwt, .int x_wt, .int x_op, .int x_jo, .ref mfg, .ref mpl, .long x_dr, .ref mtm, .ref mfa, .ref mqu, .ref mmo, .ref mwy, .ref mwn, .ref mma, .ref mwi, .ref mnu, .ref mmv])), (mwy, .inl (c_wy, 201, .inr (.inl w_wy))), (mwn, .inl (c_wn, 201, .inr (.inl w_wn)))]) [0, 1, 2] rfl
    have hD9 := hD.sub (ws' := [(o0, .inr (8, [.int x_th, .ref mwo, .ref mim, .ref mhi, .ref mlu, .ref mtp, .int x_td, .ref mfv, .int x_sz, .int x_at, .int x_fr, .int x_to, .int x_va, .int x_fk, .int x_fp, .ref mfr, .ref mwt, .int x_wt, .int x_op, .int x_jo, .ref mfg, .ref mpl, .long x_dr, .ref mtm, .ref mfa, .ref mqu, .ref mmo, .ref mwy, .ref mwn, .ref mma, .ref mwi, .ref mnu, .ref mmv])), (mwy, .inl (c_wy, 201, .inr (.inl w_wy))), (mwn, .inl (c_wn, 201, .inr (.inl w_wn)))]) [0, 1, 2] (by decide) rfl
    have hK9 := hK.sub (tys' := [(c_wy, .long), (c_wn, .long)]) [0, 1] rfl
    exact W.lret (v := (-2)) hx hb hr (fun t ht hW => ⟨⟨(-2), (), rfl, trivial, w_wy, w_wn, by rw [ht]; exact hP9, va_K.moved hW.alike hK9, hD9⟩, hS.F ht⟩) hS.2.2 dX10_halves_17
  ·
    have n_c_69 : (r_68.toInt : Int) ≠ 0 := c_ne rfl (by decide) c_69
    have b_r_68 : (1 : Int) ≤ r_68.toInt ∧ r_68.toInt ≤ 1 := r_ne1 b_r_68 (by decide : (0 : Int) ≤ (0 : Int32).toInt ∧ (0 : Int32).toInt ≤ 0) n_c_69 (by decide)
    obtain ⟨b_a1, b_a2, g_70⟩ := nz_r_68 c_69
    refine lv_iload_n hx hb dX10_halves_8 rfl (lv_at hl 1 rfl) ?_
    refine lv_iconst (v := 2) hx hb dX10_halves_9 (by decide) ?_
    refine lv_irem hx hb dX10_halves_10 (by decide) ?_
    refine lv_topi (fun z_71 e_z_71 => ?_)
    obtain ⟨q_z_71, b_z_71⟩ := ti_rem (hi := 1) e_z_71 rfl (by decide : (2 : Int32).toInt = 2) b_a1 (by decide : (2 : Int) ≤ (2 : Int32).toInt ∧ (2 : Int32).toInt ≤ 2) (by decide)
    refine lv_if_eq (tgt := 18) hx hb dX10_halves_11 (by decide) (fun c_72 => ?_) (fun c_72 => ?_)
    ·
      have n_c_72 : (z_71.toInt : Int) = 0 := c_eq rfl (by decide) c_72
      have b_z_71 : (0 : Int) ≤ z_71.toInt ∧ z_71.toInt ≤ 0 := r_eq1 b_z_71 (by decide : (0 : Int) ≤ (0 : Int32).toInt ∧ (0 : Int32).toInt ≤ 0) n_c_72 (by decide)
      refine lv_aload_n hx hb dX10_halves_18 rfl (lv_at hl 0 rfl) ?_
      refine lv_iload_n hx hb dX10_halves_19 rfl (lv_at hl 1 rfl) ?_
      refine lv_iconst (v := 2) hx hb dX10_halves_20 (by decide) ?_
      refine lv_idiv hx hb dX10_halves_21 (by decide) ?_
      refine lv_topi (fun z_73 e_z_73 => ?_)
      obtain ⟨q_z_73, b_z_73⟩ := ti_div (hi := 6) e_z_73 rfl (by decide : (2 : Int32).toInt = 2) b_a1 (by decide : (2 : Int) ≤ (2 : Int32).toInt ∧ (2 : Int32).toInt ≤ 2) (by decide)
      refine lv_iconst (v := 0) hx hb dX10_halves_22 (by decide) ?_
      refine lv_iload_n hx hb dX10_halves_23 rfl (lv_at hl 2 rfl) ?_
      refine lv_iconst (v := 1) hx hb dX10_halves_24 (by decide) ?_
      refine lv_isub hx hb dX10_halves_25 ?_
      refine lv_topi (fun z_74 e_z_74 => ?_)
      obtain ⟨q_z_74, b_z_74⟩ := ti_sub (lo := 1) (hi := 15) e_z_74 rfl (by decide : (1 : Int32).toInt = 1) b_a2 (by decide : (1 : Int) ≤ (1 : Int32).toInt ∧ (1 : Int32).toInt ≤ 1) (by decide)
      have hFc := va_free (wc := [(o0, .inr (8, [.int x_th, .ref mwo, .ref mim, .ref mhi, .ref mlu, .ref mtp, .int x_td, .ref mfv, .int x_sz, .int x_at, .int x_fr, .int x_to, .int x_va, .int x_fk, .int x_fp, .ref mfr, .ref mwt, .int x_wt, .int x_op, .int x_jo, .ref mfg, .ref mpl, .long x_dr, .ref mtm, .ref mfa, .ref mqu, .ref mmo, .ref mwy, .ref mwn, .ref mma, .ref mwi, .ref mnu, .ref mmv])), (mwy, .inl (c_wy, 201, .inr (.inl w_wy))), (mwn, .inl (c_wn, 201, .inr (.inl w_wn)))]) hD hS hA [0, 1, 2] rfl
      refine va_callv (va_runV (As := [.int z_73, .int 0, .int z_74]) (rest := []) ⟨hx, hb, hml, hown, hts⟩ (kX10_fillWays l dC dI o0 x_th mwo mim mhi mlu mtp x_td mfv x_sz x_at x_fr x_to x_va x_fk x_fp mfr mwt x_wt x_op x_jo mfg mpl x_dr mtm mfa mqu mmo mwy mwn mma mwi mnu mmv c_wy c_wn w_wy w_wn z_73 0 z_74 (s.heap.size) (rg_w b_z_73 (by decide) (by decide)) (rg_w (by decide : (0 : Int) ≤ (0 : Int32).toInt ∧ (0 : Int32).toInt ≤ 0) (by decide) (by decide)) (rg_w b_z_74 (by decide) (by decide))) (cwV 3 hts gX10_halves__X10_fillWays_V462 rfl rfl rfl hd_yX10_fillWays ⟨lel 1 2 rfl, lel 26 46 rfl⟩) ⟨hw_fb, rcv_X10 hK hP (q0 := 0) rfl, (hw_use hP hD hK hN [0, 1, 2] rfl (by decide) rfl [0, 1] rfl)⟩ rfl rfl hl.1 rfl (lv_room (Nat.le_of_ble_eq_true rfl)) dX10_halves_26 ⟨lel 0 0 rfl, lel 0 0 rfl⟩) hS (fun q _ h => hFc q h) hFc (fun u_76 t H1 locs ht hvm hw_r_75 hB hz1 hk1 hS => ?_)
      obtain ⟨o0_77, o1_78, hP1, hK1, hD1⟩ := hB
      rw [ht] at hP1
      have hK1 := va_K.moved hvm.symm hK1
      obtain ⟨hP, hD⟩ := va_join (wr := []) (w1 := [(o0, .inr (8, [.int x_th, .ref mwo, .ref mim, .ref mhi, .ref mlu, .ref mtp, .int x_td, .ref mfv, .int x_sz, .int x_at, .int x_fr, .int x_to, .int x_va, .int x_fk, .int x_fp, .ref mfr, .ref mwt, .int x_wt, .int x_op, .int x_jo, .ref mfg, .ref mpl, .long x_dr, .ref mtm, .ref mfa, .ref mqu, .ref mmo, .ref mwy, .ref mwn, .ref mma, .ref mwi, .ref mnu, .ref mmv])), (mwy, .inl (c_wy, 201, .inr (.inl o0_77))), (mwn, .inl (c_wn, 201, .inr (.inl o1_78)))]) hP hD [0, 1, 2] [] rfl rfl (by decide) (by decide) hk1 hFc hP1 hD1
      have hK := (hK.sub (tys' := []) [] rfl).app hK1
      generalize H1 = H at hP hS ⊢
      have hP : va_P (dC, dI) vwCl [(o0, .inr (8, [.int x_th, .ref mwo, .ref mim, .ref mhi, .ref mlu, .ref mtp, .int x_td, .ref mfv, .int x_sz, .int x_at, .int x_fr, .int x_to, .int x_va, .int x_fk, .int x_fp, .ref mfr, .ref mwt, .int x_wt, .int x_op, .int x_jo, .ref mfg, .ref mpl, .long x_dr, .ref mtm, .ref mfa, .ref mqu, .ref mmo, .ref mwy, .ref mwn, .ref mma, .ref mwi, .ref mnu, .ref mmv])), (mwy, .inl (c_wy, 201, .inr (.inl o0_77))), (mwn, .inl (c_wn, 201, .inr (.inl o1_78)))] H := hP
      have hD : va_D A [(o0, .inr (8, [.int x_th, .ref mwo, .ref mim, .ref mhi, .ref mlu, .ref mtp, .int x_td, .ref mfv, .int x_sz, .int x_at, .int x_fr, .int x_to, .int x_va, .int x_fk, .int x_fp, .ref mfr, .ref mwt, .int x_wt, .int x_op, .int x_jo, .ref mfg, .ref mpl, .long x_dr, .ref mtm, .ref mfa, .ref mqu, .ref mmo, .ref mwy, .ref mwn, .ref mma, .ref mwi, .ref mnu, .ref mmv])), (mwy, .inl (c_wy, 201, .inr (.inl o0_77))), (mwn, .inl (c_wn, 201, .inr (.inl o1_78)))] := hD
      have hK : va_K (dC, dI) vwCl [(c_wy, .long), (c_wn, .long)] s := hK
      refine lv_lconst (v := 0) hx hb dX10_halves_29 (by decide) ?_
      refine lv_lstore_n (lv' := [(3, .long 0), (0, .ref o0), (1, .int a1), (2, .int a2)]) hx hb dX10_halves_30 rfl hl (by decide) rfl (fun ls hl => ?_)
      refine lv_iconst (v := 0) hx hb dX10_halves_31 (by decide) ?_
      refine lv_istore (lv' := [(5, .int 0), (3, .long 0), (0, .ref o0), (1, .int a1), (2, .int a2)]) hx hb dX10_halves_32 hl (by decide) rfl (fun ls hl => ?_)
      refine loopW (σ := Int32 × Int64) (fun v => (201 - v.1.toInt).toNat) (fun v H locs ls => ((0 : Int) ≤ v.1.toInt ∧ v.1.toInt ≤ 201) ∧ va_P (dC, dI) vwCl [(o0, .inr (8, [.int x_th, .ref mwo, .ref mim, .ref mhi, .ref mlu, .ref mtp, .int x_td, .ref mfv, .int x_sz, .int x_at, .int x_fr, .int x_to, .int x_va, .int x_fk, .int x_fp, .ref mfr, .ref mwt, .int x_wt, .int x_op, .int x_jo, .ref mfg, .ref mpl, .long x_dr, .ref mtm, .ref mfa, .ref mqu, .ref mmo, .ref mwy, .ref mwn, .ref mma, .ref mwi, .ref mnu, .ref mmv])), (mwy, .inl (c_wy, 201, .inr (.inl o0_77))), (mwn, .inl (c_wn, 201, .inr (.inl o1_78)))] H ∧ va_D A [(o0, .inr (8, [.int x_th, .ref mwo, .ref mim, .ref mhi, .ref mlu, .ref mtp, .int x_td, .ref mfv, .int x_sz, .int x_at, .int x_fr, .int x_to, .int x_va, .int x_fk, .int x_fp, .ref mfr, .ref mwt, .int x_wt, .int x_op, .int x_jo, .ref mfg, .ref mpl, .long x_dr, .ref mtm, .ref mfa, .ref mqu, .ref mmo, .ref mwy, .ref mwn, .ref mma, .ref mwi, .ref mnu, .ref mmv])), (mwy, .inl (c_wy, 201, .inr (.inl o0_77))), (mwn, .inl (c_wn, 201, .inr (.inl o1_78)))] ∧ va_S A s.heap H locs ∧ lv_has ls 6 [(5, .int v.1), (3, .long v.2), (0, .ref o0), (1, .int a1), (2, .int a2)]) (fun v H locs ls hI ih_34_128 => ?_) ((0 : Int32), (0 : Int64)) ⟨(show (0 : Int) ≤ (0 : Int32).toInt ∧ (0 : Int32).toInt ≤ 201 from (rg_w (by decide : (0 : Int) ≤ (0 : Int32).toInt ∧ (0 : Int32).toInt ≤ 0) (by decide) (by decide))), hP, hD, hS, lv_sub hl [0, 1, 2, 3, 4] rfl⟩
      obtain ⟨y_85, y_86⟩ := v
      obtain ⟨b_y_85, hP, hD, hS, hl⟩ := hI
      have b_y_85 : (0 : Int) ≤ y_85.toInt ∧ y_85.toInt ≤ 201 := b_y_85
      have hP : va_P (dC, dI) vwCl [(o0, .inr (8, [.int x_th, .ref mwo, .ref mim, .ref mhi, .ref mlu, .ref mtp, .int x_td, .ref mfv, .int x_sz, .int x_at, .int x_fr, .int x_to, .int x_va, .int x_fk, .int x_fp, .ref mfr, .ref mwt, .int x_wt, .int x_op, .int x_jo, .ref mfg, .ref mpl, .long x_dr, .ref mtm, .ref mfa, .ref mqu, .ref mmo, .ref mwy, .ref mwn, .ref mma, .ref mwi, .ref mnu, .ref mmv])), (mwy, .inl (c_wy, 201, .inr (.inl o0_77))), (mwn, .inl (c_wn, 201, .inr (.inl o1_78)))] H := hP
      have hD : va_D A [(o0, .inr (8, [.int x_th, .ref mwo, .ref mim, .ref mhi, .ref mlu, .ref mtp, .int x_td, .ref mfv, .int x_sz, .int x_at, .int x_fr, .int x_to, .int x_va, .int x_fk, .int x_fp, .ref mfr, .ref mwt, .int x_wt, .int x_op, .int x_jo, .ref mfg, .ref mpl, .long x_dr, .ref mtm, .ref mfa, .ref mqu, .ref mmo, .ref mwy, .ref mwn, .ref mma, .ref mwi, .ref mnu, .ref mmv])), (mwy, .inl (c_wy, 201, .inr (.inl o0_77))), (mwn, .inl (c_wn, 201, .inr (.inl o1_78)))] := hD
      have hl : lv_has ls 6 [(5, .int y_85), (3, .long y_86), (0, .ref o0), (1, .int a1), (2, .int a2)] := hl
      refine lv_iload hx hb dX10_halves_34 (lv_at hl 0 rfl) ?_
      refine lv_sipush (v := 201) hx hb dX10_halves_36 (by decide) ?_
      refine lv_icmp_ge (tgt := 66) hx hb dX10_halves_39 (by decide) (fun c_129 => ?_) (fun c_129 => ?_)
      ·
        have n_c_129 : (201 : Int) ≤ y_85.toInt := c_ge rfl (by decide) c_129
        have b_y_85 : (201 : Int) ≤ y_85.toInt ∧ y_85.toInt ≤ 201 := r_le2 (by decide : (201 : Int) ≤ (201 : Int32).toInt ∧ (201 : Int32).toInt ≤ 201) b_y_85 n_c_129 (by decide)
        refine lv_lload_n hx hb dX10_halves_66 rfl (lv_at hl 1 rfl) ?_
        have hP9 := hP.sub (ws' := [(o0, .inr (8, [.int x_th, .ref mwo, .ref mim, .ref mhi, .ref mlu, .ref mtp, .int x_td, .ref mfv, .int x_sz, .int x_at, .int x_fr, .int x_to, .int x_va, .int x_fk, .int x_fp, .ref mfr, .ref mwt, .int x_wt, .int x_op, .int x_jo, .ref mfg, .ref mpl, .long x_dr, .ref mtm, .ref mfa, .ref mqu, .ref mmo, .ref mwy, .ref mwn, .ref mma, .ref mwi, .ref mnu, .ref mmv])), (mwy, .inl (c_wy, 201, .inr (.inl o0_77))), (mwn, .inl (c_wn, 201, .inr (.inl o1_78)))]) [0, 1, 2] rfl
        have hD9 := hD.sub (ws' := [(o0, .inr (8, [.int x_th, .ref mwo, .ref mim, .ref mhi, .ref mlu, .ref mtp, .int x_td, .ref mfv, .int x_sz, .int x_at, .int x_fr, .int x_to, .int x_va, .int x_fk, .int x_fp, .ref mfr, .ref mwt, .int x_wt, .int x_op, .int x_jo, .ref mfg, .ref mpl, .long x_dr, .ref mtm, .ref mfa, .ref mqu, .ref mmo, .ref mwy, .ref mwn, .ref mma, .ref mwi, .ref mnu, .ref mmv])), (mwy, .inl (c_wy, 201, .inr (.inl o0_77))), (mwn, .inl (c_wn, 201, .inr (.inl o1_78)))]) [0, 1, 2] (by decide) rfl
        have hK9 := hK.sub (tys' := [(c_wy, .long), (c_wn, .long)]) [0, 1] rfl
        exact W.lret (v := y_86) hx hb hr (fun t ht hW => ⟨⟨y_86, (), rfl, trivial, o0_77, o1_78, by rw [ht]; exact hP9, va_K.moved hW.alike hK9, hD9⟩, hS.F ht⟩) hS.2.2 dX10_halves_67
      ·
        have n_c_129 : (y_85.toInt : Int) < 201 := c_nge rfl (by decide) c_129
        have b_y_85 : (0 : Int) ≤ y_85.toInt ∧ y_85.toInt ≤ 200 := r_lt1 b_y_85 (by decide : (201 : Int) ≤ (201 : Int32).toInt ∧ (201 : Int32).toInt ≤ 201) n_c_129 (by decide)
        refine lv_lload_n hx hb dX10_halves_42 rfl (lv_at hl 1 rfl) ?_
        refine lv_aload_n hx hb dX10_halves_43 rfl (lv_at hl 2 rfl) ?_
        refine va_get (D := (dC, dI)) (ci := 8) (v := .ref mwy) (C := RX10) (T := TX10) (N := 33) hx hb hts iX10_halves_X10 hown hK hP 0 rfl rfl 27 (by decide) (hts (.fieldLink RX10 58 "LuckyTicketModel" "ways" "[J") (List.mem_of_getElem? (i := 8) rfl)) (fun _ h9 => h9) rfl dX10_halves_44 ?_
        refine lv_iload hx hb dX10_halves_47 (lv_at hl 0 rfl) ?_
        refine va_lald hx hb hK hP 1 0 rfl rfl (vp_in_b b_y_85 (by decide) (by decide)) dX10_halves_49 ?_
        refine lv_topl (fun z_130 e_z_130 => ?_)
        refine lv_aload_n hx hb dX10_halves_50 rfl (lv_at hl 2 rfl) ?_
        refine va_get (D := (dC, dI)) (ci := 8) (v := .ref mwy) (C := RX10) (T := TX10) (N := 33) hx hb hts iX10_halves_X10 hown hK hP 0 rfl rfl 27 (by decide) (hts (.fieldLink RX10 58 "LuckyTicketModel" "ways" "[J") (List.mem_of_getElem? (i := 8) rfl)) (fun _ h9 => h9) rfl dX10_halves_51 ?_
        refine lv_iload hx hb dX10_halves_54 (lv_at hl 0 rfl) ?_
        refine va_lald hx hb hK hP 1 0 rfl rfl (vp_in_b b_y_85 (by decide) (by decide)) dX10_halves_56 ?_
        refine lv_topl (fun z_131 e_z_131 => ?_)
        refine lv_lmul hx hb dX10_halves_57 ?_
        refine lv_topl (fun z_132 e_z_132 => ?_)
        refine lv_ladd hx hb dX10_halves_58 ?_
        refine lv_topl (fun z_133 e_z_133 => ?_)
        refine lv_lstore_n (lv' := [(3, .long z_133), (5, .int y_85), (0, .ref o0), (1, .int a1), (2, .int a2)]) hx hb dX10_halves_59 rfl hl (by decide) rfl (fun ls hl => ?_)
        obtain ⟨z_134, e_z_134⟩ : ∃ y : Int32, y = y_85 + 1 := ⟨_, rfl⟩
        refine lv_iinc (v := z_134) (lv' := [(5, .int z_134), (3, .long z_133), (0, .ref o0), (1, .int a1), (2, .int a2)]) hx hb dX10_halves_60 hl (k := 1) rfl (by rw [e_z_134]; rfl) (by decide) rfl (fun ls hl => ?_)
        obtain ⟨q_z_134, b_z_134⟩ := ti_add (lo := 1) (hi := 201) e_z_134 rfl (by decide : (1 : Int32).toInt = 1) b_y_85 (by decide : (1 : Int) ≤ (1 : Int32).toInt ∧ (1 : Int32).toInt ≤ 1) (by decide)
        refine lv_goto (tgt := 34) hx hb dX10_halves_63 (by decide) ?_
        exact ih_34_128 (z_134, z_133) _ _ _ ⟨(show (0 : Int) ≤ z_134.toInt ∧ z_134.toInt ≤ 201 from (rg_w b_z_134 (by decide) (by decide))), hP, hD, hS, lv_sub hl [0, 1, 2, 3, 4] rfl⟩ (show (201 - z_134.toInt).toNat < (201 - y_85.toInt).toNat by omega)
    ·
      have n_c_72 : (z_71.toInt : Int) ≠ 0 := c_ne rfl (by decide) c_72
      have b_z_71 : (1 : Int) ≤ z_71.toInt ∧ z_71.toInt ≤ 1 := r_ne1 b_z_71 (by decide : (0 : Int) ≤ (0 : Int32).toInt ∧ (0 : Int32).toInt ≤ 0) n_c_72 (by decide)
      refine lv_ldc2 (v := (-2)) hx hb hown (hts (.constantLong RX10 416 (-2)) (List.mem_of_getElem? (i := 4) rfl)) dX10_halves_14 ?_
      have hP9 := hP.sub (ws' := [(o0, .inr (8, [.int x_th, .ref mwo, .ref mim, .ref mhi, .ref mlu, .ref mtp, .int x_td, .ref mfv, .int x_sz, .int x_at, .int x_fr, .int x_to, .int x_va, .int x_fk, .int x_fp, .ref mfr, .ref mwt, .int x_wt, .int x_op, .int x_jo, .ref mfg, .ref mpl, .long x_dr, .ref mtm, .ref mfa, .ref mqu, .ref mmo, .ref mwy, .ref mwn, .ref mma, .ref mwi, .ref mnu, .ref mmv])), (mwy, .inl (c_wy, 201, .inr (.inl w_wy))), (mwn, .inl (c_wn, 201, .inr (.inl w_wn)))]) [0, 1, 2] rfl
      have hD9 := hD.sub (ws' := [(o0, .inr (8, [.int x_th, .ref mwo, .ref mim, .ref mhi, .ref mlu, .ref mtp, .int x_td, .ref mfv, .int x_sz, .int x_at, .int x_fr, .int x_to, .int x_va, .int x_fk, .int x_fp, .ref mfr, .ref mwt, .int x_wt, .int x_op, .int x_jo, .ref mfg, .ref mpl, .long x_dr, .ref mtm, .ref mfa, .ref mqu, .ref mmo, .ref mwy, .ref mwn, .ref mma, .ref mwi, .ref mnu, .ref mmv])), (mwy, .inl (c_wy, 201, .inr (.inl w_wy))), (mwn, .inl (c_wn, 201, .inr (.inl w_wn)))]) [0, 1, 2] (by decide) rfl
      have hK9 := hK.sub (tys' := [(c_wy, .long), (c_wn, .long)]) [0, 1] rfl
      exact W.lret (v := (-2)) hx hb hr (fun t ht hW => ⟨⟨(-2), (), rfl, trivial, w_wy, w_wn, by rw [ht]; exact hP9, va_K.moved hW.alike hK9, hD9⟩, hS.F ht⟩) hS.2.2 dX10_halves_17
theorem dX10_middle_0 : decode cX10_middle 0 = .ok (.iload_n 1, 1) := by decide +kernel
theorem dX10_middle_1 : decode cX10_middle 1 = .ok (.iload_n 2, 1) := by decide +kernel
theorem dX10_middle_2 : decode cX10_middle 2 = .ok (.invokestatic 457, 3) := by decide +kernel
theorem dX10_middle_5 : decode cX10_middle 5 = .ok (.ifCond .ne 7, 3) := by decide +kernel
theorem dX10_middle_8 : decode cX10_middle 8 = .ok (.ldc2_w 416, 3) := by decide +kernel
theorem dX10_middle_11 : decode cX10_middle 11 = .ok (.lreturn, 1) := by decide +kernel
theorem dX10_middle_12 : decode cX10_middle 12 = .ok (.aload_n 0, 1) := by decide +kernel
theorem dX10_middle_13 : decode cX10_middle 13 = .ok (.iload_n 1, 1) := by decide +kernel
theorem dX10_middle_14 : decode cX10_middle 14 = .ok (.iconst 0, 1) := by decide +kernel
theorem dX10_middle_15 : decode cX10_middle 15 = .ok (.iload_n 2, 1) := by decide +kernel
theorem dX10_middle_16 : decode cX10_middle 16 = .ok (.iconst 1, 1) := by decide +kernel
theorem dX10_middle_17 : decode cX10_middle 17 = .ok (.isub, 1) := by decide +kernel
theorem dX10_middle_18 : decode cX10_middle 18 = .ok (.invokevirtual 462, 3) := by decide +kernel
theorem dX10_middle_21 : decode cX10_middle 21 = .ok (.aload_n 0, 1) := by decide +kernel
theorem dX10_middle_22 : decode cX10_middle 22 = .ok (.getfield 58, 3) := by decide +kernel
theorem dX10_middle_25 : decode cX10_middle 25 = .ok (.iload_n 2, 1) := by decide +kernel
theorem dX10_middle_26 : decode cX10_middle 26 = .ok (.iconst 1, 1) := by decide +kernel
theorem dX10_middle_27 : decode cX10_middle 27 = .ok (.isub, 1) := by decide +kernel
theorem dX10_middle_28 : decode cX10_middle 28 = .ok (.iload_n 1, 1) := by decide +kernel
theorem dX10_middle_29 : decode cX10_middle 29 = .ok (.imul, 1) := by decide +kernel
theorem dX10_middle_30 : decode cX10_middle 30 = .ok (.iconst 2, 1) := by decide +kernel
theorem dX10_middle_31 : decode cX10_middle 31 = .ok (.idiv, 1) := by decide +kernel
theorem dX10_middle_32 : decode cX10_middle 32 = .ok (.laload, 1) := by decide +kernel
theorem dX10_middle_33 : decode cX10_middle 33 = .ok (.lreturn, 1) := by decide +kernel
theorem hd_yX10_middle : yX10_middle.cls = RX10 ∧ yX10_middle.cls ≠ "java/lang/invoke/MethodHandle" ∧ yX10_middle.cls ≠ "java/lang/invoke/VarHandle" ∧ (parseMethodDescriptor yX10_middle.desc).map (fun d => d.parameters.length) = some 2 := by decide +kernel
def uX10_middle : List Cond := List.cons (.code yX10_middle cX10_middle 3 (some .long)) (HAppend.hAppend ([.methodLink RX10 457 yX10_isLong, .static yX10_isLong, .initialized RX10, .methodLink RX10 462 yX10_fillWays, .instanceMethod yX10_fillWays, .selects RX10 yX10_fillWays yX10_fillWays, .fieldLink RX10 58 "LuckyTicketModel" "ways" "[J", .constantLong RX10 416 (-2)] : List Cond) (HAppend.hAppend uX10_isLong (HAppend.hAppend uX10_fillWays wsX100)))
theorem iX10_middle_X10 : ∀ w ∈ wsX100, w ∈ uX10_middle := fun _ h => (List.mem_cons_of_mem _ (List.mem_append_right _ (List.mem_append_right _ (List.mem_append_right _ h))))
theorem guX10_middle : GU uX10_middle := gu_cons (gu_app (by decide +kernel) (gu_ap guX10_isLong (gu_ap guX10_fillWays gws_X10)))
theorem gX10_middle__X10_isLong_S457 : GoodIn uX10_middle (va_wsS RX10 457 yX10_isLong uX10_isLong) := gin_S (List.mem_of_getElem? (i := 1) rfl) (List.mem_of_getElem? (i := 2) rfl) (List.mem_of_getElem? (i := 3) rfl) (fun _ h => (List.mem_cons_of_mem _ (List.mem_append_right _ (List.mem_append_left _ h)))) guX10_isLong
theorem gX10_middle__X10_fillWays_V462 : GoodIn uX10_middle (wsV RX10 462 RX10 yX10_fillWays uX10_fillWays) := gin_V (List.mem_of_getElem? (i := 4) rfl) (List.mem_of_getElem? (i := 5) rfl) (List.mem_of_getElem? (i := 6) rfl) (List.mem_of_getElem? (i := 3) rfl) (fun _ h => (List.mem_cons_of_mem _ (List.mem_append_right _ (List.mem_append_right _ (List.mem_append_left _ h))))) guX10_fillWays
set_option maxHeartbeats 4000000 in
set_option maxRecDepth 100000 in
theorem kX10_middle (l : Launch) (dC : Nat → ClassId) (dI : Nat → Nat → Nat) (o0 : Nat) (x_th : Int32) (mwo : Nat) (mim : Nat) (mhi : Nat) (mlu : Nat) (mtp : Nat) (x_td : Int32) (mfv : Nat) (x_sz : Int32) (x_at : Int32) (x_fr : Int32) (x_to : Int32) (x_va : Int32) (x_fk : Int32) (x_fp : Int32) (mfr : Nat) (mwt : Nat) (x_wt : Int32) (x_op : Int32) (x_jo : Int32) (mfg : Nat) (mpl : Nat) (x_dr : Int64) (mtm : Nat) (mfa : Nat) (mqu : Nat) (mmo : Nat) (mwy : Nat) (mwn : Nat) (mma : Nat) (mwi : Nat) (mnu : Nat) (mmv : Nat) (c_wy : ClassId) (c_wn : ClassId) (w_wy : Nat → Int64) (w_wn : Nat → Int64) (a1 : Int32) (a2 : Int32) (sz : Nat) : Met l yX10_middle uX10_middle ({ frames := 2, cells := 0, slots := 0, locals := 46 }) (va_Pc [.ref o0, .int a1, .int a2] (hw (dC, dI) vwCl [(o0, .inr (8, [.int x_th, .ref mwo, .ref mim, .ref mhi, .ref mlu, .ref mtp, .int x_td, .ref mfv, .int x_sz, .int x_at, .int x_fr, .int x_to, .int x_va, .int x_fk, .int x_fp, .ref mfr, .ref mwt, .int x_wt, .int x_op, .int x_jo, .ref mfg, .ref mpl, .long x_dr, .ref mtm, .ref mfa, .ref mqu, .ref mmo, .ref mwy, .ref mwn, .ref mma, .ref mwi, .ref mnu, .ref mmv])), (mwy, .inl (c_wy, 201, .inr (.inl w_wy))), (mwn, .inl (c_wn, 201, .inr (.inl w_wn)))] [(c_wy, .long), (c_wn, .long)] sz)) (va_Ql (fun (r : Int64) (_ : Unit) => True) (fun (_ : Unit) t => ∃ (o0_ : Nat → Int64) (o1_ : Nat → Int64), va_P (dC, dI) vwCl [(o0, .inr (8, [.int x_th, .ref mwo, .ref mim, .ref mhi, .ref mlu, .ref mtp, .int x_td, .ref mfv, .int x_sz, .int x_at, .int x_fr, .int x_to, .int x_va, .int x_fk, .int x_fp, .ref mfr, .ref mwt, .int x_wt, .int x_op, .int x_jo, .ref mfg, .ref mpl, .long x_dr, .ref mtm, .ref mfa, .ref mqu, .ref mmo, .ref mwy, .ref mwn, .ref mma, .ref mwi, .ref mnu, .ref mmv])), (mwy, .inl (c_wy, 201, .inr (.inl o0_))), (mwn, .inl (c_wn, 201, .inr (.inl o1_)))] t.heap ∧ va_K (dC, dI) vwCl [(c_wy, .long), (c_wn, .long)] t ∧ va_D (va_A [(o0, .inr (8, [.int x_th, .ref mwo, .ref mim, .ref mhi, .ref mlu, .ref mtp, .int x_td, .ref mfv, .int x_sz, .int x_at, .int x_fr, .int x_to, .int x_va, .int x_fk, .int x_fp, .ref mfr, .ref mwt, .int x_wt, .int x_op, .int x_jo, .ref mfg, .ref mpl, .long x_dr, .ref mtm, .ref mfa, .ref mqu, .ref mmo, .ref mwy, .ref mwn, .ref mma, .ref mwi, .ref mnu, .ref mmv])), (mwy, .inl (c_wy, 201, .inr (.inl w_wy))), (mwn, .inl (c_wn, 201, .inr (.inl w_wn)))] sz) [(o0, .inr (8, [.int x_th, .ref mwo, .ref mim, .ref mhi, .ref mlu, .ref mtp, .int x_td, .ref mfv, .int x_sz, .int x_at, .int x_fr, .int x_to, .int x_va, .int x_fk, .int x_fp, .ref mfr, .ref mwt, .int x_wt, .int x_op, .int x_jo, .ref mfg, .ref mpl, .long x_dr, .ref mtm, .ref mfa, .ref mqu, .ref mmo, .ref mwy, .ref mwn, .ref mma, .ref mwi, .ref mnu, .ref mmv])), (mwy, .inl (c_wy, 201, .inr (.inl o0_))), (mwn, .inl (c_wn, 201, .inr (.inl o1_)))]) (va_A [(o0, .inr (8, [.int x_th, .ref mwo, .ref mim, .ref mhi, .ref mlu, .ref mtp, .int x_td, .ref mfv, .int x_sz, .int x_at, .int x_fr, .int x_to, .int x_va, .int x_fk, .int x_fp, .ref mfr, .ref mwt, .int x_wt, .int x_op, .int x_jo, .ref mfg, .ref mpl, .long x_dr, .ref mtm, .ref mfa, .ref mqu, .ref mmo, .ref mwy, .ref mwn, .ref mma, .ref mwi, .ref mnu, .ref mmv])), (mwy, .inl (c_wy, 201, .inr (.inl w_wy))), (mwn, .inl (c_wn, 201, .inr (.inl w_wn)))] sz)) 0 0 (va_A [(o0, .inr (8, [.int x_th, .ref mwo, .ref mim, .ref mhi, .ref mlu, .ref mtp, .int x_td, .ref mfv, .int x_sz, .int x_at, .int x_fr, .int x_to, .int x_va, .int x_fk, .int x_fp, .ref mfr, .ref mwt, .int x_wt, .int x_op, .int x_jo, .ref mfg, .ref mpl, .long x_dr, .ref mtm, .ref mfa, .ref mqu, .ref mmo, .ref mwy, .ref mwn, .ref mma, .ref mwi, .ref mnu, .ref mmv])), (mwy, .inl (c_wy, 201, .inr (.inl w_wy))), (mwn, .inl (c_wn, 201, .inr (.inl w_wn)))] sz) := by
  refine Met.ofW (cc := cX10_middle) (maxL := 3) (ret := (some .long)) pn_X10 rfl ?_
  intro p e s m args below meth c s₁ B hml hv
  obtain ⟨rfl, hsz, hP, hK, hD0, hN⟩ := hv
  have hx := B.exec
  have hb := B.bytes
  have hr := B.returns
  have hts := atoms_spec (ws := uX10_middle) B.pre
  have hown : s.vm.findClass RX10 = some m.cls := hown_of B.named rfl
  have hlocks := B.notSynchronized
  subst hsz
  have hD := hD0.self (sz := s.heap.size)
  generalize hAe : va_A [(o0, .inr (8, [.int x_th, .ref mwo, .ref mim, .ref mhi, .ref mlu, .ref mtp, .int x_td, .ref mfv, .int x_sz, .int x_at, .int x_fr, .int x_to, .int x_va, .int x_fk, .int x_fp, .ref mfr, .ref mwt, .int x_wt, .int x_op, .int x_jo, .ref mfg, .ref mpl, .long x_dr, .ref mtm, .ref mfa, .ref mqu, .ref mmo, .ref mwy, .ref mwn, .ref mma, .ref mwi, .ref mnu, .ref mmv])), (mwy, .inl (c_wy, 201, .inr (.inl w_wy))), (mwn, .inl (c_wn, 201, .inr (.inl w_wn)))] s.heap.size = A at hD ⊢
  have hA : ∀ q : Nat, s.heap.size ≤ q → A q := fun q h => by rw [← hAe]; exact Or.inr h
  have hS : va_S A s.heap s.heap [] := va_S.rf
  have hP : va_P (dC, dI) vwCl [(o0, .inr (8, [.int x_th, .ref mwo, .ref mim, .ref mhi, .ref mlu, .ref mtp, .int x_td, .ref mfv, .int x_sz, .int x_at, .int x_fr, .int x_to, .int x_va, .int x_fk, .int x_fp, .ref mfr, .ref mwt, .int x_wt, .int x_op, .int x_jo, .ref mfg, .ref mpl, .long x_dr, .ref mtm, .ref mfa, .ref mqu, .ref mmo, .ref mwy, .ref mwn, .ref mma, .ref mwi, .ref mnu, .ref mmv])), (mwy, .inl (c_wy, 201, .inr (.inl w_wy))), (mwn, .inl (c_wn, 201, .inr (.inl w_wn)))] s.heap := hP
  have hl := lv_entry ([.ref o0, .int a1, .int a2]) (n := 3) (Nat.le_of_ble_eq_true rfl)
  rw [lg_entry_eq]
  generalize (lg_sl ([.ref o0, .int a1, .int a2]) ++ List.replicate (3 - (lg_sl ([.ref o0, .int a1, .int a2])).length) Slot.unset).toArray = ls at hl ⊢
  have hl : lv_has ls 3 [(0, .ref o0), (1, .int a1), (2, .int a2)] := hl
  refine lv_iload_n hx hb dX10_middle_0 rfl (lv_at hl 1 rfl) ?_
  refine lv_iload_n hx hb dX10_middle_1 rfl (lv_at hl 2 rfl) ?_
  refine vp_callSi (W.runS (As := [.int a1, .int a2]) (rest := []) ⟨hx, hb, hml, hown, hts⟩ (kX10_isLong l dC dI a1 a2 ) (va_cwS 2 hts gX10_middle__X10_isLong_S457 rfl rfl rfl hd_yX10_isLong.2 ⟨lel 2 2 rfl, lel 46 46 rfl⟩) ⟨pn_fb, pn_use⟩ rfl rfl hl.1 rfl (lv_room (Nat.le_of_ble_eq_true rfl)) dX10_middle_2 ⟨lel 0 0 rfl, lel 0 0 rfl⟩) (fun r_13 h_r_13 => ?_)
  obtain ⟨b_r_13, nz_r_13⟩ := h_r_13
  have b_r_13 : (0 : Int) ≤ r_13.toInt ∧ r_13.toInt ≤ 1 := b_r_13
  refine lv_if_ne (tgt := 12) hx hb dX10_middle_5 (by decide) (fun c_14 => ?_) (fun c_14 => ?_)
  ·
    have n_c_14 : (r_13.toInt : Int) ≠ 0 := c_ne rfl (by decide) c_14
    have b_r_13 : (1 : Int) ≤ r_13.toInt ∧ r_13.toInt ≤ 1 := r_ne1 b_r_13 (by decide : (0 : Int) ≤ (0 : Int32).toInt ∧ (0 : Int32).toInt ≤ 0) n_c_14 (by decide)
    obtain ⟨b_a1, b_a2, g_15⟩ := nz_r_13 c_14
    refine lv_aload_n hx hb dX10_middle_12 rfl (lv_at hl 0 rfl) ?_
    refine lv_iload_n hx hb dX10_middle_13 rfl (lv_at hl 1 rfl) ?_
    refine lv_iconst (v := 0) hx hb dX10_middle_14 (by decide) ?_
    refine lv_iload_n hx hb dX10_middle_15 rfl (lv_at hl 2 rfl) ?_
    refine lv_iconst (v := 1) hx hb dX10_middle_16 (by decide) ?_
    refine lv_isub hx hb dX10_middle_17 ?_
    refine lv_topi (fun z_16 e_z_16 => ?_)
    obtain ⟨q_z_16, b_z_16⟩ := ti_sub (lo := 1) (hi := 15) e_z_16 rfl (by decide : (1 : Int32).toInt = 1) b_a2 (by decide : (1 : Int) ≤ (1 : Int32).toInt ∧ (1 : Int32).toInt ≤ 1) (by decide)
    have hFc := va_free (wc := [(o0, .inr (8, [.int x_th, .ref mwo, .ref mim, .ref mhi, .ref mlu, .ref mtp, .int x_td, .ref mfv, .int x_sz, .int x_at, .int x_fr, .int x_to, .int x_va, .int x_fk, .int x_fp, .ref mfr, .ref mwt, .int x_wt, .int x_op, .int x_jo, .ref mfg, .ref mpl, .long x_dr, .ref mtm, .ref mfa, .ref mqu, .ref mmo, .ref mwy, .ref mwn, .ref mma, .ref mwi, .ref mnu, .ref mmv])), (mwy, .inl (c_wy, 201, .inr (.inl w_wy))), (mwn, .inl (c_wn, 201, .inr (.inl w_wn)))]) hD hS hA [0, 1, 2] rfl
    refine va_callv (va_runV (As := [.int a1, .int 0, .int z_16]) (rest := []) ⟨hx, hb, hml, hown, hts⟩ (kX10_fillWays l dC dI o0 x_th mwo mim mhi mlu mtp x_td mfv x_sz x_at x_fr x_to x_va x_fk x_fp mfr mwt x_wt x_op x_jo mfg mpl x_dr mtm mfa mqu mmo mwy mwn mma mwi mnu mmv c_wy c_wn w_wy w_wn a1 0 z_16 (s.heap.size) (rg_w b_a1 (by decide) (by decide)) (rg_w (by decide : (0 : Int) ≤ (0 : Int32).toInt ∧ (0 : Int32).toInt ≤ 0) (by decide) (by decide)) (rg_w b_z_16 (by decide) (by decide))) (cwV 3 hts gX10_middle__X10_fillWays_V462 rfl rfl rfl hd_yX10_fillWays ⟨lel 1 2 rfl, lel 26 46 rfl⟩) ⟨hw_fb, rcv_X10 hK hP (q0 := 0) rfl, (hw_use hP hD hK hN [0, 1, 2] rfl (by decide) rfl [0, 1] rfl)⟩ rfl rfl hl.1 rfl (lv_room (Nat.le_of_ble_eq_true rfl)) dX10_middle_18 ⟨lel 0 0 rfl, lel 0 0 rfl⟩) hS (fun q _ h => hFc q h) hFc (fun u_18 t H1 locs ht hvm hw_r_17 hB hz1 hk1 hS => ?_)
    obtain ⟨o0_19, o1_20, hP1, hK1, hD1⟩ := hB
    rw [ht] at hP1
    have hK1 := va_K.moved hvm.symm hK1
    obtain ⟨hP, hD⟩ := va_join (wr := []) (w1 := [(o0, .inr (8, [.int x_th, .ref mwo, .ref mim, .ref mhi, .ref mlu, .ref mtp, .int x_td, .ref mfv, .int x_sz, .int x_at, .int x_fr, .int x_to, .int x_va, .int x_fk, .int x_fp, .ref mfr, .ref mwt, .int x_wt, .int x_op, .int x_jo, .ref mfg, .ref mpl, .long x_dr, .ref mtm, .ref mfa, .ref mqu, .ref mmo, .ref mwy, .ref mwn, .ref mma, .ref mwi, .ref mnu, .ref mmv])), (mwy, .inl (c_wy, 201, .inr (.inl o0_19))), (mwn, .inl (c_wn, 201, .inr (.inl o1_20)))]) hP hD [0, 1, 2] [] rfl rfl (by decide) (by decide) hk1 hFc hP1 hD1
    have hK := (hK.sub (tys' := []) [] rfl).app hK1
    generalize H1 = H at hP hS ⊢
    have hP : va_P (dC, dI) vwCl [(o0, .inr (8, [.int x_th, .ref mwo, .ref mim, .ref mhi, .ref mlu, .ref mtp, .int x_td, .ref mfv, .int x_sz, .int x_at, .int x_fr, .int x_to, .int x_va, .int x_fk, .int x_fp, .ref mfr, .ref mwt, .int x_wt, .int x_op, .int x_jo, .ref mfg, .ref mpl, .long x_dr, .ref mtm, .ref mfa, .ref mqu, .ref mmo, .ref mwy, .ref mwn, .ref mma, .ref mwi, .ref mnu, .ref mmv])), (mwy, .inl (c_wy, 201, .inr (.inl o0_19))), (mwn, .inl (c_wn, 201, .inr (.inl o1_20)))] H := hP
    have hD : va_D A [(o0, .inr (8, [.int x_th, .ref mwo, .ref mim, .ref mhi, .ref mlu, .ref mtp, .int x_td, .ref mfv, .int x_sz, .int x_at, .int x_fr, .int x_to, .int x_va, .int x_fk, .int x_fp, .ref mfr, .ref mwt, .int x_wt, .int x_op, .int x_jo, .ref mfg, .ref mpl, .long x_dr, .ref mtm, .ref mfa, .ref mqu, .ref mmo, .ref mwy, .ref mwn, .ref mma, .ref mwi, .ref mnu, .ref mmv])), (mwy, .inl (c_wy, 201, .inr (.inl o0_19))), (mwn, .inl (c_wn, 201, .inr (.inl o1_20)))] := hD
    have hK : va_K (dC, dI) vwCl [(c_wy, .long), (c_wn, .long)] s := hK
    refine lv_aload_n hx hb dX10_middle_21 rfl (lv_at hl 0 rfl) ?_
    refine va_get (D := (dC, dI)) (ci := 8) (v := .ref mwy) (C := RX10) (T := TX10) (N := 33) hx hb hts iX10_middle_X10 hown hK hP 0 rfl rfl 27 (by decide) (hts (.fieldLink RX10 58 "LuckyTicketModel" "ways" "[J") (List.mem_of_getElem? (i := 7) rfl)) (fun _ h9 => h9) rfl dX10_middle_22 ?_
    refine lv_iload_n hx hb dX10_middle_25 rfl (lv_at hl 2 rfl) ?_
    refine lv_iconst (v := 1) hx hb dX10_middle_26 (by decide) ?_
    refine lv_isub hx hb dX10_middle_27 ?_
    refine lv_topi (fun z_21 e_z_21 => ?_)
    obtain ⟨q_z_21, b_z_21⟩ := ti_sub (lo := 1) (hi := 15) e_z_21 rfl (by decide : (1 : Int32).toInt = 1) b_a2 (by decide : (1 : Int) ≤ (1 : Int32).toInt ∧ (1 : Int32).toInt ≤ 1) (by decide)
    refine lv_iload_n hx hb dX10_middle_28 rfl (lv_at hl 1 rfl) ?_
    refine lv_imul hx hb dX10_middle_29 ?_
    refine lv_topi (fun z_22 e_z_22 => ?_)
    obtain ⟨q_z_22, b_z_22⟩ := ti_mul (lo := 1) (hi := 180) e_z_22 rfl rfl b_z_21 b_a1 (by decide)
    refine lv_iconst (v := 2) hx hb dX10_middle_30 (by decide) ?_
    refine lv_idiv hx hb dX10_middle_31 (by decide) ?_
    refine lv_topi (fun z_23 e_z_23 => ?_)
    obtain ⟨q_z_23, b_z_23⟩ := ti_div (hi := 90) e_z_23 rfl (by decide : (2 : Int32).toInt = 2) b_z_22 (by decide : (2 : Int) ≤ (2 : Int32).toInt ∧ (2 : Int32).toInt ≤ 2) (by decide)
    refine va_lald hx hb hK hP 1 0 rfl rfl (vp_in_b b_z_23 (by decide) (by decide)) dX10_middle_32 ?_
    refine lv_topl (fun z_24 e_z_24 => ?_)
    have hP9 := hP.sub (ws' := [(o0, .inr (8, [.int x_th, .ref mwo, .ref mim, .ref mhi, .ref mlu, .ref mtp, .int x_td, .ref mfv, .int x_sz, .int x_at, .int x_fr, .int x_to, .int x_va, .int x_fk, .int x_fp, .ref mfr, .ref mwt, .int x_wt, .int x_op, .int x_jo, .ref mfg, .ref mpl, .long x_dr, .ref mtm, .ref mfa, .ref mqu, .ref mmo, .ref mwy, .ref mwn, .ref mma, .ref mwi, .ref mnu, .ref mmv])), (mwy, .inl (c_wy, 201, .inr (.inl o0_19))), (mwn, .inl (c_wn, 201, .inr (.inl o1_20)))]) [0, 1, 2] rfl
    have hD9 := hD.sub (ws' := [(o0, .inr (8, [.int x_th, .ref mwo, .ref mim, .ref mhi, .ref mlu, .ref mtp, .int x_td, .ref mfv, .int x_sz, .int x_at, .int x_fr, .int x_to, .int x_va, .int x_fk, .int x_fp, .ref mfr, .ref mwt, .int x_wt, .int x_op, .int x_jo, .ref mfg, .ref mpl, .long x_dr, .ref mtm, .ref mfa, .ref mqu, .ref mmo, .ref mwy, .ref mwn, .ref mma, .ref mwi, .ref mnu, .ref mmv])), (mwy, .inl (c_wy, 201, .inr (.inl o0_19))), (mwn, .inl (c_wn, 201, .inr (.inl o1_20)))]) [0, 1, 2] (by decide) rfl
    have hK9 := hK.sub (tys' := [(c_wy, .long), (c_wn, .long)]) [0, 1] rfl
    exact W.lret (v := z_24) hx hb hr (fun t ht hW => ⟨⟨z_24, (), rfl, trivial, o0_19, o1_20, by rw [ht]; exact hP9, va_K.moved hW.alike hK9, hD9⟩, hS.F ht⟩) hS.2.2 dX10_middle_33
  ·
    have n_c_14 : (r_13.toInt : Int) = 0 := c_eq rfl (by decide) c_14
    have b_r_13 : (0 : Int) ≤ r_13.toInt ∧ r_13.toInt ≤ 0 := r_eq1 b_r_13 (by decide : (0 : Int) ≤ (0 : Int32).toInt ∧ (0 : Int32).toInt ≤ 0) n_c_14 (by decide)
    refine lv_ldc2 (v := (-2)) hx hb hown (hts (.constantLong RX10 416 (-2)) (List.mem_of_getElem? (i := 8) rfl)) dX10_middle_8 ?_
    have hP9 := hP.sub (ws' := [(o0, .inr (8, [.int x_th, .ref mwo, .ref mim, .ref mhi, .ref mlu, .ref mtp, .int x_td, .ref mfv, .int x_sz, .int x_at, .int x_fr, .int x_to, .int x_va, .int x_fk, .int x_fp, .ref mfr, .ref mwt, .int x_wt, .int x_op, .int x_jo, .ref mfg, .ref mpl, .long x_dr, .ref mtm, .ref mfa, .ref mqu, .ref mmo, .ref mwy, .ref mwn, .ref mma, .ref mwi, .ref mnu, .ref mmv])), (mwy, .inl (c_wy, 201, .inr (.inl w_wy))), (mwn, .inl (c_wn, 201, .inr (.inl w_wn)))]) [0, 1, 2] rfl
    have hD9 := hD.sub (ws' := [(o0, .inr (8, [.int x_th, .ref mwo, .ref mim, .ref mhi, .ref mlu, .ref mtp, .int x_td, .ref mfv, .int x_sz, .int x_at, .int x_fr, .int x_to, .int x_va, .int x_fk, .int x_fp, .ref mfr, .ref mwt, .int x_wt, .int x_op, .int x_jo, .ref mfg, .ref mpl, .long x_dr, .ref mtm, .ref mfa, .ref mqu, .ref mmo, .ref mwy, .ref mwn, .ref mma, .ref mwi, .ref mnu, .ref mmv])), (mwy, .inl (c_wy, 201, .inr (.inl w_wy))), (mwn, .inl (c_wn, 201, .inr (.inl w_wn)))]) [0, 1, 2] (by decide) rfl
    have hK9 := hK.sub (tys' := [(c_wy, .long), (c_wn, .long)]) [0, 1] rfl
    exact W.lret (v := (-2)) hx hb hr (fun t ht hW => ⟨⟨(-2), (), rfl, trivial, w_wy, w_wn, by rw [ht]; exact hP9, va_K.moved hW.alike hK9, hD9⟩, hS.F ht⟩) hS.2.2 dX10_middle_11
theorem dX10_most_0 : decode cX10_most 0 = .ok (.iload_n 1, 1) := by decide +kernel
theorem dX10_most_1 : decode cX10_most 1 = .ok (.iload_n 2, 1) := by decide +kernel
theorem dX10_most_2 : decode cX10_most 2 = .ok (.invokestatic 457, 3) := by decide +kernel
theorem dX10_most_5 : decode cX10_most 5 = .ok (.ifCond .ne 6, 3) := by decide +kernel
theorem dX10_most_8 : decode cX10_most 8 = .ok (.bipush (-2), 2) := by decide +kernel
theorem dX10_most_10 : decode cX10_most 10 = .ok (.ireturn, 1) := by decide +kernel
theorem dX10_most_11 : decode cX10_most 11 = .ok (.aload_n 0, 1) := by decide +kernel
theorem dX10_most_12 : decode cX10_most 12 = .ok (.iload_n 1, 1) := by decide +kernel
theorem dX10_most_13 : decode cX10_most 13 = .ok (.iconst 0, 1) := by decide +kernel
theorem dX10_most_14 : decode cX10_most 14 = .ok (.iload_n 2, 1) := by decide +kernel
theorem dX10_most_15 : decode cX10_most 15 = .ok (.iconst 1, 1) := by decide +kernel
theorem dX10_most_16 : decode cX10_most 16 = .ok (.isub, 1) := by decide +kernel
theorem dX10_most_17 : decode cX10_most 17 = .ok (.invokevirtual 462, 3) := by decide +kernel
theorem dX10_most_20 : decode cX10_most 20 = .ok (.iconst 0, 1) := by decide +kernel
theorem dX10_most_21 : decode cX10_most 21 = .ok (.istore_n 3, 1) := by decide +kernel
theorem dX10_most_22 : decode cX10_most 22 = .ok (.iconst 1, 1) := by decide +kernel
theorem dX10_most_23 : decode cX10_most 23 = .ok (.istore 4, 2) := by decide +kernel
theorem dX10_most_25 : decode cX10_most 25 = .ok (.iload 4, 2) := by decide +kernel
theorem dX10_most_27 : decode cX10_most 27 = .ok (.sipush 201, 3) := by decide +kernel
theorem dX10_most_30 : decode cX10_most 30 = .ok (.if_icmp .ge 33, 3) := by decide +kernel
theorem dX10_most_33 : decode cX10_most 33 = .ok (.aload_n 0, 1) := by decide +kernel
theorem dX10_most_34 : decode cX10_most 34 = .ok (.getfield 58, 3) := by decide +kernel
theorem dX10_most_37 : decode cX10_most 37 = .ok (.iload 4, 2) := by decide +kernel
theorem dX10_most_39 : decode cX10_most 39 = .ok (.laload, 1) := by decide +kernel
theorem dX10_most_40 : decode cX10_most 40 = .ok (.aload_n 0, 1) := by decide +kernel
theorem dX10_most_41 : decode cX10_most 41 = .ok (.getfield 58, 3) := by decide +kernel
theorem dX10_most_44 : decode cX10_most 44 = .ok (.iload_n 3, 1) := by decide +kernel
theorem dX10_most_45 : decode cX10_most 45 = .ok (.laload, 1) := by decide +kernel
theorem dX10_most_46 : decode cX10_most 46 = .ok (.lcmp, 1) := by decide +kernel
theorem dX10_most_47 : decode cX10_most 47 = .ok (.ifCond .le 8, 3) := by decide +kernel
theorem dX10_most_50 : decode cX10_most 50 = .ok (.iload 4, 2) := by decide +kernel
theorem dX10_most_52 : decode cX10_most 52 = .ok (.goto 4, 3) := by decide +kernel
theorem dX10_most_55 : decode cX10_most 55 = .ok (.iload_n 3, 1) := by decide +kernel
theorem dX10_most_56 : decode cX10_most 56 = .ok (.istore_n 3, 1) := by decide +kernel
theorem dX10_most_57 : decode cX10_most 57 = .ok (.iinc 4 1, 3) := by decide +kernel
theorem dX10_most_60 : decode cX10_most 60 = .ok (.goto (-35), 3) := by decide +kernel
theorem dX10_most_63 : decode cX10_most 63 = .ok (.iload_n 3, 1) := by decide +kernel
theorem dX10_most_64 : decode cX10_most 64 = .ok (.ireturn, 1) := by decide +kernel
theorem hd_yX10_most : yX10_most.cls = RX10 ∧ yX10_most.cls ≠ "java/lang/invoke/MethodHandle" ∧ yX10_most.cls ≠ "java/lang/invoke/VarHandle" ∧ (parseMethodDescriptor yX10_most.desc).map (fun d => d.parameters.length) = some 2 := by decide +kernel
def uX10_most : List Cond := List.cons (.code yX10_most cX10_most 5 (some .int)) (HAppend.hAppend ([.methodLink RX10 457 yX10_isLong, .static yX10_isLong, .initialized RX10, .methodLink RX10 462 yX10_fillWays, .instanceMethod yX10_fillWays, .selects RX10 yX10_fillWays yX10_fillWays, .fieldLink RX10 58 "LuckyTicketModel" "ways" "[J"] : List Cond) (HAppend.hAppend uX10_isLong (HAppend.hAppend uX10_fillWays wsX100)))
theorem iX10_most_X10 : ∀ w ∈ wsX100, w ∈ uX10_most := fun _ h => (List.mem_cons_of_mem _ (List.mem_append_right _ (List.mem_append_right _ (List.mem_append_right _ h))))
theorem guX10_most : GU uX10_most := gu_cons (gu_app (by decide +kernel) (gu_ap guX10_isLong (gu_ap guX10_fillWays gws_X10)))
theorem gX10_most__X10_isLong_S457 : GoodIn uX10_most (va_wsS RX10 457 yX10_isLong uX10_isLong) := gin_S (List.mem_of_getElem? (i := 1) rfl) (List.mem_of_getElem? (i := 2) rfl) (List.mem_of_getElem? (i := 3) rfl) (fun _ h => (List.mem_cons_of_mem _ (List.mem_append_right _ (List.mem_append_left _ h)))) guX10_isLong
theorem gX10_most__X10_fillWays_V462 : GoodIn uX10_most (wsV RX10 462 RX10 yX10_fillWays uX10_fillWays) := gin_V (List.mem_of_getElem? (i := 4) rfl) (List.mem_of_getElem? (i := 5) rfl) (List.mem_of_getElem? (i := 6) rfl) (List.mem_of_getElem? (i := 3) rfl) (fun _ h => (List.mem_cons_of_mem _ (List.mem_append_right _ (List.mem_append_right _ (List.mem_append_left _ h))))) guX10_fillWays
set_option maxHeartbeats 4000000 in
set_option maxRecDepth 100000 in
theorem kX10_most (l : Launch) (dC : Nat → ClassId) (dI : Nat → Nat → Nat) (o0 : Nat) (x_th : Int32) (mwo : Nat) (mim : Nat) (mhi : Nat) (mlu : Nat) (mtp : Nat) (x_td : Int32) (mfv : Nat) (x_sz : Int32) (x_at : Int32) (x_fr : Int32) (x_to : Int32) (x_va : Int32) (x_fk : Int32) (x_fp : Int32) (mfr : Nat) (mwt : Nat) (x_wt : Int32) (x_op : Int32) (x_jo : Int32) (mfg : Nat) (mpl : Nat) (x_dr : Int64) (mtm : Nat) (mfa : Nat) (mqu : Nat) (mmo : Nat) (mwy : Nat) (mwn : Nat) (mma : Nat) (mwi : Nat) (mnu : Nat) (mmv : Nat) (c_wy : ClassId) (c_wn : ClassId) (w_wy : Nat → Int64) (w_wn : Nat → Int64) (a1 : Int32) (a2 : Int32) (sz : Nat) : Met l yX10_most uX10_most ({ frames := 2, cells := 0, slots := 0, locals := 46 }) (va_Pc [.ref o0, .int a1, .int a2] (hw (dC, dI) vwCl [(o0, .inr (8, [.int x_th, .ref mwo, .ref mim, .ref mhi, .ref mlu, .ref mtp, .int x_td, .ref mfv, .int x_sz, .int x_at, .int x_fr, .int x_to, .int x_va, .int x_fk, .int x_fp, .ref mfr, .ref mwt, .int x_wt, .int x_op, .int x_jo, .ref mfg, .ref mpl, .long x_dr, .ref mtm, .ref mfa, .ref mqu, .ref mmo, .ref mwy, .ref mwn, .ref mma, .ref mwi, .ref mnu, .ref mmv])), (mwy, .inl (c_wy, 201, .inr (.inl w_wy))), (mwn, .inl (c_wn, 201, .inr (.inl w_wn)))] [(c_wy, .long), (c_wn, .long)] sz)) (va_Qi (fun (r : Int32) (_ : Unit) => ((-2 : Int) ≤ r.toInt ∧ r.toInt ≤ 200)) (fun (_ : Unit) t => ∃ (o0_ : Nat → Int64) (o1_ : Nat → Int64), va_P (dC, dI) vwCl [(o0, .inr (8, [.int x_th, .ref mwo, .ref mim, .ref mhi, .ref mlu, .ref mtp, .int x_td, .ref mfv, .int x_sz, .int x_at, .int x_fr, .int x_to, .int x_va, .int x_fk, .int x_fp, .ref mfr, .ref mwt, .int x_wt, .int x_op, .int x_jo, .ref mfg, .ref mpl, .long x_dr, .ref mtm, .ref mfa, .ref mqu, .ref mmo, .ref mwy, .ref mwn, .ref mma, .ref mwi, .ref mnu, .ref mmv])), (mwy, .inl (c_wy, 201, .inr (.inl o0_))), (mwn, .inl (c_wn, 201, .inr (.inl o1_)))] t.heap ∧ va_K (dC, dI) vwCl [(c_wy, .long), (c_wn, .long)] t ∧ va_D (va_A [(o0, .inr (8, [.int x_th, .ref mwo, .ref mim, .ref mhi, .ref mlu, .ref mtp, .int x_td, .ref mfv, .int x_sz, .int x_at, .int x_fr, .int x_to, .int x_va, .int x_fk, .int x_fp, .ref mfr, .ref mwt, .int x_wt, .int x_op, .int x_jo, .ref mfg, .ref mpl, .long x_dr, .ref mtm, .ref mfa, .ref mqu, .ref mmo, .ref mwy, .ref mwn, .ref mma, .ref mwi, .ref mnu, .ref mmv])), (mwy, .inl (c_wy, 201, .inr (.inl w_wy))), (mwn, .inl (c_wn, 201, .inr (.inl w_wn)))] sz) [(o0, .inr (8, [.int x_th, .ref mwo, .ref mim, .ref mhi, .ref mlu, .ref mtp, .int x_td, .ref mfv, .int x_sz, .int x_at, .int x_fr, .int x_to, .int x_va, .int x_fk, .int x_fp, .ref mfr, .ref mwt, .int x_wt, .int x_op, .int x_jo, .ref mfg, .ref mpl, .long x_dr, .ref mtm, .ref mfa, .ref mqu, .ref mmo, .ref mwy, .ref mwn, .ref mma, .ref mwi, .ref mnu, .ref mmv])), (mwy, .inl (c_wy, 201, .inr (.inl o0_))), (mwn, .inl (c_wn, 201, .inr (.inl o1_)))]) (va_A [(o0, .inr (8, [.int x_th, .ref mwo, .ref mim, .ref mhi, .ref mlu, .ref mtp, .int x_td, .ref mfv, .int x_sz, .int x_at, .int x_fr, .int x_to, .int x_va, .int x_fk, .int x_fp, .ref mfr, .ref mwt, .int x_wt, .int x_op, .int x_jo, .ref mfg, .ref mpl, .long x_dr, .ref mtm, .ref mfa, .ref mqu, .ref mmo, .ref mwy, .ref mwn, .ref mma, .ref mwi, .ref mnu, .ref mmv])), (mwy, .inl (c_wy, 201, .inr (.inl w_wy))), (mwn, .inl (c_wn, 201, .inr (.inl w_wn)))] sz)) 0 0 (va_A [(o0, .inr (8, [.int x_th, .ref mwo, .ref mim, .ref mhi, .ref mlu, .ref mtp, .int x_td, .ref mfv, .int x_sz, .int x_at, .int x_fr, .int x_to, .int x_va, .int x_fk, .int x_fp, .ref mfr, .ref mwt, .int x_wt, .int x_op, .int x_jo, .ref mfg, .ref mpl, .long x_dr, .ref mtm, .ref mfa, .ref mqu, .ref mmo, .ref mwy, .ref mwn, .ref mma, .ref mwi, .ref mnu, .ref mmv])), (mwy, .inl (c_wy, 201, .inr (.inl w_wy))), (mwn, .inl (c_wn, 201, .inr (.inl w_wn)))] sz) := by
  refine Met.ofW (cc := cX10_most) (maxL := 5) (ret := (some .int)) pn_X10 rfl ?_
  intro p e s m args below meth c s₁ B hml hv
  obtain ⟨rfl, hsz, hP, hK, hD0, hN⟩ := hv
  have hx := B.exec
  have hb := B.bytes
  have hr := B.returns
  have hts := atoms_spec (ws := uX10_most) B.pre
  have hown : s.vm.findClass RX10 = some m.cls := hown_of B.named rfl
  have hlocks := B.notSynchronized
  subst hsz
  have hD := hD0.self (sz := s.heap.size)
  generalize hAe : va_A [(o0, .inr (8, [.int x_th, .ref mwo, .ref mim, .ref mhi, .ref mlu, .ref mtp, .int x_td, .ref mfv, .int x_sz, .int x_at, .int x_fr, .int x_to, .int x_va, .int x_fk, .int x_fp, .ref mfr, .ref mwt, .int x_wt, .int x_op, .int x_jo, .ref mfg, .ref mpl, .long x_dr, .ref mtm, .ref mfa, .ref mqu, .ref mmo, .ref mwy, .ref mwn, .ref mma, .ref mwi, .ref mnu, .ref mmv])), (mwy, .inl (c_wy, 201, .inr (.inl w_wy))), (mwn, .inl (c_wn, 201, .inr (.inl w_wn)))] s.heap.size = A at hD ⊢
  have hA : ∀ q : Nat, s.heap.size ≤ q → A q := fun q h => by rw [← hAe]; exact Or.inr h
  have hS : va_S A s.heap s.heap [] := va_S.rf
  have hP : va_P (dC, dI) vwCl [(o0, .inr (8, [.int x_th, .ref mwo, .ref mim, .ref mhi, .ref mlu, .ref mtp, .int x_td, .ref mfv, .int x_sz, .int x_at, .int x_fr, .int x_to, .int x_va, .int x_fk, .int x_fp, .ref mfr, .ref mwt, .int x_wt, .int x_op, .int x_jo, .ref mfg, .ref mpl, .long x_dr, .ref mtm, .ref mfa, .ref mqu, .ref mmo, .ref mwy, .ref mwn, .ref mma, .ref mwi, .ref mnu, .ref mmv])), (mwy, .inl (c_wy, 201, .inr (.inl w_wy))), (mwn, .inl (c_wn, 201, .inr (.inl w_wn)))] s.heap := hP
  have hl := lv_entry ([.ref o0, .int a1, .int a2]) (n := 5) (Nat.le_of_ble_eq_true rfl)
  rw [lg_entry_eq]
  generalize (lg_sl ([.ref o0, .int a1, .int a2]) ++ List.replicate (5 - (lg_sl ([.ref o0, .int a1, .int a2])).length) Slot.unset).toArray = ls at hl ⊢
  have hl : lv_has ls 5 [(0, .ref o0), (1, .int a1), (2, .int a2)] := hl
  refine lv_iload_n hx hb dX10_most_0 rfl (lv_at hl 1 rfl) ?_
  refine lv_iload_n hx hb dX10_most_1 rfl (lv_at hl 2 rfl) ?_
  refine vp_callSi (W.runS (As := [.int a1, .int a2]) (rest := []) ⟨hx, hb, hml, hown, hts⟩ (kX10_isLong l dC dI a1 a2 ) (va_cwS 2 hts gX10_most__X10_isLong_S457 rfl rfl rfl hd_yX10_isLong.2 ⟨lel 2 2 rfl, lel 46 46 rfl⟩) ⟨pn_fb, pn_use⟩ rfl rfl hl.1 rfl (lv_room (Nat.le_of_ble_eq_true rfl)) dX10_most_2 ⟨lel 0 0 rfl, lel 0 0 rfl⟩) (fun r_65 h_r_65 => ?_)
  obtain ⟨b_r_65, nz_r_65⟩ := h_r_65
  have b_r_65 : (0 : Int) ≤ r_65.toInt ∧ r_65.toInt ≤ 1 := b_r_65
  refine lv_if_ne (tgt := 11) hx hb dX10_most_5 (by decide) (fun c_66 => ?_) (fun c_66 => ?_)
  ·
    have n_c_66 : (r_65.toInt : Int) ≠ 0 := c_ne rfl (by decide) c_66
    have b_r_65 : (1 : Int) ≤ r_65.toInt ∧ r_65.toInt ≤ 1 := r_ne1 b_r_65 (by decide : (0 : Int) ≤ (0 : Int32).toInt ∧ (0 : Int32).toInt ≤ 0) n_c_66 (by decide)
    obtain ⟨b_a1, b_a2, g_67⟩ := nz_r_65 c_66
    refine lv_aload_n hx hb dX10_most_11 rfl (lv_at hl 0 rfl) ?_
    refine lv_iload_n hx hb dX10_most_12 rfl (lv_at hl 1 rfl) ?_
    refine lv_iconst (v := 0) hx hb dX10_most_13 (by decide) ?_
    refine lv_iload_n hx hb dX10_most_14 rfl (lv_at hl 2 rfl) ?_
    refine lv_iconst (v := 1) hx hb dX10_most_15 (by decide) ?_
    refine lv_isub hx hb dX10_most_16 ?_
    refine lv_topi (fun z_68 e_z_68 => ?_)
    obtain ⟨q_z_68, b_z_68⟩ := ti_sub (lo := 1) (hi := 15) e_z_68 rfl (by decide : (1 : Int32).toInt = 1) b_a2 (by decide : (1 : Int) ≤ (1 : Int32).toInt ∧ (1 : Int32).toInt ≤ 1) (by decide)
    have hFc := va_free (wc := [(o0, .inr (8, [.int x_th, .ref mwo, .ref mim, .ref mhi, .ref mlu, .ref mtp, .int x_td, .ref mfv, .int x_sz, .int x_at, .int x_fr, .int x_to, .int x_va, .int x_fk, .int x_fp, .ref mfr, .ref mwt, .int x_wt, .int x_op, .int x_jo, .ref mfg, .ref mpl, .long x_dr, .ref mtm, .ref mfa, .ref mqu, .ref mmo, .ref mwy, .ref mwn, .ref mma, .ref mwi, .ref mnu, .ref mmv])), (mwy, .inl (c_wy, 201, .inr (.inl w_wy))), (mwn, .inl (c_wn, 201, .inr (.inl w_wn)))]) hD hS hA [0, 1, 2] rfl
    refine va_callv (va_runV (As := [.int a1, .int 0, .int z_68]) (rest := []) ⟨hx, hb, hml, hown, hts⟩ (kX10_fillWays l dC dI o0 x_th mwo mim mhi mlu mtp x_td mfv x_sz x_at x_fr x_to x_va x_fk x_fp mfr mwt x_wt x_op x_jo mfg mpl x_dr mtm mfa mqu mmo mwy mwn mma mwi mnu mmv c_wy c_wn w_wy w_wn a1 0 z_68 (s.heap.size) (rg_w b_a1 (by decide) (by decide)) (rg_w (by decide : (0 : Int) ≤ (0 : Int32).toInt ∧ (0 : Int32).toInt ≤ 0) (by decide) (by decide)) (rg_w b_z_68 (by decide) (by decide))) (cwV 3 hts gX10_most__X10_fillWays_V462 rfl rfl rfl hd_yX10_fillWays ⟨lel 1 2 rfl, lel 26 46 rfl⟩) ⟨hw_fb, rcv_X10 hK hP (q0 := 0) rfl, (hw_use hP hD hK hN [0, 1, 2] rfl (by decide) rfl [0, 1] rfl)⟩ rfl rfl hl.1 rfl (lv_room (Nat.le_of_ble_eq_true rfl)) dX10_most_17 ⟨lel 0 0 rfl, lel 0 0 rfl⟩) hS (fun q _ h => hFc q h) hFc (fun u_70 t H1 locs ht hvm hw_r_69 hB hz1 hk1 hS => ?_)
    obtain ⟨o0_71, o1_72, hP1, hK1, hD1⟩ := hB
    rw [ht] at hP1
    have hK1 := va_K.moved hvm.symm hK1
    obtain ⟨hP, hD⟩ := va_join (wr := []) (w1 := [(o0, .inr (8, [.int x_th, .ref mwo, .ref mim, .ref mhi, .ref mlu, .ref mtp, .int x_td, .ref mfv, .int x_sz, .int x_at, .int x_fr, .int x_to, .int x_va, .int x_fk, .int x_fp, .ref mfr, .ref mwt, .int x_wt, .int x_op, .int x_jo, .ref mfg, .ref mpl, .long x_dr, .ref mtm, .ref mfa, .ref mqu, .ref mmo, .ref mwy, .ref mwn, .ref mma, .ref mwi, .ref mnu, .ref mmv])), (mwy, .inl (c_wy, 201, .inr (.inl o0_71))), (mwn, .inl (c_wn, 201, .inr (.inl o1_72)))]) hP hD [0, 1, 2] [] rfl rfl (by decide) (by decide) hk1 hFc hP1 hD1
    have hK := (hK.sub (tys' := []) [] rfl).app hK1
    generalize H1 = H at hP hS ⊢
    have hP : va_P (dC, dI) vwCl [(o0, .inr (8, [.int x_th, .ref mwo, .ref mim, .ref mhi, .ref mlu, .ref mtp, .int x_td, .ref mfv, .int x_sz, .int x_at, .int x_fr, .int x_to, .int x_va, .int x_fk, .int x_fp, .ref mfr, .ref mwt, .int x_wt, .int x_op, .int x_jo, .ref mfg, .ref mpl, .long x_dr, .ref mtm, .ref mfa, .ref mqu, .ref mmo, .ref mwy, .ref mwn, .ref mma, .ref mwi, .ref mnu, .ref mmv])), (mwy, .inl (c_wy, 201, .inr (.inl o0_71))), (mwn, .inl (c_wn, 201, .inr (.inl o1_72)))] H := hP
    have hD : va_D A [(o0, .inr (8, [.int x_th, .ref mwo, .ref mim, .ref mhi, .ref mlu, .ref mtp, .int x_td, .ref mfv, .int x_sz, .int x_at, .int x_fr, .int x_to, .int x_va, .int x_fk, .int x_fp, .ref mfr, .ref mwt, .int x_wt, .int x_op, .int x_jo, .ref mfg, .ref mpl, .long x_dr, .ref mtm, .ref mfa, .ref mqu, .ref mmo, .ref mwy, .ref mwn, .ref mma, .ref mwi, .ref mnu, .ref mmv])), (mwy, .inl (c_wy, 201, .inr (.inl o0_71))), (mwn, .inl (c_wn, 201, .inr (.inl o1_72)))] := hD
    have hK : va_K (dC, dI) vwCl [(c_wy, .long), (c_wn, .long)] s := hK
    refine lv_iconst (v := 0) hx hb dX10_most_20 (by decide) ?_
    refine lv_istore_n (lv' := [(3, .int 0), (0, .ref o0), (1, .int a1), (2, .int a2)]) hx hb dX10_most_21 rfl hl (by decide) rfl (fun ls hl => ?_)
    refine lv_iconst (v := 1) hx hb dX10_most_22 (by decide) ?_
    refine lv_istore (lv' := [(4, .int 1), (3, .int 0), (0, .ref o0), (1, .int a1), (2, .int a2)]) hx hb dX10_most_23 hl (by decide) rfl (fun ls hl => ?_)
    refine loopW (σ := Int32 × Int32) (fun v => (201 - v.1.toInt).toNat) (fun v H locs ls => ((1 : Int) ≤ v.1.toInt ∧ v.1.toInt ≤ 201) ∧ ((0 : Int) ≤ v.2.toInt ∧ v.2.toInt ≤ 200) ∧ va_P (dC, dI) vwCl [(o0, .inr (8, [.int x_th, .ref mwo, .ref mim, .ref mhi, .ref mlu, .ref mtp, .int x_td, .ref mfv, .int x_sz, .int x_at, .int x_fr, .int x_to, .int x_va, .int x_fk, .int x_fp, .ref mfr, .ref mwt, .int x_wt, .int x_op, .int x_jo, .ref mfg, .ref mpl, .long x_dr, .ref mtm, .ref mfa, .ref mqu, .ref mmo, .ref mwy, .ref mwn, .ref mma, .ref mwi, .ref mnu, .ref mmv])), (mwy, .inl (c_wy, 201, .inr (.inl o0_71))), (mwn, .inl (c_wn, 201, .inr (.inl o1_72)))] H ∧ va_D A [(o0, .inr (8, [.int x_th, .ref mwo, .ref mim, .ref mhi, .ref mlu, .ref mtp, .int x_td, .ref mfv, .int x_sz, .int x_at, .int x_fr, .int x_to, .int x_va, .int x_fk, .int x_fp, .ref mfr, .ref mwt, .int x_wt, .int x_op, .int x_jo, .ref mfg, .ref mpl, .long x_dr, .ref mtm, .ref mfa, .ref mqu, .ref mmo, .ref mwy, .ref mwn, .ref mma, .ref mwi, .ref mnu, .ref mmv])), (mwy, .inl (c_wy, 201, .inr (.inl o0_71))), (mwn, .inl (c_wn, 201, .inr (.inl o1_72)))] ∧ va_S A s.heap H locs ∧ lv_has ls 5 [(4, .int v.1), (3, .int v.2), (0, .ref o0), (1, .int a1), (2, .int a2)]) (fun v H locs ls hI ih_25_122 => ?_) ((1 : Int32), (0 : Int32)) ⟨(show (1 : Int) ≤ (1 : Int32).toInt ∧ (1 : Int32).toInt ≤ 201 from (rg_w (by decide : (1 : Int) ≤ (1 : Int32).toInt ∧ (1 : Int32).toInt ≤ 1) (by decide) (by decide))), (show (0 : Int) ≤ (0 : Int32).toInt ∧ (0 : Int32).toInt ≤ 200 from (rg_w (by decide : (0 : Int) ≤ (0 : Int32).toInt ∧ (0 : Int32).toInt ≤ 0) (by decide) (by decide))), hP, hD, hS, lv_sub hl [0, 1, 2, 3, 4] rfl⟩
    obtain ⟨y_79, y_80⟩ := v
    obtain ⟨b_y_79, b_y_80, hP, hD, hS, hl⟩ := hI
    have b_y_79 : (1 : Int) ≤ y_79.toInt ∧ y_79.toInt ≤ 201 := b_y_79
    have b_y_80 : (0 : Int) ≤ y_80.toInt ∧ y_80.toInt ≤ 200 := b_y_80
    have hP : va_P (dC, dI) vwCl [(o0, .inr (8, [.int x_th, .ref mwo, .ref mim, .ref mhi, .ref mlu, .ref mtp, .int x_td, .ref mfv, .int x_sz, .int x_at, .int x_fr, .int x_to, .int x_va, .int x_fk, .int x_fp, .ref mfr, .ref mwt, .int x_wt, .int x_op, .int x_jo, .ref mfg, .ref mpl, .long x_dr, .ref mtm, .ref mfa, .ref mqu, .ref mmo, .ref mwy, .ref mwn, .ref mma, .ref mwi, .ref mnu, .ref mmv])), (mwy, .inl (c_wy, 201, .inr (.inl o0_71))), (mwn, .inl (c_wn, 201, .inr (.inl o1_72)))] H := hP
    have hD : va_D A [(o0, .inr (8, [.int x_th, .ref mwo, .ref mim, .ref mhi, .ref mlu, .ref mtp, .int x_td, .ref mfv, .int x_sz, .int x_at, .int x_fr, .int x_to, .int x_va, .int x_fk, .int x_fp, .ref mfr, .ref mwt, .int x_wt, .int x_op, .int x_jo, .ref mfg, .ref mpl, .long x_dr, .ref mtm, .ref mfa, .ref mqu, .ref mmo, .ref mwy, .ref mwn, .ref mma, .ref mwi, .ref mnu, .ref mmv])), (mwy, .inl (c_wy, 201, .inr (.inl o0_71))), (mwn, .inl (c_wn, 201, .inr (.inl o1_72)))] := hD
    have hl : lv_has ls 5 [(4, .int y_79), (3, .int y_80), (0, .ref o0), (1, .int a1), (2, .int a2)] := hl
    refine lv_iload hx hb dX10_most_25 (lv_at hl 0 rfl) ?_
    refine lv_sipush (v := 201) hx hb dX10_most_27 (by decide) ?_
    refine lv_icmp_ge (tgt := 63) hx hb dX10_most_30 (by decide) (fun c_123 => ?_) (fun c_123 => ?_)
    ·
      have n_c_123 : (201 : Int) ≤ y_79.toInt := c_ge rfl (by decide) c_123
      have b_y_79 : (201 : Int) ≤ y_79.toInt ∧ y_79.toInt ≤ 201 := r_le2 (by decide : (201 : Int) ≤ (201 : Int32).toInt ∧ (201 : Int32).toInt ≤ 201) b_y_79 n_c_123 (by decide)
      refine lv_iload_n hx hb dX10_most_63 rfl (lv_at hl 1 rfl) ?_
      have hP9 := hP.sub (ws' := [(o0, .inr (8, [.int x_th, .ref mwo, .ref mim, .ref mhi, .ref mlu, .ref mtp, .int x_td, .ref mfv, .int x_sz, .int x_at, .int x_fr, .int x_to, .int x_va, .int x_fk, .int x_fp, .ref mfr, .ref mwt, .int x_wt, .int x_op, .int x_jo, .ref mfg, .ref mpl, .long x_dr, .ref mtm, .ref mfa, .ref mqu, .ref mmo, .ref mwy, .ref mwn, .ref mma, .ref mwi, .ref mnu, .ref mmv])), (mwy, .inl (c_wy, 201, .inr (.inl o0_71))), (mwn, .inl (c_wn, 201, .inr (.inl o1_72)))]) [0, 1, 2] rfl
      have hD9 := hD.sub (ws' := [(o0, .inr (8, [.int x_th, .ref mwo, .ref mim, .ref mhi, .ref mlu, .ref mtp, .int x_td, .ref mfv, .int x_sz, .int x_at, .int x_fr, .int x_to, .int x_va, .int x_fk, .int x_fp, .ref mfr, .ref mwt, .int x_wt, .int x_op, .int x_jo, .ref mfg, .ref mpl, .long x_dr, .ref mtm, .ref mfa, .ref mqu, .ref mmo, .ref mwy, .ref mwn, .ref mma, .ref mwi, .ref mnu, .ref mmv])), (mwy, .inl (c_wy, 201, .inr (.inl o0_71))), (mwn, .inl (c_wn, 201, .inr (.inl o1_72)))]) [0, 1, 2] (by decide) rfl
      have hK9 := hK.sub (tys' := [(c_wy, .long), (c_wn, .long)]) [0, 1] rfl
      exact W.iret (v := y_80) hx hb hr (fun t ht hW => ⟨⟨y_80, (), rfl, (rg_w b_y_80 (by decide) (by decide)), o0_71, o1_72, by rw [ht]; exact hP9, va_K.moved hW.alike hK9, hD9⟩, hS.F ht⟩) hS.2.2 dX10_most_64
    ·
      have n_c_123 : (y_79.toInt : Int) < 201 := c_nge rfl (by decide) c_123
      have b_y_79 : (1 : Int) ≤ y_79.toInt ∧ y_79.toInt ≤ 200 := r_lt1 b_y_79 (by decide : (201 : Int) ≤ (201 : Int32).toInt ∧ (201 : Int32).toInt ≤ 201) n_c_123 (by decide)
      refine lv_aload_n hx hb dX10_most_33 rfl (lv_at hl 2 rfl) ?_
      refine va_get (D := (dC, dI)) (ci := 8) (v := .ref mwy) (C := RX10) (T := TX10) (N := 33) hx hb hts iX10_most_X10 hown hK hP 0 rfl rfl 27 (by decide) (hts (.fieldLink RX10 58 "LuckyTicketModel" "ways" "[J") (List.mem_of_getElem? (i := 7) rfl)) (fun _ h9 => h9) rfl dX10_most_34 ?_
      refine lv_iload hx hb dX10_most_37 (lv_at hl 0 rfl) ?_
      refine va_lald hx hb hK hP 1 0 rfl rfl (vp_in_b b_y_79 (by decide) (by decide)) dX10_most_39 ?_
      refine lv_topl (fun z_124 e_z_124 => ?_)
      refine lv_aload_n hx hb dX10_most_40 rfl (lv_at hl 2 rfl) ?_
      refine va_get (D := (dC, dI)) (ci := 8) (v := .ref mwy) (C := RX10) (T := TX10) (N := 33) hx hb hts iX10_most_X10 hown hK hP 0 rfl rfl 27 (by decide) (hts (.fieldLink RX10 58 "LuckyTicketModel" "ways" "[J") (List.mem_of_getElem? (i := 7) rfl)) (fun _ h9 => h9) rfl dX10_most_41 ?_
      refine lv_iload_n hx hb dX10_most_44 rfl (lv_at hl 1 rfl) ?_
      refine va_lald hx hb hK hP 1 0 rfl rfl (vp_in_b b_y_80 (by decide) (by decide)) dX10_most_45 ?_
      refine lv_topl (fun z_125 e_z_125 => ?_)
      refine W.lcmp hx hb dX10_most_46 ?_
      refine cutW (σ := Int32) (pc2 := 56) (st2 := fun v => [.int v]) (cells2 := 0) (slots2 := 0) (fun v H locs ls => ((0 : Int) ≤ v.toInt ∧ v.toInt ≤ 200) ∧ va_P (dC, dI) vwCl [(o0, .inr (8, [.int x_th, .ref mwo, .ref mim, .ref mhi, .ref mlu, .ref mtp, .int x_td, .ref mfv, .int x_sz, .int x_at, .int x_fr, .int x_to, .int x_va, .int x_fk, .int x_fp, .ref mfr, .ref mwt, .int x_wt, .int x_op, .int x_jo, .ref mfg, .ref mpl, .long x_dr, .ref mtm, .ref mfa, .ref mqu, .ref mmo, .ref mwy, .ref mwn, .ref mma, .ref mwi, .ref mnu, .ref mmv])), (mwy, .inl (c_wy, 201, .inr (.inl o0_71))), (mwn, .inl (c_wn, 201, .inr (.inl o1_72)))] H ∧ va_D A [(o0, .inr (8, [.int x_th, .ref mwo, .ref mim, .ref mhi, .ref mlu, .ref mtp, .int x_td, .ref mfv, .int x_sz, .int x_at, .int x_fr, .int x_to, .int x_va, .int x_fk, .int x_fp, .ref mfr, .ref mwt, .int x_wt, .int x_op, .int x_jo, .ref mfg, .ref mpl, .long x_dr, .ref mtm, .ref mfa, .ref mqu, .ref mmo, .ref mwy, .ref mwn, .ref mma, .ref mwi, .ref mnu, .ref mmv])), (mwy, .inl (c_wy, 201, .inr (.inl o0_71))), (mwn, .inl (c_wn, 201, .inr (.inl o1_72)))] ∧ va_S A s.heap H locs ∧ lv_has ls 5 [(4, .int y_79), (3, .int y_80), (0, .ref o0), (1, .int a1), (2, .int a2)]) (fun v H locs ls hI => ?_) (fun hj_56_127 => ?_)
      ·
        obtain ⟨y_127, rfl⟩ : ∃ z, z = v := ⟨_, rfl⟩
        obtain ⟨b_y_127, hP, hD, hS, hl⟩ := hI
        have b_y_127 : (0 : Int) ≤ y_127.toInt ∧ y_127.toInt ≤ 200 := b_y_127
        have hP : va_P (dC, dI) vwCl [(o0, .inr (8, [.int x_th, .ref mwo, .ref mim, .ref mhi, .ref mlu, .ref mtp, .int x_td, .ref mfv, .int x_sz, .int x_at, .int x_fr, .int x_to, .int x_va, .int x_fk, .int x_fp, .ref mfr, .ref mwt, .int x_wt, .int x_op, .int x_jo, .ref mfg, .ref mpl, .long x_dr, .ref mtm, .ref mfa, .ref mqu, .ref mmo, .ref mwy, .ref mwn, .ref mma, .ref mwi, .ref mnu, .ref mmv])), (mwy, .inl (c_wy, 201, .inr (.inl o0_71))), (mwn, .inl (c_wn, 201, .inr (.inl o1_72)))] H := hP
        have hD : va_D A [(o0, .inr (8, [.int x_th, .ref mwo, .ref mim, .ref mhi, .ref mlu, .ref mtp, .int x_td, .ref mfv, .int x_sz, .int x_at, .int x_fr, .int x_to, .int x_va, .int x_fk, .int x_fp, .ref mfr, .ref mwt, .int x_wt, .int x_op, .int x_jo, .ref mfg, .ref mpl, .long x_dr, .ref mtm, .ref mfa, .ref mqu, .ref mmo, .ref mwy, .ref mwn, .ref mma, .ref mwi, .ref mnu, .ref mmv])), (mwy, .inl (c_wy, 201, .inr (.inl o0_71))), (mwn, .inl (c_wn, 201, .inr (.inl o1_72)))] := hD
        have hl : lv_has ls 5 [(4, .int y_79), (3, .int y_80), (0, .ref o0), (1, .int a1), (2, .int a2)] := hl
        refine lv_istore_n (lv' := [(3, .int y_127), (4, .int y_79), (0, .ref o0), (1, .int a1), (2, .int a2)]) hx hb dX10_most_56 rfl hl (by decide) rfl (fun ls hl => ?_)
        obtain ⟨z_128, e_z_128⟩ : ∃ y : Int32, y = y_79 + 1 := ⟨_, rfl⟩
        refine lv_iinc (v := z_128) (lv' := [(4, .int z_128), (3, .int y_127), (0, .ref o0), (1, .int a1), (2, .int a2)]) hx hb dX10_most_57 hl (k := 1) rfl (by rw [e_z_128]; rfl) (by decide) rfl (fun ls hl => ?_)
        obtain ⟨q_z_128, b_z_128⟩ := ti_add (lo := 2) (hi := 201) e_z_128 rfl (by decide : (1 : Int32).toInt = 1) b_y_79 (by decide : (1 : Int) ≤ (1 : Int32).toInt ∧ (1 : Int32).toInt ≤ 1) (by decide)
        refine lv_goto (tgt := 25) hx hb dX10_most_60 (by decide) ?_
        exact ih_25_122 (z_128, y_127) _ _ _ ⟨(show (1 : Int) ≤ z_128.toInt ∧ z_128.toInt ≤ 201 from (rg_w b_z_128 (by decide) (by decide))), (show (0 : Int) ≤ y_127.toInt ∧ y_127.toInt ≤ 200 from b_y_127), hP, hD, hS, lv_sub hl [0, 1, 2, 3, 4] rfl⟩ (show (201 - z_128.toInt).toNat < (201 - y_79.toInt).toNat by omega)
      ·
        refine lv_if_le (tgt := 55) hx hb dX10_most_47 (by decide) (fun c_126 => ?_) (fun c_126 => ?_)
        ·
          have n_c_126 : (z_124.toInt : Int) ≤ z_125.toInt := g_le rfl rfl c_126
          refine lv_iload_n hx hb dX10_most_55 rfl (lv_at hl 1 rfl) ?_
          exact hj_56_127 y_80 _ _ _ ⟨(show (0 : Int) ≤ y_80.toInt ∧ y_80.toInt ≤ 200 from b_y_80), hP, hD, hS, lv_sub hl [0, 1, 2, 3, 4] rfl⟩
        ·
          have n_c_126 : (z_125.toInt : Int) < z_124.toInt := g_nle rfl rfl c_126
          have b_z_125 : (-9223372036854775808 : Int) ≤ z_125.toInt ∧ z_125.toInt ≤ 9223372036854775806 := r_lt1 (tl_rng z_125) (tl_rng z_124) n_c_126 (by decide)
          have b_z_124 : (-9223372036854775807 : Int) ≤ z_124.toInt ∧ z_124.toInt ≤ 9223372036854775807 := r_lt2 (tl_rng z_125) (tl_rng z_124) n_c_126 (by decide)
          refine lv_iload hx hb dX10_most_50 (lv_at hl 0 rfl) ?_
          refine lv_goto (tgt := 56) hx hb dX10_most_52 (by decide) ?_
          exact hj_56_127 y_79 _ _ _ ⟨(show (0 : Int) ≤ y_79.toInt ∧ y_79.toInt ≤ 200 from (rg_w b_y_79 (by decide) (by decide))), hP, hD, hS, lv_sub hl [0, 1, 2, 3, 4] rfl⟩
  ·
    have n_c_66 : (r_65.toInt : Int) = 0 := c_eq rfl (by decide) c_66
    have b_r_65 : (0 : Int) ≤ r_65.toInt ∧ r_65.toInt ≤ 0 := r_eq1 b_r_65 (by decide : (0 : Int) ≤ (0 : Int32).toInt ∧ (0 : Int32).toInt ≤ 0) n_c_66 (by decide)
    refine lv_bipush (v := (-2)) hx hb dX10_most_8 (by decide) ?_
    have hP9 := hP.sub (ws' := [(o0, .inr (8, [.int x_th, .ref mwo, .ref mim, .ref mhi, .ref mlu, .ref mtp, .int x_td, .ref mfv, .int x_sz, .int x_at, .int x_fr, .int x_to, .int x_va, .int x_fk, .int x_fp, .ref mfr, .ref mwt, .int x_wt, .int x_op, .int x_jo, .ref mfg, .ref mpl, .long x_dr, .ref mtm, .ref mfa, .ref mqu, .ref mmo, .ref mwy, .ref mwn, .ref mma, .ref mwi, .ref mnu, .ref mmv])), (mwy, .inl (c_wy, 201, .inr (.inl w_wy))), (mwn, .inl (c_wn, 201, .inr (.inl w_wn)))]) [0, 1, 2] rfl
    have hD9 := hD.sub (ws' := [(o0, .inr (8, [.int x_th, .ref mwo, .ref mim, .ref mhi, .ref mlu, .ref mtp, .int x_td, .ref mfv, .int x_sz, .int x_at, .int x_fr, .int x_to, .int x_va, .int x_fk, .int x_fp, .ref mfr, .ref mwt, .int x_wt, .int x_op, .int x_jo, .ref mfg, .ref mpl, .long x_dr, .ref mtm, .ref mfa, .ref mqu, .ref mmo, .ref mwy, .ref mwn, .ref mma, .ref mwi, .ref mnu, .ref mmv])), (mwy, .inl (c_wy, 201, .inr (.inl w_wy))), (mwn, .inl (c_wn, 201, .inr (.inl w_wn)))]) [0, 1, 2] (by decide) rfl
    have hK9 := hK.sub (tys' := [(c_wy, .long), (c_wn, .long)]) [0, 1] rfl
    exact W.iret (v := (-2)) hx hb hr (fun t ht hW => ⟨⟨(-2), (), rfl, (rg_w (by decide : (-2 : Int) ≤ ((-2) : Int32).toInt ∧ ((-2) : Int32).toInt ≤ -2) (by decide) (by decide)), w_wy, w_wn, by rw [ht]; exact hP9, va_K.moved hW.alike hK9, hD9⟩, hS.F ht⟩) hS.2.2 dX10_most_10
theorem dX10_dice_0 : decode cX10_dice 0 = .ok (.iload_n 1, 1) := by decide +kernel
theorem dX10_dice_1 : decode cX10_dice 1 = .ok (.i2l, 1) := by decide +kernel
theorem dX10_dice_2 : decode cX10_dice 2 = .ok (.lconst 1, 1) := by decide +kernel
theorem dX10_dice_3 : decode cX10_dice 3 = .ok (.ldc2_w 453, 3) := by decide +kernel
theorem dX10_dice_6 : decode cX10_dice 6 = .ok (.invokestatic 82, 3) := by decide +kernel
theorem dX10_dice_9 : decode cX10_dice 9 = .ok (.ifCond .eq 29, 3) := by decide +kernel
theorem dX10_dice_12 : decode cX10_dice 12 = .ok (.iload_n 2, 1) := by decide +kernel
theorem dX10_dice_13 : decode cX10_dice 13 = .ok (.i2l, 1) := by decide +kernel
theorem dX10_dice_14 : decode cX10_dice 14 = .ok (.ldc2_w 80, 3) := by decide +kernel
theorem dX10_dice_17 : decode cX10_dice 17 = .ok (.ldc2_w 455, 3) := by decide +kernel
theorem dX10_dice_20 : decode cX10_dice 20 = .ok (.invokestatic 82, 3) := by decide +kernel
theorem dX10_dice_23 : decode cX10_dice 23 = .ok (.ifCond .eq 15, 3) := by decide +kernel
theorem dX10_dice_26 : decode cX10_dice 26 = .ok (.iload_n 3, 1) := by decide +kernel
theorem dX10_dice_27 : decode cX10_dice 27 = .ok (.i2l, 1) := by decide +kernel
theorem dX10_dice_28 : decode cX10_dice 28 = .ok (.lconst 0, 1) := by decide +kernel
theorem dX10_dice_29 : decode cX10_dice 29 = .ok (.ldc2_w 465, 3) := by decide +kernel
theorem dX10_dice_32 : decode cX10_dice 32 = .ok (.invokestatic 82, 3) := by decide +kernel
theorem dX10_dice_35 : decode cX10_dice 35 = .ok (.ifCond .ne 7, 3) := by decide +kernel
theorem dX10_dice_38 : decode cX10_dice 38 = .ok (.ldc2_w 416, 3) := by decide +kernel
theorem dX10_dice_41 : decode cX10_dice 41 = .ok (.lreturn, 1) := by decide +kernel
theorem dX10_dice_42 : decode cX10_dice 42 = .ok (.aload_n 0, 1) := by decide +kernel
theorem dX10_dice_43 : decode cX10_dice 43 = .ok (.iload_n 1, 1) := by decide +kernel
theorem dX10_dice_44 : decode cX10_dice 44 = .ok (.iconst 1, 1) := by decide +kernel
theorem dX10_dice_45 : decode cX10_dice 45 = .ok (.iload_n 2, 1) := by decide +kernel
theorem dX10_dice_46 : decode cX10_dice 46 = .ok (.invokevirtual 462, 3) := by decide +kernel
theorem dX10_dice_49 : decode cX10_dice 49 = .ok (.aload_n 0, 1) := by decide +kernel
theorem dX10_dice_50 : decode cX10_dice 50 = .ok (.getfield 58, 3) := by decide +kernel
theorem dX10_dice_53 : decode cX10_dice 53 = .ok (.iload_n 3, 1) := by decide +kernel
theorem dX10_dice_54 : decode cX10_dice 54 = .ok (.laload, 1) := by decide +kernel
theorem dX10_dice_55 : decode cX10_dice 55 = .ok (.lreturn, 1) := by decide +kernel
theorem hd_yX10_dice : yX10_dice.cls = RX10 ∧ yX10_dice.cls ≠ "java/lang/invoke/MethodHandle" ∧ yX10_dice.cls ≠ "java/lang/invoke/VarHandle" ∧ (parseMethodDescriptor yX10_dice.desc).map (fun d => d.parameters.length) = some 3 := by decide +kernel
def uX10_dice : List Cond := List.cons (.code yX10_dice cX10_dice 4 (some .long)) (HAppend.hAppend ([.constantLong RX10 453 (12), .methodLink RX10 82 yX10_in, .static yX10_in, .initialized RX10, .constantLong RX10 416 (-2), .constantLong RX10 80 (2), .constantLong RX10 455 (16), .constantLong RX10 465 (200), .methodLink RX10 462 yX10_fillWays, .instanceMethod yX10_fillWays, .selects RX10 yX10_fillWays yX10_fillWays, .fieldLink RX10 58 "LuckyTicketModel" "ways" "[J"] : List Cond) (HAppend.hAppend uX10_in2 (HAppend.hAppend uX10_fillWays wsX100)))
theorem iX10_dice_X10 : ∀ w ∈ wsX100, w ∈ uX10_dice := fun _ h => (List.mem_cons_of_mem _ (List.mem_append_right _ (List.mem_append_right _ (List.mem_append_right _ h))))
theorem guX10_dice : GU uX10_dice := gu_cons (gu_app (by decide +kernel) (gu_ap guX10_in2 (gu_ap guX10_fillWays gws_X10)))
theorem gX10_dice__X10_in2_S82 : GoodIn uX10_dice (va_wsS RX10 82 yX10_in uX10_in2) := gin_S (List.mem_of_getElem? (i := 2) rfl) (List.mem_of_getElem? (i := 3) rfl) (List.mem_of_getElem? (i := 4) rfl) (fun _ h => (List.mem_cons_of_mem _ (List.mem_append_right _ (List.mem_append_left _ h)))) guX10_in2
theorem gX10_dice__X10_fillWays_V462 : GoodIn uX10_dice (wsV RX10 462 RX10 yX10_fillWays uX10_fillWays) := gin_V (List.mem_of_getElem? (i := 9) rfl) (List.mem_of_getElem? (i := 10) rfl) (List.mem_of_getElem? (i := 11) rfl) (List.mem_of_getElem? (i := 4) rfl) (fun _ h => (List.mem_cons_of_mem _ (List.mem_append_right _ (List.mem_append_right _ (List.mem_append_left _ h))))) guX10_fillWays
set_option maxHeartbeats 4000000 in
set_option maxRecDepth 100000 in
theorem kX10_dice (l : Launch) (dC : Nat → ClassId) (dI : Nat → Nat → Nat) (o0 : Nat) (x_th : Int32) (mwo : Nat) (mim : Nat) (mhi : Nat) (mlu : Nat) (mtp : Nat) (x_td : Int32) (mfv : Nat) (x_sz : Int32) (x_at : Int32) (x_fr : Int32) (x_to : Int32) (x_va : Int32) (x_fk : Int32) (x_fp : Int32) (mfr : Nat) (mwt : Nat) (x_wt : Int32) (x_op : Int32) (x_jo : Int32) (mfg : Nat) (mpl : Nat) (x_dr : Int64) (mtm : Nat) (mfa : Nat) (mqu : Nat) (mmo : Nat) (mwy : Nat) (mwn : Nat) (mma : Nat) (mwi : Nat) (mnu : Nat) (mmv : Nat) (c_wy : ClassId) (c_wn : ClassId) (w_wy : Nat → Int64) (w_wn : Nat → Int64) (a1 : Int32) (a2 : Int32) (a3 : Int32) (sz : Nat) : Met l yX10_dice uX10_dice ({ frames := 1, cells := 0, slots := 0, locals := 26 }) (va_Pc [.ref o0, .int a1, .int a2, .int a3] (hw (dC, dI) vwCl [(o0, .inr (8, [.int x_th, .ref mwo, .ref mim, .ref mhi, .ref mlu, .ref mtp, .int x_td, .ref mfv, .int x_sz, .int x_at, .int x_fr, .int x_to, .int x_va, .int x_fk, .int x_fp, .ref mfr, .ref mwt, .int x_wt, .int x_op, .int x_jo, .ref mfg, .ref mpl, .long x_dr, .ref mtm, .ref mfa, .ref mqu, .ref mmo, .ref mwy, .ref mwn, .ref mma, .ref mwi, .ref mnu, .ref mmv])), (mwy, .inl (c_wy, 201, .inr (.inl w_wy))), (mwn, .inl (c_wn, 201, .inr (.inl w_wn)))] [(c_wy, .long), (c_wn, .long)] sz)) (va_Ql (fun (r : Int64) (_ : Unit) => True) (fun (_ : Unit) t => ∃ (o0_ : Nat → Int64) (o1_ : Nat → Int64), va_P (dC, dI) vwCl [(o0, .inr (8, [.int x_th, .ref mwo, .ref mim, .ref mhi, .ref mlu, .ref mtp, .int x_td, .ref mfv, .int x_sz, .int x_at, .int x_fr, .int x_to, .int x_va, .int x_fk, .int x_fp, .ref mfr, .ref mwt, .int x_wt, .int x_op, .int x_jo, .ref mfg, .ref mpl, .long x_dr, .ref mtm, .ref mfa, .ref mqu, .ref mmo, .ref mwy, .ref mwn, .ref mma, .ref mwi, .ref mnu, .ref mmv])), (mwy, .inl (c_wy, 201, .inr (.inl o0_))), (mwn, .inl (c_wn, 201, .inr (.inl o1_)))] t.heap ∧ va_K (dC, dI) vwCl [(c_wy, .long), (c_wn, .long)] t ∧ va_D (va_A [(o0, .inr (8, [.int x_th, .ref mwo, .ref mim, .ref mhi, .ref mlu, .ref mtp, .int x_td, .ref mfv, .int x_sz, .int x_at, .int x_fr, .int x_to, .int x_va, .int x_fk, .int x_fp, .ref mfr, .ref mwt, .int x_wt, .int x_op, .int x_jo, .ref mfg, .ref mpl, .long x_dr, .ref mtm, .ref mfa, .ref mqu, .ref mmo, .ref mwy, .ref mwn, .ref mma, .ref mwi, .ref mnu, .ref mmv])), (mwy, .inl (c_wy, 201, .inr (.inl w_wy))), (mwn, .inl (c_wn, 201, .inr (.inl w_wn)))] sz) [(o0, .inr (8, [.int x_th, .ref mwo, .ref mim, .ref mhi, .ref mlu, .ref mtp, .int x_td, .ref mfv, .int x_sz, .int x_at, .int x_fr, .int x_to, .int x_va, .int x_fk, .int x_fp, .ref mfr, .ref mwt, .int x_wt, .int x_op, .int x_jo, .ref mfg, .ref mpl, .long x_dr, .ref mtm, .ref mfa, .ref mqu, .ref mmo, .ref mwy, .ref mwn, .ref mma, .ref mwi, .ref mnu, .ref mmv])), (mwy, .inl (c_wy, 201, .inr (.inl o0_))), (mwn, .inl (c_wn, 201, .inr (.inl o1_)))]) (va_A [(o0, .inr (8, [.int x_th, .ref mwo, .ref mim, .ref mhi, .ref mlu, .ref mtp, .int x_td, .ref mfv, .int x_sz, .int x_at, .int x_fr, .int x_to, .int x_va, .int x_fk, .int x_fp, .ref mfr, .ref mwt, .int x_wt, .int x_op, .int x_jo, .ref mfg, .ref mpl, .long x_dr, .ref mtm, .ref mfa, .ref mqu, .ref mmo, .ref mwy, .ref mwn, .ref mma, .ref mwi, .ref mnu, .ref mmv])), (mwy, .inl (c_wy, 201, .inr (.inl w_wy))), (mwn, .inl (c_wn, 201, .inr (.inl w_wn)))] sz)) 0 0 (va_A [(o0, .inr (8, [.int x_th, .ref mwo, .ref mim, .ref mhi, .ref mlu, .ref mtp, .int x_td, .ref mfv, .int x_sz, .int x_at, .int x_fr, .int x_to, .int x_va, .int x_fk, .int x_fp, .ref mfr, .ref mwt, .int x_wt, .int x_op, .int x_jo, .ref mfg, .ref mpl, .long x_dr, .ref mtm, .ref mfa, .ref mqu, .ref mmo, .ref mwy, .ref mwn, .ref mma, .ref mwi, .ref mnu, .ref mmv])), (mwy, .inl (c_wy, 201, .inr (.inl w_wy))), (mwn, .inl (c_wn, 201, .inr (.inl w_wn)))] sz) := by
  refine Met.ofW (cc := cX10_dice) (maxL := 4) (ret := (some .long)) pn_X10 rfl ?_
  intro p e s m args below meth c s₁ B hml hv
  obtain ⟨rfl, hsz, hP, hK, hD0, hN⟩ := hv
  have hx := B.exec
  have hb := B.bytes
  have hr := B.returns
  have hts := atoms_spec (ws := uX10_dice) B.pre
  have hown : s.vm.findClass RX10 = some m.cls := hown_of B.named rfl
  have hlocks := B.notSynchronized
  subst hsz
  have hD := hD0.self (sz := s.heap.size)
  generalize hAe : va_A [(o0, .inr (8, [.int x_th, .ref mwo, .ref mim, .ref mhi, .ref mlu, .ref mtp, .int x_td, .ref mfv, .int x_sz, .int x_at, .int x_fr, .int x_to, .int x_va, .int x_fk, .int x_fp, .ref mfr, .ref mwt, .int x_wt, .int x_op, .int x_jo, .ref mfg, .ref mpl, .long x_dr, .ref mtm, .ref mfa, .ref mqu, .ref mmo, .ref mwy, .ref mwn, .ref mma, .ref mwi, .ref mnu, .ref mmv])), (mwy, .inl (c_wy, 201, .inr (.inl w_wy))), (mwn, .inl (c_wn, 201, .inr (.inl w_wn)))] s.heap.size = A at hD ⊢
  have hA : ∀ q : Nat, s.heap.size ≤ q → A q := fun q h => by rw [← hAe]; exact Or.inr h
  have hS : va_S A s.heap s.heap [] := va_S.rf
  have hP : va_P (dC, dI) vwCl [(o0, .inr (8, [.int x_th, .ref mwo, .ref mim, .ref mhi, .ref mlu, .ref mtp, .int x_td, .ref mfv, .int x_sz, .int x_at, .int x_fr, .int x_to, .int x_va, .int x_fk, .int x_fp, .ref mfr, .ref mwt, .int x_wt, .int x_op, .int x_jo, .ref mfg, .ref mpl, .long x_dr, .ref mtm, .ref mfa, .ref mqu, .ref mmo, .ref mwy, .ref mwn, .ref mma, .ref mwi, .ref mnu, .ref mmv])), (mwy, .inl (c_wy, 201, .inr (.inl w_wy))), (mwn, .inl (c_wn, 201, .inr (.inl w_wn)))] s.heap := hP
  have hl := lv_entry ([.ref o0, .int a1, .int a2, .int a3]) (n := 4) (Nat.le_of_ble_eq_true rfl)
  rw [lg_entry_eq]
  generalize (lg_sl ([.ref o0, .int a1, .int a2, .int a3]) ++ List.replicate (4 - (lg_sl ([.ref o0, .int a1, .int a2, .int a3])).length) Slot.unset).toArray = ls at hl ⊢
  have hl : lv_has ls 4 [(0, .ref o0), (1, .int a1), (2, .int a2), (3, .int a3)] := hl
  refine lv_iload_n hx hb dX10_dice_0 rfl (lv_at hl 1 rfl) ?_
  obtain ⟨z_21, e_z_21⟩ : ∃ y : Int64, y = a1.toInt64 := ⟨_, rfl⟩
  refine lv_i2l (v := z_21) hx hb dX10_dice_1 e_z_21.symm ?_
  obtain ⟨q_z_21, b_z_21⟩ := ti_i2l e_z_21 (ti_rng a1)
  refine lv_lconst (v := 1) hx hb dX10_dice_2 (by decide) ?_
  refine lv_ldc2 (v := 12) hx hb hown (hts (.constantLong RX10 453 (12)) (List.mem_of_getElem? (i := 1) rfl)) dX10_dice_3 ?_
  refine vp_callSi (W.runS (As := [.long z_21, .long 1, .long 12]) (rest := []) ⟨hx, hb, hml, hown, hts⟩ (kX10_in2 l dC dI z_21 1 12 ) (va_cwS 3 hts gX10_dice__X10_in2_S82 rfl rfl rfl hd_yX10_in.2 ⟨lel 1 1 rfl, lel 25 26 rfl⟩) ⟨pn_fb, pn_use⟩ rfl rfl hl.1 rfl (lv_room (Nat.le_of_ble_eq_true rfl)) dX10_dice_6 ⟨lel 0 0 rfl, lel 0 0 rfl⟩) (fun r_22 h_r_22 => ?_)
  obtain ⟨b_r_22, nz_r_22, zz_r_22⟩ := h_r_22
  have b_r_22 : (0 : Int) ≤ r_22.toInt ∧ r_22.toInt ≤ 1 := b_r_22
  refine lv_if_eq (tgt := 38) hx hb dX10_dice_9 (by decide) (fun c_23 => ?_) (fun c_23 => ?_)
  ·
    have n_c_23 : (r_22.toInt : Int) = 0 := c_eq rfl (by decide) c_23
    have b_r_22 : (0 : Int) ≤ r_22.toInt ∧ r_22.toInt ≤ 0 := r_eq1 b_r_22 (by decide : (0 : Int) ≤ (0 : Int32).toInt ∧ (0 : Int32).toInt ≤ 0) n_c_23 (by decide)
    have g_24 := zz_r_22 c_23
    have lt0_g_24 := (by decide : (1 : Int64).toInt = 1)
    have lt1_g_24 := (by decide : (12 : Int64).toInt = 12)
    refine lv_ldc2 (v := (-2)) hx hb hown (hts (.constantLong RX10 416 (-2)) (List.mem_of_getElem? (i := 5) rfl)) dX10_dice_38 ?_
    have hP9 := hP.sub (ws' := [(o0, .inr (8, [.int x_th, .ref mwo, .ref mim, .ref mhi, .ref mlu, .ref mtp, .int x_td, .ref mfv, .int x_sz, .int x_at, .int x_fr, .int x_to, .int x_va, .int x_fk, .int x_fp, .ref mfr, .ref mwt, .int x_wt, .int x_op, .int x_jo, .ref mfg, .ref mpl, .long x_dr, .ref mtm, .ref mfa, .ref mqu, .ref mmo, .ref mwy, .ref mwn, .ref mma, .ref mwi, .ref mnu, .ref mmv])), (mwy, .inl (c_wy, 201, .inr (.inl w_wy))), (mwn, .inl (c_wn, 201, .inr (.inl w_wn)))]) [0, 1, 2] rfl
    have hD9 := hD.sub (ws' := [(o0, .inr (8, [.int x_th, .ref mwo, .ref mim, .ref mhi, .ref mlu, .ref mtp, .int x_td, .ref mfv, .int x_sz, .int x_at, .int x_fr, .int x_to, .int x_va, .int x_fk, .int x_fp, .ref mfr, .ref mwt, .int x_wt, .int x_op, .int x_jo, .ref mfg, .ref mpl, .long x_dr, .ref mtm, .ref mfa, .ref mqu, .ref mmo, .ref mwy, .ref mwn, .ref mma, .ref mwi, .ref mnu, .ref mmv])), (mwy, .inl (c_wy, 201, .inr (.inl w_wy))), (mwn, .inl (c_wn, 201, .inr (.inl w_wn)))]) [0, 1, 2] (by decide) rfl
    have hK9 := hK.sub (tys' := [(c_wy, .long), (c_wn, .long)]) [0, 1] rfl
    exact W.lret (v := (-2)) hx hb hr (fun t ht hW => ⟨⟨(-2), (), rfl, trivial, w_wy, w_wn, by rw [ht]; exact hP9, va_K.moved hW.alike hK9, hD9⟩, hS.F ht⟩) hS.2.2 dX10_dice_41
  ·
    have n_c_23 : (r_22.toInt : Int) ≠ 0 := c_ne rfl (by decide) c_23
    have b_r_22 : (1 : Int) ≤ r_22.toInt ∧ r_22.toInt ≤ 1 := r_ne1 b_r_22 (by decide : (0 : Int) ≤ (0 : Int32).toInt ∧ (0 : Int32).toInt ≤ 0) n_c_23 (by decide)
    have g_25 := nz_r_22 c_23
    have lt0_g_25 := (by decide : (1 : Int64).toInt = 1)
    have lt1_g_25 := (by decide : (12 : Int64).toInt = 12)
    have b_z_21 : (1 : Int) ≤ z_21.toInt ∧ z_21.toInt ≤ 12 := by
      have q0 := b_z_21
      have q1 := (by decide : (1 : Int) ≤ (1 : Int64).toInt ∧ (1 : Int64).toInt ≤ 1)
      have q2 := (by decide : (12 : Int) ≤ (12 : Int64).toInt ∧ (12 : Int64).toInt ≤ 12)
      omega
    have b_a1 : (1 : Int) ≤ a1.toInt ∧ a1.toInt ≤ 12 := by
      have q0 := b_z_21; have q1 := q_z_21; have q2 := (ti_rng a1); omega
    refine lv_iload_n hx hb dX10_dice_12 rfl (lv_at hl 2 rfl) ?_
    obtain ⟨z_26, e_z_26⟩ : ∃ y : Int64, y = a2.toInt64 := ⟨_, rfl⟩
    refine lv_i2l (v := z_26) hx hb dX10_dice_13 e_z_26.symm ?_
    obtain ⟨q_z_26, b_z_26⟩ := ti_i2l e_z_26 (ti_rng a2)
    refine lv_ldc2 (v := 2) hx hb hown (hts (.constantLong RX10 80 (2)) (List.mem_of_getElem? (i := 6) rfl)) dX10_dice_14 ?_
    refine lv_ldc2 (v := 16) hx hb hown (hts (.constantLong RX10 455 (16)) (List.mem_of_getElem? (i := 7) rfl)) dX10_dice_17 ?_
    refine vp_callSi (W.runS (As := [.long z_26, .long 2, .long 16]) (rest := []) ⟨hx, hb, hml, hown, hts⟩ (kX10_in2 l dC dI z_26 2 16 ) (va_cwS 3 hts gX10_dice__X10_in2_S82 rfl rfl rfl hd_yX10_in.2 ⟨lel 1 1 rfl, lel 25 26 rfl⟩) ⟨pn_fb, pn_use⟩ rfl rfl hl.1 rfl (lv_room (Nat.le_of_ble_eq_true rfl)) dX10_dice_20 ⟨lel 0 0 rfl, lel 0 0 rfl⟩) (fun r_27 h_r_27 => ?_)
    obtain ⟨b_r_27, nz_r_27, zz_r_27⟩ := h_r_27
    have b_r_27 : (0 : Int) ≤ r_27.toInt ∧ r_27.toInt ≤ 1 := b_r_27
    refine lv_if_eq (tgt := 38) hx hb dX10_dice_23 (by decide) (fun c_28 => ?_) (fun c_28 => ?_)
    ·
      have n_c_28 : (r_27.toInt : Int) = 0 := c_eq rfl (by decide) c_28
      have b_r_27 : (0 : Int) ≤ r_27.toInt ∧ r_27.toInt ≤ 0 := r_eq1 b_r_27 (by decide : (0 : Int) ≤ (0 : Int32).toInt ∧ (0 : Int32).toInt ≤ 0) n_c_28 (by decide)
      have g_29 := zz_r_27 c_28
      have lt0_g_29 := (by decide : (2 : Int64).toInt = 2)
      have lt1_g_29 := (by decide : (16 : Int64).toInt = 16)
      refine lv_ldc2 (v := (-2)) hx hb hown (hts (.constantLong RX10 416 (-2)) (List.mem_of_getElem? (i := 5) rfl)) dX10_dice_38 ?_
      have hP9 := hP.sub (ws' := [(o0, .inr (8, [.int x_th, .ref mwo, .ref mim, .ref mhi, .ref mlu, .ref mtp, .int x_td, .ref mfv, .int x_sz, .int x_at, .int x_fr, .int x_to, .int x_va, .int x_fk, .int x_fp, .ref mfr, .ref mwt, .int x_wt, .int x_op, .int x_jo, .ref mfg, .ref mpl, .long x_dr, .ref mtm, .ref mfa, .ref mqu, .ref mmo, .ref mwy, .ref mwn, .ref mma, .ref mwi, .ref mnu, .ref mmv])), (mwy, .inl (c_wy, 201, .inr (.inl w_wy))), (mwn, .inl (c_wn, 201, .inr (.inl w_wn)))]) [0, 1, 2] rfl
      have hD9 := hD.sub (ws' := [(o0, .inr (8, [.int x_th, .ref mwo, .ref mim, .ref mhi, .ref mlu, .ref mtp, .int x_td, .ref mfv, .int x_sz, .int x_at, .int x_fr, .int x_to, .int x_va, .int x_fk, .int x_fp, .ref mfr, .ref mwt, .int x_wt, .int x_op, .int x_jo, .ref mfg, .ref mpl, .long x_dr, .ref mtm, .ref mfa, .ref mqu, .ref mmo, .ref mwy, .ref mwn, .ref mma, .ref mwi, .ref mnu, .ref mmv])), (mwy, .inl (c_wy, 201, .inr (.inl w_wy))), (mwn, .inl (c_wn, 201, .inr (.inl w_wn)))]) [0, 1, 2] (by decide) rfl
      have hK9 := hK.sub (tys' := [(c_wy, .long), (c_wn, .long)]) [0, 1] rfl
      exact W.lret (v := (-2)) hx hb hr (fun t ht hW => ⟨⟨(-2), (), rfl, trivial, w_wy, w_wn, by rw [ht]; exact hP9, va_K.moved hW.alike hK9, hD9⟩, hS.F ht⟩) hS.2.2 dX10_dice_41
    ·
      have n_c_28 : (r_27.toInt : Int) ≠ 0 := c_ne rfl (by decide) c_28
      have b_r_27 : (1 : Int) ≤ r_27.toInt ∧ r_27.toInt ≤ 1 := r_ne1 b_r_27 (by decide : (0 : Int) ≤ (0 : Int32).toInt ∧ (0 : Int32).toInt ≤ 0) n_c_28 (by decide)
      have g_30 := nz_r_27 c_28
      have lt0_g_30 := (by decide : (2 : Int64).toInt = 2)
      have lt1_g_30 := (by decide : (16 : Int64).toInt = 16)
      have b_z_26 : (2 : Int) ≤ z_26.toInt ∧ z_26.toInt ≤ 16 := by
        have q0 := b_z_26
        have q1 := (by decide : (2 : Int) ≤ (2 : Int64).toInt ∧ (2 : Int64).toInt ≤ 2)
        have q2 := (by decide : (16 : Int) ≤ (16 : Int64).toInt ∧ (16 : Int64).toInt ≤ 16)
        omega
      have b_a2 : (2 : Int) ≤ a2.toInt ∧ a2.toInt ≤ 16 := by
        have q0 := b_z_26; have q1 := q_z_26; have q2 := (ti_rng a2); omega
      refine lv_iload_n hx hb dX10_dice_26 rfl (lv_at hl 3 rfl) ?_
      obtain ⟨z_31, e_z_31⟩ : ∃ y : Int64, y = a3.toInt64 := ⟨_, rfl⟩
      refine lv_i2l (v := z_31) hx hb dX10_dice_27 e_z_31.symm ?_
      obtain ⟨q_z_31, b_z_31⟩ := ti_i2l e_z_31 (ti_rng a3)
      refine lv_lconst (v := 0) hx hb dX10_dice_28 (by decide) ?_
      refine lv_ldc2 (v := 200) hx hb hown (hts (.constantLong RX10 465 (200)) (List.mem_of_getElem? (i := 8) rfl)) dX10_dice_29 ?_
      refine vp_callSi (W.runS (As := [.long z_31, .long 0, .long 200]) (rest := []) ⟨hx, hb, hml, hown, hts⟩ (kX10_in2 l dC dI z_31 0 200 ) (va_cwS 3 hts gX10_dice__X10_in2_S82 rfl rfl rfl hd_yX10_in.2 ⟨lel 1 1 rfl, lel 25 26 rfl⟩) ⟨pn_fb, pn_use⟩ rfl rfl hl.1 rfl (lv_room (Nat.le_of_ble_eq_true rfl)) dX10_dice_32 ⟨lel 0 0 rfl, lel 0 0 rfl⟩) (fun r_32 h_r_32 => ?_)
      obtain ⟨b_r_32, nz_r_32, zz_r_32⟩ := h_r_32
      have b_r_32 : (0 : Int) ≤ r_32.toInt ∧ r_32.toInt ≤ 1 := b_r_32
      refine lv_if_ne (tgt := 42) hx hb dX10_dice_35 (by decide) (fun c_33 => ?_) (fun c_33 => ?_)
      ·
        have n_c_33 : (r_32.toInt : Int) ≠ 0 := c_ne rfl (by decide) c_33
        have b_r_32 : (1 : Int) ≤ r_32.toInt ∧ r_32.toInt ≤ 1 := r_ne1 b_r_32 (by decide : (0 : Int) ≤ (0 : Int32).toInt ∧ (0 : Int32).toInt ≤ 0) n_c_33 (by decide)
        have g_34 := nz_r_32 c_33
        have lt0_g_34 := (by decide : (0 : Int64).toInt = 0)
        have lt1_g_34 := (by decide : (200 : Int64).toInt = 200)
        have b_z_31 : (0 : Int) ≤ z_31.toInt ∧ z_31.toInt ≤ 200 := by
          have q0 := b_z_31
          have q1 := (by decide : (0 : Int) ≤ (0 : Int64).toInt ∧ (0 : Int64).toInt ≤ 0)
          have q2 := (by decide : (200 : Int) ≤ (200 : Int64).toInt ∧ (200 : Int64).toInt ≤ 200)
          omega
        have b_a3 : (0 : Int) ≤ a3.toInt ∧ a3.toInt ≤ 200 := by
          have q0 := b_z_31; have q1 := q_z_31; have q2 := (ti_rng a3); omega
        refine lv_aload_n hx hb dX10_dice_42 rfl (lv_at hl 0 rfl) ?_
        refine lv_iload_n hx hb dX10_dice_43 rfl (lv_at hl 1 rfl) ?_
        refine lv_iconst (v := 1) hx hb dX10_dice_44 (by decide) ?_
        refine lv_iload_n hx hb dX10_dice_45 rfl (lv_at hl 2 rfl) ?_
        have hFc := va_free (wc := [(o0, .inr (8, [.int x_th, .ref mwo, .ref mim, .ref mhi, .ref mlu, .ref mtp, .int x_td, .ref mfv, .int x_sz, .int x_at, .int x_fr, .int x_to, .int x_va, .int x_fk, .int x_fp, .ref mfr, .ref mwt, .int x_wt, .int x_op, .int x_jo, .ref mfg, .ref mpl, .long x_dr, .ref mtm, .ref mfa, .ref mqu, .ref mmo, .ref mwy, .ref mwn, .ref mma, .ref mwi, .ref mnu, .ref mmv])), (mwy, .inl (c_wy, 201, .inr (.inl w_wy))), (mwn, .inl (c_wn, 201, .inr (.inl w_wn)))]) hD hS hA [0, 1, 2] rfl
        refine va_callv (va_runV (As := [.int a1, .int 1, .int a2]) (rest := []) ⟨hx, hb, hml, hown, hts⟩ (kX10_fillWays l dC dI o0 x_th mwo mim mhi mlu mtp x_td mfv x_sz x_at x_fr x_to x_va x_fk x_fp mfr mwt x_wt x_op x_jo mfg mpl x_dr mtm mfa mqu mmo mwy mwn mma mwi mnu mmv c_wy c_wn w_wy w_wn a1 1 a2 (s.heap.size) (rg_w b_a1 (by decide) (by decide)) (rg_w (by decide : (1 : Int) ≤ (1 : Int32).toInt ∧ (1 : Int32).toInt ≤ 1) (by decide) (by decide)) (rg_w b_a2 (by decide) (by decide))) (cwV 3 hts gX10_dice__X10_fillWays_V462 rfl rfl rfl hd_yX10_fillWays ⟨lel 1 1 rfl, lel 26 26 rfl⟩) ⟨hw_fb, rcv_X10 hK hP (q0 := 0) rfl, (hw_use hP hD hK hN [0, 1, 2] rfl (by decide) rfl [0, 1] rfl)⟩ rfl rfl hl.1 rfl (lv_room (Nat.le_of_ble_eq_true rfl)) dX10_dice_46 ⟨lel 0 0 rfl, lel 0 0 rfl⟩) hS (fun q _ h => hFc q h) hFc (fun u_36 t H1 locs ht hvm hw_r_35 hB hz1 hk1 hS => ?_)
        obtain ⟨o0_37, o1_38, hP1, hK1, hD1⟩ := hB
        rw [ht] at hP1
        have hK1 := va_K.moved hvm.symm hK1
        obtain ⟨hP, hD⟩ := va_join (wr := []) (w1 := [(o0, .inr (8, [.int x_th, .ref mwo, .ref mim, .ref mhi, .ref mlu, .ref mtp, .int x_td, .ref mfv, .int x_sz, .int x_at, .int x_fr, .int x_to, .int x_va, .int x_fk, .int x_fp, .ref mfr, .ref mwt, .int x_wt, .int x_op, .int x_jo, .ref mfg, .ref mpl, .long x_dr, .ref mtm, .ref mfa, .ref mqu, .ref mmo, .ref mwy, .ref mwn, .ref mma, .ref mwi, .ref mnu, .ref mmv])), (mwy, .inl (c_wy, 201, .inr (.inl o0_37))), (mwn, .inl (c_wn, 201, .inr (.inl o1_38)))]) hP hD [0, 1, 2] [] rfl rfl (by decide) (by decide) hk1 hFc hP1 hD1
        have hK := (hK.sub (tys' := []) [] rfl).app hK1
        generalize H1 = H at hP hS ⊢
        have hP : va_P (dC, dI) vwCl [(o0, .inr (8, [.int x_th, .ref mwo, .ref mim, .ref mhi, .ref mlu, .ref mtp, .int x_td, .ref mfv, .int x_sz, .int x_at, .int x_fr, .int x_to, .int x_va, .int x_fk, .int x_fp, .ref mfr, .ref mwt, .int x_wt, .int x_op, .int x_jo, .ref mfg, .ref mpl, .long x_dr, .ref mtm, .ref mfa, .ref mqu, .ref mmo, .ref mwy, .ref mwn, .ref mma, .ref mwi, .ref mnu, .ref mmv])), (mwy, .inl (c_wy, 201, .inr (.inl o0_37))), (mwn, .inl (c_wn, 201, .inr (.inl o1_38)))] H := hP
        have hD : va_D A [(o0, .inr (8, [.int x_th, .ref mwo, .ref mim, .ref mhi, .ref mlu, .ref mtp, .int x_td, .ref mfv, .int x_sz, .int x_at, .int x_fr, .int x_to, .int x_va, .int x_fk, .int x_fp, .ref mfr, .ref mwt, .int x_wt, .int x_op, .int x_jo, .ref mfg, .ref mpl, .long x_dr, .ref mtm, .ref mfa, .ref mqu, .ref mmo, .ref mwy, .ref mwn, .ref mma, .ref mwi, .ref mnu, .ref mmv])), (mwy, .inl (c_wy, 201, .inr (.inl o0_37))), (mwn, .inl (c_wn, 201, .inr (.inl o1_38)))] := hD
        have hK : va_K (dC, dI) vwCl [(c_wy, .long), (c_wn, .long)] s := hK
        refine lv_aload_n hx hb dX10_dice_49 rfl (lv_at hl 0 rfl) ?_
        refine va_get (D := (dC, dI)) (ci := 8) (v := .ref mwy) (C := RX10) (T := TX10) (N := 33) hx hb hts iX10_dice_X10 hown hK hP 0 rfl rfl 27 (by decide) (hts (.fieldLink RX10 58 "LuckyTicketModel" "ways" "[J") (List.mem_of_getElem? (i := 12) rfl)) (fun _ h9 => h9) rfl dX10_dice_50 ?_
        refine lv_iload_n hx hb dX10_dice_53 rfl (lv_at hl 3 rfl) ?_
        refine va_lald hx hb hK hP 1 0 rfl rfl (vp_in_b b_a3 (by decide) (by decide)) dX10_dice_54 ?_
        refine lv_topl (fun z_39 e_z_39 => ?_)
        have hP9 := hP.sub (ws' := [(o0, .inr (8, [.int x_th, .ref mwo, .ref mim, .ref mhi, .ref mlu, .ref mtp, .int x_td, .ref mfv, .int x_sz, .int x_at, .int x_fr, .int x_to, .int x_va, .int x_fk, .int x_fp, .ref mfr, .ref mwt, .int x_wt, .int x_op, .int x_jo, .ref mfg, .ref mpl, .long x_dr, .ref mtm, .ref mfa, .ref mqu, .ref mmo, .ref mwy, .ref mwn, .ref mma, .ref mwi, .ref mnu, .ref mmv])), (mwy, .inl (c_wy, 201, .inr (.inl o0_37))), (mwn, .inl (c_wn, 201, .inr (.inl o1_38)))]) [0, 1, 2] rfl
        have hD9 := hD.sub (ws' := [(o0, .inr (8, [.int x_th, .ref mwo, .ref mim, .ref mhi, .ref mlu, .ref mtp, .int x_td, .ref mfv, .int x_sz, .int x_at, .int x_fr, .int x_to, .int x_va, .int x_fk, .int x_fp, .ref mfr, .ref mwt, .int x_wt, .int x_op, .int x_jo, .ref mfg, .ref mpl, .long x_dr, .ref mtm, .ref mfa, .ref mqu, .ref mmo, .ref mwy, .ref mwn, .ref mma, .ref mwi, .ref mnu, .ref mmv])), (mwy, .inl (c_wy, 201, .inr (.inl o0_37))), (mwn, .inl (c_wn, 201, .inr (.inl o1_38)))]) [0, 1, 2] (by decide) rfl
        have hK9 := hK.sub (tys' := [(c_wy, .long), (c_wn, .long)]) [0, 1] rfl
        exact W.lret (v := z_39) hx hb hr (fun t ht hW => ⟨⟨z_39, (), rfl, trivial, o0_37, o1_38, by rw [ht]; exact hP9, va_K.moved hW.alike hK9, hD9⟩, hS.F ht⟩) hS.2.2 dX10_dice_55
      ·
        have n_c_33 : (r_32.toInt : Int) = 0 := c_eq rfl (by decide) c_33
        have b_r_32 : (0 : Int) ≤ r_32.toInt ∧ r_32.toInt ≤ 0 := r_eq1 b_r_32 (by decide : (0 : Int) ≤ (0 : Int32).toInt ∧ (0 : Int32).toInt ≤ 0) n_c_33 (by decide)
        have g_40 := zz_r_32 c_33
        have lt0_g_40 := (by decide : (0 : Int64).toInt = 0)
        have lt1_g_40 := (by decide : (200 : Int64).toInt = 200)
        refine lv_ldc2 (v := (-2)) hx hb hown (hts (.constantLong RX10 416 (-2)) (List.mem_of_getElem? (i := 5) rfl)) dX10_dice_38 ?_
        have hP9 := hP.sub (ws' := [(o0, .inr (8, [.int x_th, .ref mwo, .ref mim, .ref mhi, .ref mlu, .ref mtp, .int x_td, .ref mfv, .int x_sz, .int x_at, .int x_fr, .int x_to, .int x_va, .int x_fk, .int x_fp, .ref mfr, .ref mwt, .int x_wt, .int x_op, .int x_jo, .ref mfg, .ref mpl, .long x_dr, .ref mtm, .ref mfa, .ref mqu, .ref mmo, .ref mwy, .ref mwn, .ref mma, .ref mwi, .ref mnu, .ref mmv])), (mwy, .inl (c_wy, 201, .inr (.inl w_wy))), (mwn, .inl (c_wn, 201, .inr (.inl w_wn)))]) [0, 1, 2] rfl
        have hD9 := hD.sub (ws' := [(o0, .inr (8, [.int x_th, .ref mwo, .ref mim, .ref mhi, .ref mlu, .ref mtp, .int x_td, .ref mfv, .int x_sz, .int x_at, .int x_fr, .int x_to, .int x_va, .int x_fk, .int x_fp, .ref mfr, .ref mwt, .int x_wt, .int x_op, .int x_jo, .ref mfg, .ref mpl, .long x_dr, .ref mtm, .ref mfa, .ref mqu, .ref mmo, .ref mwy, .ref mwn, .ref mma, .ref mwi, .ref mnu, .ref mmv])), (mwy, .inl (c_wy, 201, .inr (.inl w_wy))), (mwn, .inl (c_wn, 201, .inr (.inl w_wn)))]) [0, 1, 2] (by decide) rfl
        have hK9 := hK.sub (tys' := [(c_wy, .long), (c_wn, .long)]) [0, 1] rfl
        exact W.lret (v := (-2)) hx hb hr (fun t ht hW => ⟨⟨(-2), (), rfl, trivial, w_wy, w_wn, by rw [ht]; exact hP9, va_K.moved hW.alike hK9, hD9⟩, hS.F ht⟩) hS.2.2 dX10_dice_41
theorem dX9_fault_0 : decode cX9_fault 0 = .ok (.iload_n 1, 1) := by decide +kernel
theorem dX9_fault_1 : decode cX9_fault 1 = .ok (.ifCond .ne 11, 3) := by decide +kernel
theorem dX9_fault_4 : decode cX9_fault 4 = .ok (.aload_n 0, 1) := by decide +kernel
theorem dX9_fault_5 : decode cX9_fault 5 = .ok (.getfield 28, 3) := by decide +kernel
theorem dX9_fault_8 : decode cX9_fault 8 = .ok (.getfield 87, 3) := by decide +kernel
theorem dX9_fault_11 : decode cX9_fault 11 = .ok (.ireturn, 1) := by decide +kernel
theorem dX9_fault_12 : decode cX9_fault 12 = .ok (.iload_n 1, 1) := by decide +kernel
theorem dX9_fault_13 : decode cX9_fault 13 = .ok (.iconst 1, 1) := by decide +kernel
theorem dX9_fault_14 : decode cX9_fault 14 = .ok (.if_icmp .ne 13, 3) := by decide +kernel
theorem dX9_fault_17 : decode cX9_fault 17 = .ok (.aload_n 0, 1) := by decide +kernel
theorem dX9_fault_18 : decode cX9_fault 18 = .ok (.getfield 28, 3) := by decide +kernel
theorem dX9_fault_21 : decode cX9_fault 21 = .ok (.getfield 97, 3) := by decide +kernel
theorem dX9_fault_24 : decode cX9_fault 24 = .ok (.goto 4, 3) := by decide +kernel
theorem dX9_fault_27 : decode cX9_fault 27 = .ok (.iconst (-1), 1) := by decide +kernel
theorem dX9_fault_28 : decode cX9_fault 28 = .ok (.ireturn, 1) := by decide +kernel
theorem hd_yX9_fault : yX9_fault.cls = RX9 ∧ yX9_fault.cls ≠ "java/lang/invoke/MethodHandle" ∧ yX9_fault.cls ≠ "java/lang/invoke/VarHandle" ∧ (parseMethodDescriptor yX9_fault.desc).map (fun d => d.parameters.length) = some 1 := by decide +kernel
def uX9_fault : List Cond := List.cons (.code yX9_fault cX9_fault 2 (some .int)) (HAppend.hAppend ([.fieldLink RX9 28 "LuckyTicket" "reader" "LLuckyTicket$Reader;"] : List Cond) (HAppend.hAppend wsX90 wsX10))
theorem iX9_fault_X9 : ∀ w ∈ wsX90, w ∈ uX9_fault := fun _ h => (List.mem_cons_of_mem _ (List.mem_append_right _ (List.mem_append_left _ h)))
theorem iX9_fault_X1 : ∀ w ∈ wsX10, w ∈ uX9_fault := fun _ h => (List.mem_cons_of_mem _ (List.mem_append_right _ (List.mem_append_right _ h)))
theorem guX9_fault : GU uX9_fault := gu_cons (gu_app (by decide +kernel) (gu_ap gws_X9 gws_X1))
set_option maxHeartbeats 4000000 in
set_option maxRecDepth 100000 in
theorem kX9_fault (l : Launch) (dC : Nat → ClassId) (dI : Nat → Nat → Nat) (h0 : Nat) (tp : Nat) (sc : Nat) (rd : Nat) (cu : Nat) (im : Nat) (ig : Nat) (sl : Nat) (se : Nat) (sm : Nat) (fc : Nat) (rd : Nat) (xf : Int32) (xp : Int32) (xt : Int32) (xa : Int32) (xo : Int32) (xv : Int32) (xj : Int32) (a1 : Int32) (b_xf : (0 : Int) ≤ xf.toInt ∧ xf.toInt ≤ 3) (b_xp : (-1 : Int) ≤ xp.toInt ∧ xp.toInt ≤ 1200) (b_xt : (0 : Int) ≤ xt.toInt ∧ xt.toInt ≤ 4) (b_xa : (0 : Int) ≤ xa.toInt ∧ xa.toInt ≤ 1200) (b_xo : (0 : Int) ≤ xo.toInt ∧ xo.toInt ≤ 1200) : Met l yX9_fault uX9_fault ({ frames := 0, cells := 0, slots := 0, locals := 0 }) (va_Pc [.ref h0, .int a1] (pw (dC, dI) vwCl [(h0, .inr (7, [.ref tp, .ref sc, .ref rd, .ref cu, .ref im, .ref ig, .ref sl, .ref se, .ref sm, .ref fc])), (rd, .inr (0, [.ref tp, .ref sc, .int xf, .int xp, .int xt, .int xa, .int xo, .int xv, .int xj]))] [])) (vp_Si (fun r => ((-1 : Int) ≤ r.toInt ∧ r.toInt ≤ 1200))) 0 0 (fun _ => False) := by
  refine Met.ofW (cc := cX9_fault) (maxL := 2) (ret := (some .int)) pn_X9 rfl ?_
  intro p e s m args below meth c s₁ B hml hv
  obtain ⟨rfl, hP, hK, hN⟩ := hv
  have hx := B.exec
  have hb := B.bytes
  have hr := B.returns
  have hts := atoms_spec (ws := uX9_fault) B.pre
  have hown : s.vm.findClass RX9 = some m.cls := hown_of B.named rfl
  have hlocks := B.notSynchronized
  have hl := lv_entry ([.ref h0, .int a1]) (n := 2) (Nat.le_of_ble_eq_true rfl)
  rw [lg_entry_eq]
  generalize (lg_sl ([.ref h0, .int a1]) ++ List.replicate (2 - (lg_sl ([.ref h0, .int a1])).length) Slot.unset).toArray = ls at hl ⊢
  have hl : lv_has ls 2 [(0, .ref h0), (1, .int a1)] := hl
  refine lv_iload_n hx hb dX9_fault_0 rfl (lv_at hl 1 rfl) ?_
  refine lv_if_ne (tgt := 12) hx hb dX9_fault_1 (by decide) (fun c_3 => ?_) (fun c_3 => ?_)
  ·
    have n_c_3 : (a1.toInt : Int) ≠ 0 := c_ne rfl (by decide) c_3
    refine lv_iload_n hx hb dX9_fault_12 rfl (lv_at hl 1 rfl) ?_
    refine lv_iconst (v := 1) hx hb dX9_fault_13 (by decide) ?_
    refine lv_icmp_ne (tgt := 27) hx hb dX9_fault_14 (by decide) (fun c_4 => ?_) (fun c_4 => ?_)
    ·
      have n_c_4 : (a1.toInt : Int) ≠ 1 := c_ne rfl (by decide) c_4
      refine lv_iconst (v := (-1)) hx hb dX9_fault_27 (by decide) ?_
      exact W.iret (v := (-1)) hx hb hr (fun t ht hW => ⟨(-1), rfl, (rg_w (by decide : (-1 : Int) ≤ ((-1) : Int32).toInt ∧ ((-1) : Int32).toInt ≤ -1) (by decide) (by decide)), ht⟩) t_nil dX9_fault_28
    ·
      have n_c_4 : (a1.toInt : Int) = 1 := c_eq rfl (by decide) c_4
      have b_a1 : (1 : Int) ≤ a1.toInt ∧ a1.toInt ≤ 1 := r_eq1 (ti_rng a1) (by decide : (1 : Int) ≤ (1 : Int32).toInt ∧ (1 : Int32).toInt ≤ 1) n_c_4 (by decide)
      refine lv_aload_n hx hb dX9_fault_17 rfl (lv_at hl 0 rfl) ?_
      refine va_get (D := (dC, dI)) (ci := 7) (v := .ref rd) (C := RX9) (T := TX9) (N := 10) hx hb hts iX9_fault_X9 hown hK hP 0 rfl rfl 2 (by decide) (hts (.fieldLink RX9 28 "LuckyTicket" "reader" "LLuckyTicket$Reader;") (List.mem_of_getElem? (i := 1) rfl)) (fun _ h9 => h9) rfl dX9_fault_18 ?_
      refine va_getN (own := RX9) (index := 97) (ref := RX1) (host := RX9) (D := (dC, dI)) (ci := 0) (v := .int xp) (C := RX1) (T := TX1) (N := 9) hx hb hts iX9_fault_X1 hown hK hP 1 rfl rfl 3 (by decide) (va_Nw.use rfl (hN _ (List.mem_of_getElem? (i := 12) rfl))) (fun _ h9 => h9) rfl dX9_fault_21 ?_
      refine lv_goto (tgt := 28) hx hb dX9_fault_24 (by decide) ?_
      exact W.iret (v := xp) hx hb hr (fun t ht hW => ⟨xp, rfl, b_xp, ht⟩) t_nil dX9_fault_28
  ·
    have n_c_3 : (a1.toInt : Int) = 0 := c_eq rfl (by decide) c_3
    have b_a1 : (0 : Int) ≤ a1.toInt ∧ a1.toInt ≤ 0 := r_eq1 (ti_rng a1) (by decide : (0 : Int) ≤ (0 : Int32).toInt ∧ (0 : Int32).toInt ≤ 0) n_c_3 (by decide)
    refine lv_aload_n hx hb dX9_fault_4 rfl (lv_at hl 0 rfl) ?_
    refine va_get (D := (dC, dI)) (ci := 7) (v := .ref rd) (C := RX9) (T := TX9) (N := 10) hx hb hts iX9_fault_X9 hown hK hP 0 rfl rfl 2 (by decide) (hts (.fieldLink RX9 28 "LuckyTicket" "reader" "LLuckyTicket$Reader;") (List.mem_of_getElem? (i := 1) rfl)) (fun _ h9 => h9) rfl dX9_fault_5 ?_
    refine va_getN (own := RX9) (index := 87) (ref := RX1) (host := RX9) (D := (dC, dI)) (ci := 0) (v := .int xf) (C := RX1) (T := TX1) (N := 9) hx hb hts iX9_fault_X1 hown hK hP 1 rfl rfl 2 (by decide) (va_Nw.use rfl (hN _ (List.mem_of_getElem? (i := 11) rfl))) (fun _ h9 => h9) rfl dX9_fault_8 ?_
    exact W.iret (v := xf) hx hb hr (fun t ht hW => ⟨xf, rfl, (rg_w b_xf (by decide) (by decide)), ht⟩) t_nil dX9_fault_11
