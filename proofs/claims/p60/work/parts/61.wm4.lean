set_option maxHeartbeats 4000000 in
set_option maxRecDepth 100000 in
theorem wX10_sold (l : Launch) (dC : Nat → ClassId) (dI : Nat → Nat → Nat) (AX : Nat → Prop) (tt nB o0 : Nat) (a1 : Int32) (a2 : Int32) (a3 : Int32) (hAn : ∀ q, AX q → nB ≤ q) : Met l yX10_sold uX10_sold ({ frames := 3, cells := 0, slots := 0, locals := 69 }) (va_Pc [.ref o0, .int a1, .int a2, .int a3] (PM dC dI AX tt nB o0)) (va_Qi (fun (r : Int32) (_ : Unit) => True) (fun (_ : Unit) t => PM dC dI AX tt nB o0 t) AX) 0 0 AX := by
  refine Met.via (fun a U hv => ?_)
  obtain ⟨rfl, hV⟩ := hv
  obtain ⟨⟨x_th, mwo, mim, mhi, mlu, mtp, x_td, mfv, x_sz, x_at, x_fr, x_to, x_va, x_fk, x_fp, mfr, mwt, x_wt, x_op, x_jo, mfg, mpl, x_dr, mtm, mfa, mqu, mmo, mwy, mwn, mma, mwi, mnu, mmv, c_wo, c_im, c_hi, c_lu, c_tp, c_fv, c_fr, c_wt, c_fg, c_pl, c_tm, c_fa, c_qu, c_mo, c_wy, c_wn, c_ma, c_wi, c_nu, c_mv, w_wo, w_im, w_hi, w_lu, w_tp, w_fv, w_fr, w_wt, w_fg, w_pl, w_tm, w_fa, w_qu, w_wy, w_wn, w_ma, w_wi, w_nu, w_mv, b_x_sz, b_x_at, b_x_fr, b_x_to, b_x_fk, b_x_td, hgw, hgi, ha_mfg, ha_mma, ha_mwi, ha_mpl, hP, hK, hD⟩, htt0, hN, hX, hn0, hA⟩ := id hV
  obtain ⟨hgr, hwz, hpv, htp⟩ := id hgw
  obtain ⟨ln, hw0⟩ : ∃ y : Int32, w_wo 0 = y := ⟨_, rfl⟩
  obtain ⟨bs, hw1⟩ : ∃ y : Int32, w_wo 1 = y := ⟨_, rfl⟩
  obtain ⟨tk, hw2⟩ : ∃ y : Int32, w_wo 2 = y := ⟨_, rfl⟩
  obtain ⟨lw, hw3⟩ : ∃ y : Int32, w_wo 3 = y := ⟨_, rfl⟩
  obtain ⟨li, hw4⟩ : ∃ y : Int32, w_wo 4 = y := ⟨_, rfl⟩
  rw [hw0, hw1, hw2, hw3] at hgr hwz
  rw [hw0, hw1, hw2] at htp
  rw [hw3] at hpv
  obtain ⟨b_ln, b_bs, b_tk, b_lw⟩ := hgr
  have hFc : ∀ q : Nat, q < U.heap.size → va_A [(o0, .inr (8, [.int x_th, .ref mwo, .ref mim, .ref mhi, .ref mlu, .ref mtp, .int x_td, .ref mfv, .int x_sz, .int x_at, .int x_fr, .int x_to, .int x_va, .int x_fk, .int x_fp, .ref mfr, .ref mwt, .int x_wt, .int x_op, .int x_jo, .ref mfg, .ref mpl, .long x_dr, .ref mtm, .ref mfa, .ref mqu, .ref mmo, .ref mwy, .ref mwn, .ref mma, .ref mwi, .ref mnu, .ref mmv])), (mwo, .inl (c_wo, 1875, .inl w_wo)), (mlu, .inl (c_lu, 20000, .inl w_lu))] U.heap.size q → AX q := fun q h1 h2 => va_Ain (hD.sub (ws' := [(o0, .inr (8, [.int x_th, .ref mwo, .ref mim, .ref mhi, .ref mlu, .ref mtp, .int x_td, .ref mfv, .int x_sz, .int x_at, .int x_fr, .int x_to, .int x_va, .int x_fk, .int x_fp, .ref mfr, .ref mwt, .int x_wt, .int x_op, .int x_jo, .ref mfg, .ref mpl, .long x_dr, .ref mtm, .ref mfa, .ref mqu, .ref mmo, .ref mwy, .ref mwn, .ref mma, .ref mwi, .ref mnu, .ref mmv])), (mwo, .inl (c_wo, 1875, .inl w_wo)), (mlu, .inl (c_lu, 20000, .inl w_lu))]) [0, 1, 4] (by decide) rfl) h1 h2
  refine ⟨_, _, _, kX10_sold l dC dI o0 x_th mwo mim mhi mlu mtp x_td mfv x_sz x_at x_fr x_to x_va x_fk x_fp mfr mwt x_wt x_op x_jo mfg mpl x_dr mtm mfa mqu mmo mwy mwn mma mwi mnu mmv c_wo c_lu w_wo w_lu ln bs tk lw li a1 a2 a3 U.heap.size b_ln b_bs b_tk b_lw (by first | assumption | omega) (by first | assumption | omega) (by first | assumption | omega) (by first | assumption | omega) (by first | assumption | omega) (by first | assumption | omega), ⟨rfl, ⟨rfl, hP.sub [0, 1, 4] rfl, hK.sub [0, 3] rfl, (hD.sub [0, 1, 4] (by decide) rfl).weaken (fun _ _ _ _ => trivial), hN⟩⟩, fun o t hq hW hts => ?_, fun q h1 h2 => hFc q h1 h2⟩
  obtain ⟨⟨r, u, ho, hp, o0_9, hP1, hK1, hD1⟩, hF⟩ := hq
  obtain ⟨hP2, hD2⟩ := va_join (A0 := fun q => AX q ∨ U.heap.size ≤ q) (wr := [(mim, .inl (c_im, 5625, .inl w_im)), (mhi, .inl (c_hi, 3, .inl w_hi)), (mtp, .inl (c_tp, 1200, .inl w_tp)), (mfv, .inl (c_fv, 5, .inl w_fv)), (mfr, .inl (c_fr, 1875, .inl w_fr)), (mwt, .inl (c_wt, 78, .inl w_wt)), (mfg, .inl (c_fg, 12, .inl w_fg)), (mpl, .inl (c_pl, 26, .inl w_pl)), (mtm, .inl (c_tm, 16, .inl w_tm)), (mfa, .inl (c_fa, 20000, .inl w_fa)), (mqu, .inl (c_qu, 20000, .inl w_qu)), (mmo, .inl (c_mo, 12, .inl monthsF)), (mwy, .inl (c_wy, 201, .inr (.inl w_wy))), (mwn, .inl (c_wn, 201, .inr (.inl w_wn))), (mma, .inl (c_ma, 4, .inl w_ma)), (mwi, .inl (c_wi, 4, .inl w_wi)), (mnu, .inl (c_nu, 240, .inr (.inl w_nu))), (mmv, .inl (c_mv, 60, .inr (.inl w_mv)))]) (w1 := [(o0, .inr (8, [.int x_th, .ref mwo, .ref mim, .ref mhi, .ref mlu, .ref mtp, .int x_td, .ref mfv, .int x_sz, .int x_at, .int x_fr, .int x_to, .int x_va, .int x_fk, .int x_fp, .ref mfr, .ref mwt, .int x_wt, .int x_op, .int x_jo, .ref mfg, .ref mpl, .long o0_9, .ref mtm, .ref mfa, .ref mqu, .ref mmo, .ref mwy, .ref mwn, .ref mma, .ref mwi, .ref mnu, .ref mmv])), (mwo, .inl (c_wo, 1875, .inl w_wo)), (mlu, .inl (c_lu, 20000, .inl w_lu))]) hP (hD.weaken (fun _ _ _ h => Or.inl h)) [0, 1, 4] [2, 3, 5, 6, 7, 8, 9, 10, 11, 12, 13, 14, 15, 16, 17, 18, 19, 20] rfl rfl (by decide) (by decide) hF.2 (fun q h => (Nat.lt_or_ge q U.heap.size).elim (fun h1 => Or.inl (hFc q h1 h)) (fun h1 => Or.inr h1)) hP1 hD1
  have hK2 := ((va_K.moved hW.alike hK).sub (tys' := [(c_im, .int), (c_hi, .boolean), (c_tp, .byte), (c_fv, .int), (c_fr, .int), (c_wt, .int), (c_fg, .int), (c_pl, .boolean), (c_tm, .int), (c_fa, .int), (c_qu, .int), (c_mo, .int), (c_wy, .long), (c_wn, .long), (c_ma, .int), (c_wi, .int), (c_nu, .long), (c_mv, .long)]) [1, 2, 4, 5, 6, 7, 8, 9, 10, 11, 12, 13, 14, 15, 16, 17, 18, 19] rfl).app hK1
  have hP3 := hP2.sub (ws' := [(o0, .inr (8, [.int x_th, .ref mwo, .ref mim, .ref mhi, .ref mlu, .ref mtp, .int x_td, .ref mfv, .int x_sz, .int x_at, .int x_fr, .int x_to, .int x_va, .int x_fk, .int x_fp, .ref mfr, .ref mwt, .int x_wt, .int x_op, .int x_jo, .ref mfg, .ref mpl, .long o0_9, .ref mtm, .ref mfa, .ref mqu, .ref mmo, .ref mwy, .ref mwn, .ref mma, .ref mwi, .ref mnu, .ref mmv])), (mwo, .inl (c_wo, 1875, .inl w_wo)), (mim, .inl (c_im, 5625, .inl w_im)), (mhi, .inl (c_hi, 3, .inl w_hi)), (mlu, .inl (c_lu, 20000, .inl w_lu)), (mtp, .inl (c_tp, 1200, .inl w_tp)), (mfv, .inl (c_fv, 5, .inl w_fv)), (mfr, .inl (c_fr, 1875, .inl w_fr)), (mwt, .inl (c_wt, 78, .inl w_wt)), (mfg, .inl (c_fg, 12, .inl w_fg)), (mpl, .inl (c_pl, 26, .inl w_pl)), (mtm, .inl (c_tm, 16, .inl w_tm)), (mfa, .inl (c_fa, 20000, .inl w_fa)), (mqu, .inl (c_qu, 20000, .inl w_qu)), (mmo, .inl (c_mo, 12, .inl monthsF)), (mwy, .inl (c_wy, 201, .inr (.inl w_wy))), (mwn, .inl (c_wn, 201, .inr (.inl w_wn))), (mma, .inl (c_ma, 4, .inl w_ma)), (mwi, .inl (c_wi, 4, .inl w_wi)), (mnu, .inl (c_nu, 240, .inr (.inl w_nu))), (mmv, .inl (c_mv, 60, .inr (.inl w_mv)))]) [18, 19, 0, 1, 20, 2, 3, 4, 5, 6, 7, 8, 9, 10, 11, 12, 13, 14, 15, 16, 17] rfl
  have hK3 := hK2.sub (tys' := [(c_wo, .int), (c_im, .int), (c_hi, .boolean), (c_lu, .int), (c_tp, .byte), (c_fv, .int), (c_fr, .int), (c_wt, .int), (c_fg, .int), (c_pl, .boolean), (c_tm, .int), (c_fa, .int), (c_qu, .int), (c_mo, .int), (c_wy, .long), (c_wn, .long), (c_ma, .int), (c_wi, .int), (c_nu, .long), (c_mv, .long)]) [18, 0, 1, 19, 2, 3, 4, 5, 6, 7, 8, 9, 10, 11, 12, 13, 14, 15, 16, 17] rfl
  have hD3 : va_D AX [(o0, .inr (8, [.int x_th, .ref mwo, .ref mim, .ref mhi, .ref mlu, .ref mtp, .int x_td, .ref mfv, .int x_sz, .int x_at, .int x_fr, .int x_to, .int x_va, .int x_fk, .int x_fp, .ref mfr, .ref mwt, .int x_wt, .int x_op, .int x_jo, .ref mfg, .ref mpl, .long o0_9, .ref mtm, .ref mfa, .ref mqu, .ref mmo, .ref mwy, .ref mwn, .ref mma, .ref mwi, .ref mnu, .ref mmv])), (mwo, .inl (c_wo, 1875, .inl w_wo)), (mim, .inl (c_im, 5625, .inl w_im)), (mhi, .inl (c_hi, 3, .inl w_hi)), (mlu, .inl (c_lu, 20000, .inl w_lu)), (mtp, .inl (c_tp, 1200, .inl w_tp)), (mfv, .inl (c_fv, 5, .inl w_fv)), (mfr, .inl (c_fr, 1875, .inl w_fr)), (mwt, .inl (c_wt, 78, .inl w_wt)), (mfg, .inl (c_fg, 12, .inl w_fg)), (mpl, .inl (c_pl, 26, .inl w_pl)), (mtm, .inl (c_tm, 16, .inl w_tm)), (mfa, .inl (c_fa, 20000, .inl w_fa)), (mqu, .inl (c_qu, 20000, .inl w_qu)), (mmo, .inl (c_mo, 12, .inl monthsF)), (mwy, .inl (c_wy, 201, .inr (.inl w_wy))), (mwn, .inl (c_wn, 201, .inr (.inl w_wn))), (mma, .inl (c_ma, 4, .inl w_ma)), (mwi, .inl (c_wi, 4, .inl w_wi)), (mnu, .inl (c_nu, 240, .inr (.inl w_nu))), (mmv, .inl (c_mv, 60, .inr (.inl w_mv)))] := va_Da hD rfl
  exact ⟨⟨r, (), ho, trivial, ⟨x_th, mwo, mim, mhi, mlu, mtp, x_td, mfv, x_sz, x_at, x_fr, x_to, x_va, x_fk, x_fp, mfr, mwt, x_wt, x_op, x_jo, mfg, mpl, o0_9, mtm, mfa, mqu, mmo, mwy, mwn, mma, mwi, mnu, mmv, c_wo, c_im, c_hi, c_lu, c_tp, c_fv, c_fr, c_wt, c_fg, c_pl, c_tm, c_fa, c_qu, c_mo, c_wy, c_wn, c_ma, c_wi, c_nu, c_mv, w_wo, w_im, w_hi, w_lu, w_tp, w_fv, w_fr, w_wt, w_fg, w_pl, w_tm, w_fa, w_qu, w_wy, w_wn, w_ma, w_wi, w_nu, w_mv, b_x_sz, b_x_at, b_x_fr, b_x_to, b_x_fk, b_x_td, (by first | assumption | omega), (by first | assumption | omega), (by assumption), (by assumption), (by assumption), (by assumption), hP3, hK3, hD3⟩, by omega, hN.warm hW, hX.mv (fun a h1 h2 => hF.2 a h1 (fun z => h2 (hAn a (hFc a h1 z)))) hW.alike (fun _ _ _ _ q => vk_R.warm hW q), Nat.le_trans hn0 hF.1, fun q h => hA q (Nat.le_trans hF.1 h)⟩, hF.1, fun q h1 h2 => hF.2 q h1 (fun z => h2 (hFc q h1 z))⟩
set_option maxHeartbeats 4000000 in
set_option maxRecDepth 100000 in
theorem wX10_first (l : Launch) (dC : Nat → ClassId) (dI : Nat → Nat → Nat) (AX : Nat → Prop) (tt nB o0 : Nat) (a1 : Int32) (a2 : Int32) (a3 : Int32) (hAn : ∀ q, AX q → nB ≤ q) : Met l yX10_first uX10_first ({ frames := 3, cells := 0, slots := 0, locals := 69 }) (va_Pc [.ref o0, .int a1, .int a2, .int a3] (PM dC dI AX tt nB o0)) (va_Qi (fun (r : Int32) (_ : Unit) => True) (fun (_ : Unit) t => PM dC dI AX tt nB o0 t) AX) 0 0 AX := by
  refine Met.via (fun a U hv => ?_)
  obtain ⟨rfl, hV⟩ := hv
  obtain ⟨⟨x_th, mwo, mim, mhi, mlu, mtp, x_td, mfv, x_sz, x_at, x_fr, x_to, x_va, x_fk, x_fp, mfr, mwt, x_wt, x_op, x_jo, mfg, mpl, x_dr, mtm, mfa, mqu, mmo, mwy, mwn, mma, mwi, mnu, mmv, c_wo, c_im, c_hi, c_lu, c_tp, c_fv, c_fr, c_wt, c_fg, c_pl, c_tm, c_fa, c_qu, c_mo, c_wy, c_wn, c_ma, c_wi, c_nu, c_mv, w_wo, w_im, w_hi, w_lu, w_tp, w_fv, w_fr, w_wt, w_fg, w_pl, w_tm, w_fa, w_qu, w_wy, w_wn, w_ma, w_wi, w_nu, w_mv, b_x_sz, b_x_at, b_x_fr, b_x_to, b_x_fk, b_x_td, hgw, hgi, ha_mfg, ha_mma, ha_mwi, ha_mpl, hP, hK, hD⟩, htt0, hN, hX, hn0, hA⟩ := id hV
  obtain ⟨hgr, hwz, hpv, htp⟩ := id hgw
  obtain ⟨ln, hw0⟩ : ∃ y : Int32, w_wo 0 = y := ⟨_, rfl⟩
  obtain ⟨bs, hw1⟩ : ∃ y : Int32, w_wo 1 = y := ⟨_, rfl⟩
  obtain ⟨tk, hw2⟩ : ∃ y : Int32, w_wo 2 = y := ⟨_, rfl⟩
  obtain ⟨lw, hw3⟩ : ∃ y : Int32, w_wo 3 = y := ⟨_, rfl⟩
  obtain ⟨li, hw4⟩ : ∃ y : Int32, w_wo 4 = y := ⟨_, rfl⟩
  rw [hw0, hw1, hw2, hw3] at hgr hwz
  rw [hw0, hw1, hw2] at htp
  rw [hw3] at hpv
  obtain ⟨b_ln, b_bs, b_tk, b_lw⟩ := hgr
  have hFc : ∀ q : Nat, q < U.heap.size → va_A [(o0, .inr (8, [.int x_th, .ref mwo, .ref mim, .ref mhi, .ref mlu, .ref mtp, .int x_td, .ref mfv, .int x_sz, .int x_at, .int x_fr, .int x_to, .int x_va, .int x_fk, .int x_fp, .ref mfr, .ref mwt, .int x_wt, .int x_op, .int x_jo, .ref mfg, .ref mpl, .long x_dr, .ref mtm, .ref mfa, .ref mqu, .ref mmo, .ref mwy, .ref mwn, .ref mma, .ref mwi, .ref mnu, .ref mmv])), (mwo, .inl (c_wo, 1875, .inl w_wo)), (mlu, .inl (c_lu, 20000, .inl w_lu))] U.heap.size q → AX q := fun q h1 h2 => va_Ain (hD.sub (ws' := [(o0, .inr (8, [.int x_th, .ref mwo, .ref mim, .ref mhi, .ref mlu, .ref mtp, .int x_td, .ref mfv, .int x_sz, .int x_at, .int x_fr, .int x_to, .int x_va, .int x_fk, .int x_fp, .ref mfr, .ref mwt, .int x_wt, .int x_op, .int x_jo, .ref mfg, .ref mpl, .long x_dr, .ref mtm, .ref mfa, .ref mqu, .ref mmo, .ref mwy, .ref mwn, .ref mma, .ref mwi, .ref mnu, .ref mmv])), (mwo, .inl (c_wo, 1875, .inl w_wo)), (mlu, .inl (c_lu, 20000, .inl w_lu))]) [0, 1, 4] (by decide) rfl) h1 h2
  refine ⟨_, _, _, kX10_first l dC dI o0 x_th mwo mim mhi mlu mtp x_td mfv x_sz x_at x_fr x_to x_va x_fk x_fp mfr mwt x_wt x_op x_jo mfg mpl x_dr mtm mfa mqu mmo mwy mwn mma mwi mnu mmv c_wo c_lu w_wo w_lu ln bs tk lw li a1 a2 a3 U.heap.size b_ln b_bs b_tk b_lw (by first | assumption | omega) (by first | assumption | omega) (by first | assumption | omega) (by first | assumption | omega) (by first | assumption | omega) (by first | assumption | omega), ⟨rfl, ⟨rfl, hP.sub [0, 1, 4] rfl, hK.sub [0, 3] rfl, (hD.sub [0, 1, 4] (by decide) rfl).weaken (fun _ _ _ _ => trivial), hN⟩⟩, fun o t hq hW hts => ?_, fun q h1 h2 => hFc q h1 h2⟩
  obtain ⟨⟨r, u, ho, hp, o0_9, hP1, hK1, hD1⟩, hF⟩ := hq
  obtain ⟨hP2, hD2⟩ := va_join (A0 := fun q => AX q ∨ U.heap.size ≤ q) (wr := [(mim, .inl (c_im, 5625, .inl w_im)), (mhi, .inl (c_hi, 3, .inl w_hi)), (mtp, .inl (c_tp, 1200, .inl w_tp)), (mfv, .inl (c_fv, 5, .inl w_fv)), (mfr, .inl (c_fr, 1875, .inl w_fr)), (mwt, .inl (c_wt, 78, .inl w_wt)), (mfg, .inl (c_fg, 12, .inl w_fg)), (mpl, .inl (c_pl, 26, .inl w_pl)), (mtm, .inl (c_tm, 16, .inl w_tm)), (mfa, .inl (c_fa, 20000, .inl w_fa)), (mqu, .inl (c_qu, 20000, .inl w_qu)), (mmo, .inl (c_mo, 12, .inl monthsF)), (mwy, .inl (c_wy, 201, .inr (.inl w_wy))), (mwn, .inl (c_wn, 201, .inr (.inl w_wn))), (mma, .inl (c_ma, 4, .inl w_ma)), (mwi, .inl (c_wi, 4, .inl w_wi)), (mnu, .inl (c_nu, 240, .inr (.inl w_nu))), (mmv, .inl (c_mv, 60, .inr (.inl w_mv)))]) (w1 := [(o0, .inr (8, [.int x_th, .ref mwo, .ref mim, .ref mhi, .ref mlu, .ref mtp, .int x_td, .ref mfv, .int x_sz, .int x_at, .int x_fr, .int x_to, .int x_va, .int x_fk, .int x_fp, .ref mfr, .ref mwt, .int x_wt, .int x_op, .int x_jo, .ref mfg, .ref mpl, .long o0_9, .ref mtm, .ref mfa, .ref mqu, .ref mmo, .ref mwy, .ref mwn, .ref mma, .ref mwi, .ref mnu, .ref mmv])), (mwo, .inl (c_wo, 1875, .inl w_wo)), (mlu, .inl (c_lu, 20000, .inl w_lu))]) hP (hD.weaken (fun _ _ _ h => Or.inl h)) [0, 1, 4] [2, 3, 5, 6, 7, 8, 9, 10, 11, 12, 13, 14, 15, 16, 17, 18, 19, 20] rfl rfl (by decide) (by decide) hF.2 (fun q h => (Nat.lt_or_ge q U.heap.size).elim (fun h1 => Or.inl (hFc q h1 h)) (fun h1 => Or.inr h1)) hP1 hD1
  have hK2 := ((va_K.moved hW.alike hK).sub (tys' := [(c_im, .int), (c_hi, .boolean), (c_tp, .byte), (c_fv, .int), (c_fr, .int), (c_wt, .int), (c_fg, .int), (c_pl, .boolean), (c_tm, .int), (c_fa, .int), (c_qu, .int), (c_mo, .int), (c_wy, .long), (c_wn, .long), (c_ma, .int), (c_wi, .int), (c_nu, .long), (c_mv, .long)]) [1, 2, 4, 5, 6, 7, 8, 9, 10, 11, 12, 13, 14, 15, 16, 17, 18, 19] rfl).app hK1
  have hP3 := hP2.sub (ws' := [(o0, .inr (8, [.int x_th, .ref mwo, .ref mim, .ref mhi, .ref mlu, .ref mtp, .int x_td, .ref mfv, .int x_sz, .int x_at, .int x_fr, .int x_to, .int x_va, .int x_fk, .int x_fp, .ref mfr, .ref mwt, .int x_wt, .int x_op, .int x_jo, .ref mfg, .ref mpl, .long o0_9, .ref mtm, .ref mfa, .ref mqu, .ref mmo, .ref mwy, .ref mwn, .ref mma, .ref mwi, .ref mnu, .ref mmv])), (mwo, .inl (c_wo, 1875, .inl w_wo)), (mim, .inl (c_im, 5625, .inl w_im)), (mhi, .inl (c_hi, 3, .inl w_hi)), (mlu, .inl (c_lu, 20000, .inl w_lu)), (mtp, .inl (c_tp, 1200, .inl w_tp)), (mfv, .inl (c_fv, 5, .inl w_fv)), (mfr, .inl (c_fr, 1875, .inl w_fr)), (mwt, .inl (c_wt, 78, .inl w_wt)), (mfg, .inl (c_fg, 12, .inl w_fg)), (mpl, .inl (c_pl, 26, .inl w_pl)), (mtm, .inl (c_tm, 16, .inl w_tm)), (mfa, .inl (c_fa, 20000, .inl w_fa)), (mqu, .inl (c_qu, 20000, .inl w_qu)), (mmo, .inl (c_mo, 12, .inl monthsF)), (mwy, .inl (c_wy, 201, .inr (.inl w_wy))), (mwn, .inl (c_wn, 201, .inr (.inl w_wn))), (mma, .inl (c_ma, 4, .inl w_ma)), (mwi, .inl (c_wi, 4, .inl w_wi)), (mnu, .inl (c_nu, 240, .inr (.inl w_nu))), (mmv, .inl (c_mv, 60, .inr (.inl w_mv)))]) [18, 19, 0, 1, 20, 2, 3, 4, 5, 6, 7, 8, 9, 10, 11, 12, 13, 14, 15, 16, 17] rfl
  have hK3 := hK2.sub (tys' := [(c_wo, .int), (c_im, .int), (c_hi, .boolean), (c_lu, .int), (c_tp, .byte), (c_fv, .int), (c_fr, .int), (c_wt, .int), (c_fg, .int), (c_pl, .boolean), (c_tm, .int), (c_fa, .int), (c_qu, .int), (c_mo, .int), (c_wy, .long), (c_wn, .long), (c_ma, .int), (c_wi, .int), (c_nu, .long), (c_mv, .long)]) [18, 0, 1, 19, 2, 3, 4, 5, 6, 7, 8, 9, 10, 11, 12, 13, 14, 15, 16, 17] rfl
  have hD3 : va_D AX [(o0, .inr (8, [.int x_th, .ref mwo, .ref mim, .ref mhi, .ref mlu, .ref mtp, .int x_td, .ref mfv, .int x_sz, .int x_at, .int x_fr, .int x_to, .int x_va, .int x_fk, .int x_fp, .ref mfr, .ref mwt, .int x_wt, .int x_op, .int x_jo, .ref mfg, .ref mpl, .long o0_9, .ref mtm, .ref mfa, .ref mqu, .ref mmo, .ref mwy, .ref mwn, .ref mma, .ref mwi, .ref mnu, .ref mmv])), (mwo, .inl (c_wo, 1875, .inl w_wo)), (mim, .inl (c_im, 5625, .inl w_im)), (mhi, .inl (c_hi, 3, .inl w_hi)), (mlu, .inl (c_lu, 20000, .inl w_lu)), (mtp, .inl (c_tp, 1200, .inl w_tp)), (mfv, .inl (c_fv, 5, .inl w_fv)), (mfr, .inl (c_fr, 1875, .inl w_fr)), (mwt, .inl (c_wt, 78, .inl w_wt)), (mfg, .inl (c_fg, 12, .inl w_fg)), (mpl, .inl (c_pl, 26, .inl w_pl)), (mtm, .inl (c_tm, 16, .inl w_tm)), (mfa, .inl (c_fa, 20000, .inl w_fa)), (mqu, .inl (c_qu, 20000, .inl w_qu)), (mmo, .inl (c_mo, 12, .inl monthsF)), (mwy, .inl (c_wy, 201, .inr (.inl w_wy))), (mwn, .inl (c_wn, 201, .inr (.inl w_wn))), (mma, .inl (c_ma, 4, .inl w_ma)), (mwi, .inl (c_wi, 4, .inl w_wi)), (mnu, .inl (c_nu, 240, .inr (.inl w_nu))), (mmv, .inl (c_mv, 60, .inr (.inl w_mv)))] := va_Da hD rfl
  exact ⟨⟨r, (), ho, trivial, ⟨x_th, mwo, mim, mhi, mlu, mtp, x_td, mfv, x_sz, x_at, x_fr, x_to, x_va, x_fk, x_fp, mfr, mwt, x_wt, x_op, x_jo, mfg, mpl, o0_9, mtm, mfa, mqu, mmo, mwy, mwn, mma, mwi, mnu, mmv, c_wo, c_im, c_hi, c_lu, c_tp, c_fv, c_fr, c_wt, c_fg, c_pl, c_tm, c_fa, c_qu, c_mo, c_wy, c_wn, c_ma, c_wi, c_nu, c_mv, w_wo, w_im, w_hi, w_lu, w_tp, w_fv, w_fr, w_wt, w_fg, w_pl, w_tm, w_fa, w_qu, w_wy, w_wn, w_ma, w_wi, w_nu, w_mv, b_x_sz, b_x_at, b_x_fr, b_x_to, b_x_fk, b_x_td, (by first | assumption | omega), (by first | assumption | omega), (by assumption), (by assumption), (by assumption), (by assumption), hP3, hK3, hD3⟩, by omega, hN.warm hW, hX.mv (fun a h1 h2 => hF.2 a h1 (fun z => h2 (hAn a (hFc a h1 z)))) hW.alike (fun _ _ _ _ q => vk_R.warm hW q), Nat.le_trans hn0 hF.1, fun q h => hA q (Nat.le_trans hF.1 h)⟩, hF.1, fun q h1 h2 => hF.2 q h1 (fun z => h2 (hFc q h1 z))⟩
set_option maxHeartbeats 4000000 in
set_option maxRecDepth 100000 in
theorem wX10_seldom (l : Launch) (dC : Nat → ClassId) (dI : Nat → Nat → Nat) (AX : Nat → Prop) (tt nB o0 : Nat) (a1 : Int32) (a2 : Int32) (a3 : Int32) (hAn : ∀ q, AX q → nB ≤ q) : Met l yX10_seldom uX10_seldom ({ frames := 2, cells := 0, slots := 0, locals := 46 }) (va_Pc [.ref o0, .int a1, .int a2, .int a3] (PM dC dI AX tt nB o0)) (va_Ql (fun (r : Int64) (_ : Unit) => True) (fun (_ : Unit) t => PM dC dI AX tt nB o0 t) AX) 0 0 AX := by
  refine Met.via (fun a U hv => ?_)
  obtain ⟨rfl, hV⟩ := hv
  obtain ⟨⟨x_th, mwo, mim, mhi, mlu, mtp, x_td, mfv, x_sz, x_at, x_fr, x_to, x_va, x_fk, x_fp, mfr, mwt, x_wt, x_op, x_jo, mfg, mpl, x_dr, mtm, mfa, mqu, mmo, mwy, mwn, mma, mwi, mnu, mmv, c_wo, c_im, c_hi, c_lu, c_tp, c_fv, c_fr, c_wt, c_fg, c_pl, c_tm, c_fa, c_qu, c_mo, c_wy, c_wn, c_ma, c_wi, c_nu, c_mv, w_wo, w_im, w_hi, w_lu, w_tp, w_fv, w_fr, w_wt, w_fg, w_pl, w_tm, w_fa, w_qu, w_wy, w_wn, w_ma, w_wi, w_nu, w_mv, b_x_sz, b_x_at, b_x_fr, b_x_to, b_x_fk, b_x_td, hgw, hgi, ha_mfg, ha_mma, ha_mwi, ha_mpl, hP, hK, hD⟩, htt0, hN, hX, hn0, hA⟩ := id hV
  obtain ⟨hgr, hwz, hpv, htp⟩ := id hgw
  obtain ⟨ln, hw0⟩ : ∃ y : Int32, w_wo 0 = y := ⟨_, rfl⟩
  obtain ⟨bs, hw1⟩ : ∃ y : Int32, w_wo 1 = y := ⟨_, rfl⟩
  obtain ⟨tk, hw2⟩ : ∃ y : Int32, w_wo 2 = y := ⟨_, rfl⟩
  obtain ⟨lw, hw3⟩ : ∃ y : Int32, w_wo 3 = y := ⟨_, rfl⟩
  obtain ⟨li, hw4⟩ : ∃ y : Int32, w_wo 4 = y := ⟨_, rfl⟩
  rw [hw0, hw1, hw2, hw3] at hgr hwz
  rw [hw0, hw1, hw2] at htp
  rw [hw3] at hpv
  obtain ⟨b_ln, b_bs, b_tk, b_lw⟩ := hgr
  refine ⟨_, _, _, kX10_seldom l dC dI o0 x_th mwo mim mhi mlu mtp x_td mfv x_sz x_at x_fr x_to x_va x_fk x_fp mfr mwt x_wt x_op x_jo mfg mpl x_dr mtm mfa mqu mmo mwy mwn mma mwi mnu mmv c_wo c_lu w_wo w_lu ln bs tk lw li a1 a2 a3 b_ln b_bs b_tk b_lw (by first | assumption | omega) (by first | assumption | omega) (by first | assumption | omega) (by first | assumption | omega) (by first | assumption | omega) (by first | assumption | omega), ⟨rfl, ⟨hP.sub [0, 1, 4] rfl, hK.sub [0, 3] rfl, hN⟩⟩, fun o t hq hW _ => ?_, fun q _ hq => hq.elim⟩
  obtain ⟨r, ho, hp, hh⟩ := hq
  exact ⟨⟨r, (), ho, trivial, PM_same hV hh hW⟩, by rw [hh]; exact Nat.le_refl _, fun q _ _ => by rw [hh]⟩
set_option maxHeartbeats 4000000 in
set_option maxRecDepth 100000 in
theorem wX10_sets (l : Launch) (dC : Nat → ClassId) (dI : Nat → Nat → Nat) (AX : Nat → Prop) (tt nB o0 : Nat) (a1 : Int32) (hAn : ∀ q, AX q → nB ≤ q) : Met l yX10_sets uX10_sets ({ frames := 1, cells := 0, slots := 0, locals := 25 }) (va_Pc [.ref o0, .int a1] (PM dC dI AX tt nB o0)) (va_Ql (fun (r : Int64) (_ : Unit) => True) (fun (_ : Unit) t => PM dC dI AX tt nB o0 t) AX) 0 0 AX := by
  refine Met.via (fun a U hv => ?_)
  obtain ⟨rfl, hV⟩ := hv
  obtain ⟨⟨x_th, mwo, mim, mhi, mlu, mtp, x_td, mfv, x_sz, x_at, x_fr, x_to, x_va, x_fk, x_fp, mfr, mwt, x_wt, x_op, x_jo, mfg, mpl, x_dr, mtm, mfa, mqu, mmo, mwy, mwn, mma, mwi, mnu, mmv, c_wo, c_im, c_hi, c_lu, c_tp, c_fv, c_fr, c_wt, c_fg, c_pl, c_tm, c_fa, c_qu, c_mo, c_wy, c_wn, c_ma, c_wi, c_nu, c_mv, w_wo, w_im, w_hi, w_lu, w_tp, w_fv, w_fr, w_wt, w_fg, w_pl, w_tm, w_fa, w_qu, w_wy, w_wn, w_ma, w_wi, w_nu, w_mv, b_x_sz, b_x_at, b_x_fr, b_x_to, b_x_fk, b_x_td, hgw, hgi, ha_mfg, ha_mma, ha_mwi, ha_mpl, hP, hK, hD⟩, htt0, hN, hX, hn0, hA⟩ := id hV
  obtain ⟨hgr, hwz, hpv, htp⟩ := id hgw
  obtain ⟨ln, hw0⟩ : ∃ y : Int32, w_wo 0 = y := ⟨_, rfl⟩
  obtain ⟨bs, hw1⟩ : ∃ y : Int32, w_wo 1 = y := ⟨_, rfl⟩
  obtain ⟨tk, hw2⟩ : ∃ y : Int32, w_wo 2 = y := ⟨_, rfl⟩
  obtain ⟨lw, hw3⟩ : ∃ y : Int32, w_wo 3 = y := ⟨_, rfl⟩
  obtain ⟨li, hw4⟩ : ∃ y : Int32, w_wo 4 = y := ⟨_, rfl⟩
  rw [hw0, hw1, hw2, hw3] at hgr hwz
  rw [hw0, hw1, hw2] at htp
  rw [hw3] at hpv
  obtain ⟨b_ln, b_bs, b_tk, b_lw⟩ := hgr
  refine ⟨_, _, _, kX10_sets l dC dI o0 x_th mwo mim mhi mlu mtp x_td mfv x_sz x_at x_fr x_to x_va x_fk x_fp mfr mwt x_wt x_op x_jo mfg mpl x_dr mtm mfa mqu mmo mwy mwn mma mwi mnu mmv c_wo w_wo ln bs tk lw li a1 b_ln b_bs b_tk b_lw (by first | assumption | omega) (by first | assumption | omega) (by first | assumption | omega) (by first | assumption | omega) (by first | assumption | omega) (by first | assumption | omega), ⟨rfl, ⟨hP.sub [0, 1] rfl, hK.sub [0] rfl, hN⟩⟩, fun o t hq hW _ => ?_, fun q _ hq => hq.elim⟩
  obtain ⟨r, ho, hp, hh⟩ := hq
  exact ⟨⟨r, (), ho, trivial, PM_same hV hh hW⟩, by rw [hh]; exact Nat.le_refl _, fun q _ _ => by rw [hh]⟩
set_option maxHeartbeats 4000000 in
set_option maxRecDepth 100000 in
theorem wX10_judge (l : Launch) (dC : Nat → ClassId) (dI : Nat → Nat → Nat) (AX : Nat → Prop) (tt nB o0 : Nat) (a1 : Int32) (a2 : Int32) (hAn : ∀ q, AX q → nB ≤ q) : Met l yX10_judge uX10_judge ({ frames := 3, cells := 0, slots := 0, locals := 72 }) (va_Pc [.ref o0, .int a1, .int a2] (PM dC dI AX tt nB o0)) (va_Qi (fun (r : Int32) (_ : Unit) => True) (fun (_ : Unit) t => PM dC dI AX tt nB o0 t) AX) 0 0 AX := by
  refine Met.via (fun a U hv => ?_)
  obtain ⟨rfl, hV⟩ := hv
  obtain ⟨⟨x_th, mwo, mim, mhi, mlu, mtp, x_td, mfv, x_sz, x_at, x_fr, x_to, x_va, x_fk, x_fp, mfr, mwt, x_wt, x_op, x_jo, mfg, mpl, x_dr, mtm, mfa, mqu, mmo, mwy, mwn, mma, mwi, mnu, mmv, c_wo, c_im, c_hi, c_lu, c_tp, c_fv, c_fr, c_wt, c_fg, c_pl, c_tm, c_fa, c_qu, c_mo, c_wy, c_wn, c_ma, c_wi, c_nu, c_mv, w_wo, w_im, w_hi, w_lu, w_tp, w_fv, w_fr, w_wt, w_fg, w_pl, w_tm, w_fa, w_qu, w_wy, w_wn, w_ma, w_wi, w_nu, w_mv, b_x_sz, b_x_at, b_x_fr, b_x_to, b_x_fk, b_x_td, hgw, hgi, ha_mfg, ha_mma, ha_mwi, ha_mpl, hP, hK, hD⟩, htt0, hN, hX, hn0, hA⟩ := id hV
  obtain ⟨hgr, hwz, hpv, htp⟩ := id hgw
  obtain ⟨ln, hw0⟩ : ∃ y : Int32, w_wo 0 = y := ⟨_, rfl⟩
  obtain ⟨bs, hw1⟩ : ∃ y : Int32, w_wo 1 = y := ⟨_, rfl⟩
  obtain ⟨tk, hw2⟩ : ∃ y : Int32, w_wo 2 = y := ⟨_, rfl⟩
  obtain ⟨lw, hw3⟩ : ∃ y : Int32, w_wo 3 = y := ⟨_, rfl⟩
  obtain ⟨li, hw4⟩ : ∃ y : Int32, w_wo 4 = y := ⟨_, rfl⟩
  rw [hw0, hw1, hw2, hw3] at hgr hwz
  rw [hw0, hw1, hw2] at htp
  rw [hw3] at hpv
  obtain ⟨b_ln, b_bs, b_tk, b_lw⟩ := hgr
  refine ⟨_, _, _, kX10_judge l dC dI o0 x_th mwo mim mhi mlu mtp x_td mfv x_sz x_at x_fr x_to x_va x_fk x_fp mfr mwt x_wt x_op x_jo mfg mpl x_dr mtm mfa mqu mmo mwy mwn mma mwi mnu mmv c_wo c_lu c_nu c_ma w_wo w_lu w_nu w_ma ln bs tk lw li a1 a2 b_ln b_bs b_tk b_lw ha_mma (by first | assumption | omega) (by first | assumption | omega) (by first | assumption | omega) (by first | assumption | omega) (by first | assumption | omega) (by first | assumption | omega), ⟨rfl, ⟨hP.sub [0, 1, 4, 19, 17] rfl, hK.sub [0, 3, 18, 16] rfl, hN⟩⟩, fun o t hq hW _ => ?_, fun q _ hq => hq.elim⟩
  obtain ⟨r, ho, hp, hh⟩ := hq
  exact ⟨⟨r, (), ho, trivial, PM_same hV hh hW⟩, by rw [hh]; exact Nat.le_refl _, fun q _ _ => by rw [hh]⟩
set_option maxHeartbeats 4000000 in
set_option maxRecDepth 100000 in
theorem wX10_kept (l : Launch) (dC : Nat → ClassId) (dI : Nat → Nat → Nat) (AX : Nat → Prop) (tt nB o0 : Nat) (a1 : Int32) (a2 : Int32) (hAn : ∀ q, AX q → nB ≤ q) : Met l yX10_kept uX10_kept ({ frames := 3, cells := 0, slots := 0, locals := 72 }) (va_Pc [.ref o0, .int a1, .int a2] (PM dC dI AX tt nB o0)) (va_Qi (fun (r : Int32) (_ : Unit) => True) (fun (_ : Unit) t => PM dC dI AX tt nB o0 t) AX) 0 0 AX := by
  refine Met.via (fun a U hv => ?_)
  obtain ⟨rfl, hV⟩ := hv
  obtain ⟨⟨x_th, mwo, mim, mhi, mlu, mtp, x_td, mfv, x_sz, x_at, x_fr, x_to, x_va, x_fk, x_fp, mfr, mwt, x_wt, x_op, x_jo, mfg, mpl, x_dr, mtm, mfa, mqu, mmo, mwy, mwn, mma, mwi, mnu, mmv, c_wo, c_im, c_hi, c_lu, c_tp, c_fv, c_fr, c_wt, c_fg, c_pl, c_tm, c_fa, c_qu, c_mo, c_wy, c_wn, c_ma, c_wi, c_nu, c_mv, w_wo, w_im, w_hi, w_lu, w_tp, w_fv, w_fr, w_wt, w_fg, w_pl, w_tm, w_fa, w_qu, w_wy, w_wn, w_ma, w_wi, w_nu, w_mv, b_x_sz, b_x_at, b_x_fr, b_x_to, b_x_fk, b_x_td, hgw, hgi, ha_mfg, ha_mma, ha_mwi, ha_mpl, hP, hK, hD⟩, htt0, hN, hX, hn0, hA⟩ := id hV
  obtain ⟨hgr, hwz, hpv, htp⟩ := id hgw
  obtain ⟨ln, hw0⟩ : ∃ y : Int32, w_wo 0 = y := ⟨_, rfl⟩
  obtain ⟨bs, hw1⟩ : ∃ y : Int32, w_wo 1 = y := ⟨_, rfl⟩
  obtain ⟨tk, hw2⟩ : ∃ y : Int32, w_wo 2 = y := ⟨_, rfl⟩
  obtain ⟨lw, hw3⟩ : ∃ y : Int32, w_wo 3 = y := ⟨_, rfl⟩
  obtain ⟨li, hw4⟩ : ∃ y : Int32, w_wo 4 = y := ⟨_, rfl⟩
  rw [hw0, hw1, hw2, hw3] at hgr hwz
  rw [hw0, hw1, hw2] at htp
  rw [hw3] at hpv
  obtain ⟨b_ln, b_bs, b_tk, b_lw⟩ := hgr
  refine ⟨_, _, _, kX10_kept l dC dI o0 x_th mwo mim mhi mlu mtp x_td mfv x_sz x_at x_fr x_to x_va x_fk x_fp mfr mwt x_wt x_op x_jo mfg mpl x_dr mtm mfa mqu mmo mwy mwn mma mwi mnu mmv c_wo c_lu c_nu c_ma w_wo w_lu w_nu w_ma ln bs tk lw li a1 a2 b_ln b_bs b_tk b_lw ha_mma (by first | assumption | omega) (by first | assumption | omega) (by first | assumption | omega) (by first | assumption | omega) (by first | assumption | omega) (by first | assumption | omega), ⟨rfl, ⟨hP.sub [0, 1, 4, 19, 17] rfl, hK.sub [0, 3, 18, 16] rfl, hN⟩⟩, fun o t hq hW _ => ?_, fun q _ hq => hq.elim⟩
  obtain ⟨r, ho, hp, hh⟩ := hq
  exact ⟨⟨r, (), ho, trivial, PM_same hV hh hW⟩, by rw [hh]; exact Nat.le_refl _, fun q _ _ => by rw [hh]⟩
set_option maxHeartbeats 4000000 in
set_option maxRecDepth 100000 in
theorem wX10_between (l : Launch) (dC : Nat → ClassId) (dI : Nat → Nat → Nat) (AX : Nat → Prop) (tt nB o0 : Nat) (a1 : Int32) (a2 : Int32) (a3 : Int32) (hAn : ∀ q, AX q → nB ≤ q) : Met l yX10_between uX10_between ({ frames := 3, cells := 0, slots := 0, locals := 69 }) (va_Pc [.ref o0, .int a1, .int a2, .int a3] (PM dC dI AX tt nB o0)) (va_Qi (fun (r : Int32) (_ : Unit) => True) (fun (_ : Unit) t => PM dC dI AX tt nB o0 t) AX) 0 0 AX := by
  refine Met.via (fun a U hv => ?_)
  obtain ⟨rfl, hV⟩ := hv
  obtain ⟨⟨x_th, mwo, mim, mhi, mlu, mtp, x_td, mfv, x_sz, x_at, x_fr, x_to, x_va, x_fk, x_fp, mfr, mwt, x_wt, x_op, x_jo, mfg, mpl, x_dr, mtm, mfa, mqu, mmo, mwy, mwn, mma, mwi, mnu, mmv, c_wo, c_im, c_hi, c_lu, c_tp, c_fv, c_fr, c_wt, c_fg, c_pl, c_tm, c_fa, c_qu, c_mo, c_wy, c_wn, c_ma, c_wi, c_nu, c_mv, w_wo, w_im, w_hi, w_lu, w_tp, w_fv, w_fr, w_wt, w_fg, w_pl, w_tm, w_fa, w_qu, w_wy, w_wn, w_ma, w_wi, w_nu, w_mv, b_x_sz, b_x_at, b_x_fr, b_x_to, b_x_fk, b_x_td, hgw, hgi, ha_mfg, ha_mma, ha_mwi, ha_mpl, hP, hK, hD⟩, htt0, hN, hX, hn0, hA⟩ := id hV
  obtain ⟨hgr, hwz, hpv, htp⟩ := id hgw
  obtain ⟨ln, hw0⟩ : ∃ y : Int32, w_wo 0 = y := ⟨_, rfl⟩
  obtain ⟨bs, hw1⟩ : ∃ y : Int32, w_wo 1 = y := ⟨_, rfl⟩
  obtain ⟨tk, hw2⟩ : ∃ y : Int32, w_wo 2 = y := ⟨_, rfl⟩
  obtain ⟨lw, hw3⟩ : ∃ y : Int32, w_wo 3 = y := ⟨_, rfl⟩
  obtain ⟨li, hw4⟩ : ∃ y : Int32, w_wo 4 = y := ⟨_, rfl⟩
  rw [hw0, hw1, hw2, hw3] at hgr hwz
  rw [hw0, hw1, hw2] at htp
  rw [hw3] at hpv
  obtain ⟨b_ln, b_bs, b_tk, b_lw⟩ := hgr
  refine ⟨_, _, _, kX10_between l dC dI o0 x_th mwo mim mhi mlu mtp x_td mfv x_sz x_at x_fr x_to x_va x_fk x_fp mfr mwt x_wt x_op x_jo mfg mpl x_dr mtm mfa mqu mmo mwy mwn mma mwi mnu mmv c_wo c_lu w_wo w_lu ln bs tk lw li a1 a2 a3 b_ln b_bs b_tk b_lw (by first | assumption | omega) (by first | assumption | omega) (by first | assumption | omega) (by first | assumption | omega) (by first | assumption | omega) (by first | assumption | omega), ⟨rfl, ⟨hP.sub [0, 1, 4] rfl, hK.sub [0, 3] rfl, hN⟩⟩, fun o t hq hW _ => ?_, fun q _ hq => hq.elim⟩
  obtain ⟨r, ho, hp, hh⟩ := hq
  exact ⟨⟨r, (), ho, trivial, PM_same hV hh hW⟩, by rw [hh]; exact Nat.le_refl _, fun q _ _ => by rw [hh]⟩
set_option maxHeartbeats 4000000 in
set_option maxRecDepth 100000 in
theorem wX10_run (l : Launch) (dC : Nat → ClassId) (dI : Nat → Nat → Nat) (AX : Nat → Prop) (tt nB o0 : Nat) (a1 : Int32) (a2 : Int32) (hAn : ∀ q, AX q → nB ≤ q) : Met l yX10_run uX10_run ({ frames := 2, cells := 0, slots := 0, locals := 46 }) (va_Pc [.ref o0, .int a1, .int a2] (PM dC dI AX tt nB o0)) (va_Qi (fun (r : Int32) (_ : Unit) => True) (fun (_ : Unit) t => PM dC dI AX tt nB o0 t) AX) 0 0 AX := by
  refine Met.via (fun a U hv => ?_)
  obtain ⟨rfl, hV⟩ := hv
  obtain ⟨⟨x_th, mwo, mim, mhi, mlu, mtp, x_td, mfv, x_sz, x_at, x_fr, x_to, x_va, x_fk, x_fp, mfr, mwt, x_wt, x_op, x_jo, mfg, mpl, x_dr, mtm, mfa, mqu, mmo, mwy, mwn, mma, mwi, mnu, mmv, c_wo, c_im, c_hi, c_lu, c_tp, c_fv, c_fr, c_wt, c_fg, c_pl, c_tm, c_fa, c_qu, c_mo, c_wy, c_wn, c_ma, c_wi, c_nu, c_mv, w_wo, w_im, w_hi, w_lu, w_tp, w_fv, w_fr, w_wt, w_fg, w_pl, w_tm, w_fa, w_qu, w_wy, w_wn, w_ma, w_wi, w_nu, w_mv, b_x_sz, b_x_at, b_x_fr, b_x_to, b_x_fk, b_x_td, hgw, hgi, ha_mfg, ha_mma, ha_mwi, ha_mpl, hP, hK, hD⟩, htt0, hN, hX, hn0, hA⟩ := id hV
  obtain ⟨hgr, hwz, hpv, htp⟩ := id hgw
  obtain ⟨ln, hw0⟩ : ∃ y : Int32, w_wo 0 = y := ⟨_, rfl⟩
  obtain ⟨bs, hw1⟩ : ∃ y : Int32, w_wo 1 = y := ⟨_, rfl⟩
  obtain ⟨tk, hw2⟩ : ∃ y : Int32, w_wo 2 = y := ⟨_, rfl⟩
  obtain ⟨lw, hw3⟩ : ∃ y : Int32, w_wo 3 = y := ⟨_, rfl⟩
  obtain ⟨li, hw4⟩ : ∃ y : Int32, w_wo 4 = y := ⟨_, rfl⟩
  rw [hw0, hw1, hw2, hw3] at hgr hwz
  rw [hw0, hw1, hw2] at htp
  rw [hw3] at hpv
  obtain ⟨b_ln, b_bs, b_tk, b_lw⟩ := hgr
  refine ⟨_, _, _, kX10_run l dC dI o0 x_th mwo mim mhi mlu mtp x_td mfv x_sz x_at x_fr x_to x_va x_fk x_fp mfr mwt x_wt x_op x_jo mfg mpl x_dr mtm mfa mqu mmo mwy mwn mma mwi mnu mmv c_wo c_lu w_wo w_lu ln bs tk lw li a1 a2 b_ln b_bs b_tk b_lw (by first | assumption | omega) (by first | assumption | omega) (by first | assumption | omega) (by first | assumption | omega) (by first | assumption | omega) (by first | assumption | omega), ⟨rfl, ⟨hP.sub [0, 1, 4] rfl, hK.sub [0, 3] rfl, hN⟩⟩, fun o t hq hW _ => ?_, fun q _ hq => hq.elim⟩
  obtain ⟨r, ho, hp, hh⟩ := hq
  exact ⟨⟨r, (), ho, trivial, PM_same hV hh hW⟩, by rw [hh]; exact Nat.le_refl _, fun q _ _ => by rw [hh]⟩
