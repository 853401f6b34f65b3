set_option maxHeartbeats 4000000 in
set_option maxRecDepth 100000 in
theorem wX10_feed (l : Launch) (dC : Nat → ClassId) (dI : Nat → Nat → Nat) (gh : Nat → Int32) (AX : Nat → Prop) (tt nB o0 : Nat) (a1 : Int32) (a2 : Int32) (a3 : Int32) (a4 : Int32) (a5 : Int32) (hAn : ∀ q, AX q → nB ≤ q) : Met l yX10_feed uX10_feed ({ frames := 0, cells := 0, slots := 0, locals := 0 }) (va_Pc [.ref o0, .int a1, .int a2, .int a3, .int a4, .int a5] (PM dC dI gh AX tt nB o0)) (va_Qi (fun (r : Int32) (_ : Unit) => True) (fun (_ : Unit) t => PM dC dI gh AX tt nB o0 t) AX) 0 0 AX := by
  refine Met.via (fun a U hv => ?_)
  obtain ⟨rfl, hV⟩ := hv
  refine MI.elim hV.1 (fun va vz vl vk vF vG b_x_sz b_x_at b_x_fr b_x_to b_x_fk b_x_td hgw hgi hgR9 ha_mfg ha_mma ha_mwi ha_mpl hP hK hD => ?_)
  have htt0 := hV.2.1
  have hN := hV.2.2.1
  have hX := hV.2.2.2.1
  have hn0 := hV.2.2.2.2.1
  have hA := hV.2.2.2.2.2
  have hFc : ∀ q : Nat, q < U.heap.size → va_A [(o0, .inr (8, [.int (vz 0), .ref (va 0), .ref (va 1), .ref (va 2), .ref (va 3), .ref (va 4), .int (vz 1), .ref (va 5), .int (vz 2), .int (vz 3), .int (vz 4), .int (vz 5), .int (vz 6), .int (vz 7), .int (vz 8), .ref (va 6), .ref (va 7), .int (vz 9), .int (vz 10), .int (vz 11), .ref (va 8), .ref (va 9), .long (vl 0), .ref (va 10), .ref (va 11), .ref (va 12), .ref (va 13), .ref (va 14), .ref (va 15), .ref (va 16), .ref (va 17), .ref (va 18), .ref (va 19)])), ((va 4), .inl ((vk 4), 1200, .inl (vF 4))), ((va 5), .inl ((vk 5), 5, .inl (vF 5)))] U.heap.size q → AX q := fun q h1 h2 => va_Ain (hD.sub (ws' := [(o0, .inr (8, [.int (vz 0), .ref (va 0), .ref (va 1), .ref (va 2), .ref (va 3), .ref (va 4), .int (vz 1), .ref (va 5), .int (vz 2), .int (vz 3), .int (vz 4), .int (vz 5), .int (vz 6), .int (vz 7), .int (vz 8), .ref (va 6), .ref (va 7), .int (vz 9), .int (vz 10), .int (vz 11), .ref (va 8), .ref (va 9), .long (vl 0), .ref (va 10), .ref (va 11), .ref (va 12), .ref (va 13), .ref (va 14), .ref (va 15), .ref (va 16), .ref (va 17), .ref (va 18), .ref (va 19)])), ((va 4), .inl ((vk 4), 1200, .inl (vF 4))), ((va 5), .inl ((vk 5), 5, .inl (vF 5)))]) [0, 5, 6] (by decide) rfl) h1 h2
  refine ⟨_, _, _, kX10_feed l dC dI o0 (vz 0) (va 0) (va 1) (va 2) (va 3) (va 4) (vz 1) (va 5) (vz 2) (vz 3) (vz 4) (vz 5) (vz 6) (vz 7) (vz 8) (va 6) (va 7) (vz 9) (vz 10) (vz 11) (va 8) (va 9) (vl 0) (va 10) (va 11) (va 12) (va 13) (va 14) (va 15) (va 16) (va 17) (va 18) (va 19) (vk 4) (vk 5) (vF 4) (vF 5) a1 a2 a3 a4 a5 U.heap.size b_x_td, ⟨rfl, ⟨rfl, hP.sub [0, 5, 6] rfl, hK.sub [4, 5] rfl, (hD.sub [0, 5, 6] (by decide) rfl).weaken (fun _ _ _ _ => trivial), hN⟩⟩, fun o t hq hW hts => ?_, fun q h1 h2 => hFc q h1 h2⟩
  have hF := hq.2
  have h9_0 := hq.1
  clear hq
  refine Exists.elim h9_0 (fun r h9_1 => ?_)
  clear h9_0
  refine Exists.elim h9_1 (fun u h9_2 => ?_)
  clear h9_1
  refine and_el h9_2 (fun ho h9_3 => ?_)
  clear h9_2
  refine and_el h9_3 (fun hp h9_4 => ?_)
  clear h9_3
  refine Exists.elim h9_4 (fun o0_9 h9_5 => ?_)
  clear h9_4
  refine Exists.elim h9_5 (fun o1_9 h9_6 => ?_)
  clear h9_5
  refine Exists.elim h9_6 (fun o2_9 h9_7 => ?_)
  clear h9_6
  refine and_el h9_7 (fun b_o0_9 h9_8 => ?_)
  clear h9_7
  refine and_el h9_8 (fun hP1 h9_9 => ?_)
  clear h9_8
  refine and_el h9_9 (fun hK1 h9_10 => ?_)
  clear h9_9
  have hD1 := h9_10
  clear h9_10
  have hP2 := va_put9 [0, 5, 6] hP hD (by rfl) hF.2 hP1 (by exact Nat.le_of_ble_eq_true rfl)
  have hP3 : va_P (dC, dI) vwCl [(o0, .inr (8, [.int (vz 0), .ref (va 0), .ref (va 1), .ref (va 2), .ref (va 3), .ref (va 4), .int o0_9, .ref (va 5), .int (vz 2), .int (vz 3), .int (vz 4), .int (vz 5), .int (vz 6), .int (vz 7), .int (vz 8), .ref (va 6), .ref (va 7), .int (vz 9), .int (vz 10), .int (vz 11), .ref (va 8), .ref (va 9), .long (vl 0), .ref (va 10), .ref (va 11), .ref (va 12), .ref (va 13), .ref (va 14), .ref (va 15), .ref (va 16), .ref (va 17), .ref (va 18), .ref (va 19)])), ((va 0), .inl ((vk 0), 1875, .inl (vF 0))), ((va 1), .inl ((vk 1), 5625, .inl (vF 1))), ((va 2), .inl ((vk 2), 3, .inl (vF 2))), ((va 3), .inl ((vk 3), 20000, .inl (vF 3))), ((va 4), .inl ((vk 4), 1200, .inl o1_9)), ((va 5), .inl ((vk 5), 5, .inl o2_9)), ((va 6), .inl ((vk 6), 1875, .inl (vF 6))), ((va 7), .inl ((vk 7), 78, .inl (vF 7))), ((va 8), .inl ((vk 8), 12, .inl (vF 8))), ((va 9), .inl ((vk 9), 26, .inl (vF 9))), ((va 10), .inl ((vk 10), 16, .inl (vF 10))), ((va 11), .inl ((vk 11), 20000, .inl (vF 11))), ((va 12), .inl ((vk 12), 20000, .inl (vF 12))), ((va 13), .inl ((vk 13), 12, .inl monthsF)), ((va 14), .inl ((vk 14), 201, .inr (.inl (vG 0)))), ((va 15), .inl ((vk 15), 201, .inr (.inl (vG 1)))), ((va 16), .inl ((vk 16), 4, .inl (vF 13))), ((va 17), .inl ((vk 17), 4, .inl (vF 14))), ((va 18), .inl ((vk 18), 240, .inr (.inl (vG 2)))), ((va 19), .inl ((vk 19), 60, .inr (.inl (vG 3))))] t.heap := hP2
  have hK3 := va_K.moved hW.alike hK
  have hD3 : va_D AX [(o0, .inr (8, [.int (vz 0), .ref (va 0), .ref (va 1), .ref (va 2), .ref (va 3), .ref (va 4), .int o0_9, .ref (va 5), .int (vz 2), .int (vz 3), .int (vz 4), .int (vz 5), .int (vz 6), .int (vz 7), .int (vz 8), .ref (va 6), .ref (va 7), .int (vz 9), .int (vz 10), .int (vz 11), .ref (va 8), .ref (va 9), .long (vl 0), .ref (va 10), .ref (va 11), .ref (va 12), .ref (va 13), .ref (va 14), .ref (va 15), .ref (va 16), .ref (va 17), .ref (va 18), .ref (va 19)])), ((va 0), .inl ((vk 0), 1875, .inl (vF 0))), ((va 1), .inl ((vk 1), 5625, .inl (vF 1))), ((va 2), .inl ((vk 2), 3, .inl (vF 2))), ((va 3), .inl ((vk 3), 20000, .inl (vF 3))), ((va 4), .inl ((vk 4), 1200, .inl o1_9)), ((va 5), .inl ((vk 5), 5, .inl o2_9)), ((va 6), .inl ((vk 6), 1875, .inl (vF 6))), ((va 7), .inl ((vk 7), 78, .inl (vF 7))), ((va 8), .inl ((vk 8), 12, .inl (vF 8))), ((va 9), .inl ((vk 9), 26, .inl (vF 9))), ((va 10), .inl ((vk 10), 16, .inl (vF 10))), ((va 11), .inl ((vk 11), 20000, .inl (vF 11))), ((va 12), .inl ((vk 12), 20000, .inl (vF 12))), ((va 13), .inl ((vk 13), 12, .inl monthsF)), ((va 14), .inl ((vk 14), 201, .inr (.inl (vG 0)))), ((va 15), .inl ((vk 15), 201, .inr (.inl (vG 1)))), ((va 16), .inl ((vk 16), 4, .inl (vF 13))), ((va 17), .inl ((vk 17), 4, .inl (vF 14))), ((va 18), .inl ((vk 18), 240, .inr (.inl (vG 2)))), ((va 19), .inl ((vk 19), 60, .inr (.inl (vG 3))))] := va_Da hD rfl
  exact ⟨⟨r, (), ho, trivial, ⟨va, (up9 vz 1 o0_9), vl, vk, (up9 (up9 vF 4 o1_9) 5 o2_9), vG, b_x_sz, b_x_at, b_x_fr, b_x_to, b_x_fk, (show (0 : Int) ≤ o0_9.toInt ∧ o0_9.toInt ≤ 1200 from (rg_w b_o0_9 (by decide) (by decide))), hgw, hgi, hgR9, ha_mfg, ha_mma, ha_mwi, ha_mpl, hP3, hK3, hD3⟩, by omega, hN.warm hW, hX.mv (fun a h1 h2 => hF.2 a h1 (fun z => h2 (hAn a (hFc a h1 z)))) hW.alike (fun _ _ _ _ q => vk_R.warm hW q), Nat.le_trans hn0 hF.1, fun q h => hA q (Nat.le_trans hF.1 h)⟩, hF.1, fun q h1 h2 => hF.2 q h1 (fun z => h2 (hFc q h1 z))⟩
set_option maxHeartbeats 4000000 in
set_option maxRecDepth 100000 in
theorem wX10_end (l : Launch) (dC : Nat → ClassId) (dI : Nat → Nat → Nat) (gh : Nat → Int32) (AX : Nat → Prop) (tt nB o0 : Nat) (a1 : Int32) (hAn : ∀ q, AX q → nB ≤ q) : Met l yX10_end uX10_end ({ frames := 1, cells := 0, slots := 0, locals := 25 }) (va_Pc [.ref o0, .int a1] (PM dC dI gh AX tt nB o0)) (va_Qi (fun (r : Int32) (_ : Unit) => True) (fun (_ : Unit) t => PM dC dI gh AX tt nB o0 t) AX) 0 0 AX := by
  refine Met.via (fun a U hv => ?_)
  obtain ⟨rfl, hV⟩ := hv
  refine MI.elim hV.1 (fun va vz vl vk vF vG b_x_sz b_x_at b_x_fr b_x_to b_x_fk b_x_td hgw hgi hgR9 ha_mfg ha_mma ha_mwi ha_mpl hP hK hD => ?_)
  have htt0 := hV.2.1
  have hN := hV.2.2.1
  have hX := hV.2.2.2.1
  have hn0 := hV.2.2.2.2.1
  have hA := hV.2.2.2.2.2
  have hFc : ∀ q : Nat, q < U.heap.size → va_A [(o0, .inr (8, [.int (vz 0), .ref (va 0), .ref (va 1), .ref (va 2), .ref (va 3), .ref (va 4), .int (vz 1), .ref (va 5), .int (vz 2), .int (vz 3), .int (vz 4), .int (vz 5), .int (vz 6), .int (vz 7), .int (vz 8), .ref (va 6), .ref (va 7), .int (vz 9), .int (vz 10), .int (vz 11), .ref (va 8), .ref (va 9), .long (vl 0), .ref (va 10), .ref (va 11), .ref (va 12), .ref (va 13), .ref (va 14), .ref (va 15), .ref (va 16), .ref (va 17), .ref (va 18), .ref (va 19)]))] U.heap.size q → AX q := fun q h1 h2 => va_Ain (hD.sub (ws' := [(o0, .inr (8, [.int (vz 0), .ref (va 0), .ref (va 1), .ref (va 2), .ref (va 3), .ref (va 4), .int (vz 1), .ref (va 5), .int (vz 2), .int (vz 3), .int (vz 4), .int (vz 5), .int (vz 6), .int (vz 7), .int (vz 8), .ref (va 6), .ref (va 7), .int (vz 9), .int (vz 10), .int (vz 11), .ref (va 8), .ref (va 9), .long (vl 0), .ref (va 10), .ref (va 11), .ref (va 12), .ref (va 13), .ref (va 14), .ref (va 15), .ref (va 16), .ref (va 17), .ref (va 18), .ref (va 19)]))]) [0] (by decide) rfl) h1 h2
  refine ⟨_, _, _, kX10_end l dC dI o0 (vz 0) (va 0) (va 1) (va 2) (va 3) (va 4) (vz 1) (va 5) (vz 2) (vz 3) (vz 4) (vz 5) (vz 6) (vz 7) (vz 8) (va 6) (va 7) (vz 9) (vz 10) (vz 11) (va 8) (va 9) (vl 0) (va 10) (va 11) (va 12) (va 13) (va 14) (va 15) (va 16) (va 17) (va 18) (va 19) a1 U.heap.size b_x_td, ⟨rfl, ⟨rfl, hP.sub [0] rfl, hK.sub [] rfl, (hD.sub [0] (by decide) rfl).weaken (fun _ _ _ _ => trivial), hN⟩⟩, fun o t hq hW hts => ?_, fun q h1 h2 => hFc q h1 h2⟩
  have hF := hq.2
  have h9_0 := hq.1
  clear hq
  refine Exists.elim h9_0 (fun r h9_1 => ?_)
  clear h9_0
  refine Exists.elim h9_1 (fun u h9_2 => ?_)
  clear h9_1
  refine and_el h9_2 (fun ho h9_3 => ?_)
  clear h9_2
  refine and_el h9_3 (fun hp h9_4 => ?_)
  clear h9_3
  refine Exists.elim h9_4 (fun o0_9 h9_5 => ?_)
  clear h9_4
  refine and_el h9_5 (fun b_o0_9 h9_6 => ?_)
  clear h9_5
  refine and_el h9_6 (fun hP1 h9_7 => ?_)
  clear h9_6
  refine and_el h9_7 (fun hK1 h9_8 => ?_)
  clear h9_7
  have hD1 := h9_8
  clear h9_8
  have hP2 := va_put9 [0] hP hD (by rfl) hF.2 hP1 (by exact Nat.le_of_ble_eq_true rfl)
  have hP3 : va_P (dC, dI) vwCl [(o0, .inr (8, [.int (vz 0), .ref (va 0), .ref (va 1), .ref (va 2), .ref (va 3), .ref (va 4), .int o0_9, .ref (va 5), .int (vz 2), .int (vz 3), .int (vz 4), .int (vz 5), .int (vz 6), .int (vz 7), .int (vz 8), .ref (va 6), .ref (va 7), .int (vz 9), .int (vz 10), .int (vz 11), .ref (va 8), .ref (va 9), .long (vl 0), .ref (va 10), .ref (va 11), .ref (va 12), .ref (va 13), .ref (va 14), .ref (va 15), .ref (va 16), .ref (va 17), .ref (va 18), .ref (va 19)])), ((va 0), .inl ((vk 0), 1875, .inl (vF 0))), ((va 1), .inl ((vk 1), 5625, .inl (vF 1))), ((va 2), .inl ((vk 2), 3, .inl (vF 2))), ((va 3), .inl ((vk 3), 20000, .inl (vF 3))), ((va 4), .inl ((vk 4), 1200, .inl (vF 4))), ((va 5), .inl ((vk 5), 5, .inl (vF 5))), ((va 6), .inl ((vk 6), 1875, .inl (vF 6))), ((va 7), .inl ((vk 7), 78, .inl (vF 7))), ((va 8), .inl ((vk 8), 12, .inl (vF 8))), ((va 9), .inl ((vk 9), 26, .inl (vF 9))), ((va 10), .inl ((vk 10), 16, .inl (vF 10))), ((va 11), .inl ((vk 11), 20000, .inl (vF 11))), ((va 12), .inl ((vk 12), 20000, .inl (vF 12))), ((va 13), .inl ((vk 13), 12, .inl monthsF)), ((va 14), .inl ((vk 14), 201, .inr (.inl (vG 0)))), ((va 15), .inl ((vk 15), 201, .inr (.inl (vG 1)))), ((va 16), .inl ((vk 16), 4, .inl (vF 13))), ((va 17), .inl ((vk 17), 4, .inl (vF 14))), ((va 18), .inl ((vk 18), 240, .inr (.inl (vG 2)))), ((va 19), .inl ((vk 19), 60, .inr (.inl (vG 3))))] t.heap := hP2
  have hK3 := va_K.moved hW.alike hK
  have hD3 : va_D AX [(o0, .inr (8, [.int (vz 0), .ref (va 0), .ref (va 1), .ref (va 2), .ref (va 3), .ref (va 4), .int o0_9, .ref (va 5), .int (vz 2), .int (vz 3), .int (vz 4), .int (vz 5), .int (vz 6), .int (vz 7), .int (vz 8), .ref (va 6), .ref (va 7), .int (vz 9), .int (vz 10), .int (vz 11), .ref (va 8), .ref (va 9), .long (vl 0), .ref (va 10), .ref (va 11), .ref (va 12), .ref (va 13), .ref (va 14), .ref (va 15), .ref (va 16), .ref (va 17), .ref (va 18), .ref (va 19)])), ((va 0), .inl ((vk 0), 1875, .inl (vF 0))), ((va 1), .inl ((vk 1), 5625, .inl (vF 1))), ((va 2), .inl ((vk 2), 3, .inl (vF 2))), ((va 3), .inl ((vk 3), 20000, .inl (vF 3))), ((va 4), .inl ((vk 4), 1200, .inl (vF 4))), ((va 5), .inl ((vk 5), 5, .inl (vF 5))), ((va 6), .inl ((vk 6), 1875, .inl (vF 6))), ((va 7), .inl ((vk 7), 78, .inl (vF 7))), ((va 8), .inl ((vk 8), 12, .inl (vF 8))), ((va 9), .inl ((vk 9), 26, .inl (vF 9))), ((va 10), .inl ((vk 10), 16, .inl (vF 10))), ((va 11), .inl ((vk 11), 20000, .inl (vF 11))), ((va 12), .inl ((vk 12), 20000, .inl (vF 12))), ((va 13), .inl ((vk 13), 12, .inl monthsF)), ((va 14), .inl ((vk 14), 201, .inr (.inl (vG 0)))), ((va 15), .inl ((vk 15), 201, .inr (.inl (vG 1)))), ((va 16), .inl ((vk 16), 4, .inl (vF 13))), ((va 17), .inl ((vk 17), 4, .inl (vF 14))), ((va 18), .inl ((vk 18), 240, .inr (.inl (vG 2)))), ((va 19), .inl ((vk 19), 60, .inr (.inl (vG 3))))] := va_Da hD rfl
  exact ⟨⟨r, (), ho, trivial, ⟨va, (up9 vz 1 o0_9), vl, vk, vF, vG, b_x_sz, b_x_at, b_x_fr, b_x_to, b_x_fk, (show (0 : Int) ≤ o0_9.toInt ∧ o0_9.toInt ≤ 1200 from b_o0_9), hgw, hgi, hgR9, ha_mfg, ha_mma, ha_mwi, ha_mpl, hP3, hK3, hD3⟩, by omega, hN.warm hW, hX.mv (fun a h1 h2 => hF.2 a h1 (fun z => h2 (hAn a (hFc a h1 z)))) hW.alike (fun _ _ _ _ q => vk_R.warm hW q), Nat.le_trans hn0 hF.1, fun q h => hA q (Nat.le_trans hF.1 h)⟩, hF.1, fun q h1 h2 => hF.2 q h1 (fun z => h2 (hFc q h1 z))⟩
set_option maxHeartbeats 4000000 in
set_option maxRecDepth 100000 in
theorem wX10_roll (l : Launch) (dC : Nat → ClassId) (dI : Nat → Nat → Nat) (gh : Nat → Int32) (AX : Nat → Prop) (tt nB o0 : Nat) (hAn : ∀ q, AX q → nB ≤ q) : Met l yX10_roll uX10_roll ({ frames := 11, cells := 0, slots := 0, locals := 236 }) (va_Pc [.ref o0] (PM dC dI gh AX tt nB o0)) (va_Qi (fun (r : Int32) (_ : Unit) => True) (fun (_ : Unit) t => PM dC dI gh AX tt nB o0 t) AX) 0 0 AX := by
  refine Met.via (fun a U hv => ?_)
  obtain ⟨rfl, hV⟩ := hv
  refine MI.elim hV.1 (fun va vz vl vk vF vG b_x_sz b_x_at b_x_fr b_x_to b_x_fk b_x_td hgw hgi hgR9 ha_mfg ha_mma ha_mwi ha_mpl hP hK hD => ?_)
  have htt0 := hV.2.1
  have hN := hV.2.2.1
  have hX := hV.2.2.2.1
  have hn0 := hV.2.2.2.2.1
  have hA := hV.2.2.2.2.2
  have hFc : ∀ q : Nat, q < U.heap.size → va_A [(o0, .inr (8, [.int (vz 0), .ref (va 0), .ref (va 1), .ref (va 2), .ref (va 3), .ref (va 4), .int (vz 1), .ref (va 5), .int (vz 2), .int (vz 3), .int (vz 4), .int (vz 5), .int (vz 6), .int (vz 7), .int (vz 8), .ref (va 6), .ref (va 7), .int (vz 9), .int (vz 10), .int (vz 11), .ref (va 8), .ref (va 9), .long (vl 0), .ref (va 10), .ref (va 11), .ref (va 12), .ref (va 13), .ref (va 14), .ref (va 15), .ref (va 16), .ref (va 17), .ref (va 18), .ref (va 19)])), ((va 4), .inl ((vk 4), 1200, .inl (vF 4))), ((va 6), .inl ((vk 6), 1875, .inl (vF 6))), ((va 7), .inl ((vk 7), 78, .inl (vF 7))), ((va 0), .inl ((vk 0), 1875, .inl (vF 0))), ((va 3), .inl ((vk 3), 20000, .inl (vF 3))), ((va 8), .inl ((vk 8), 12, .inl (vF 8))), ((va 9), .inl ((vk 9), 26, .inl (vF 9)))] U.heap.size q → AX q := fun q h1 h2 => va_Ain (hD.sub (ws' := [(o0, .inr (8, [.int (vz 0), .ref (va 0), .ref (va 1), .ref (va 2), .ref (va 3), .ref (va 4), .int (vz 1), .ref (va 5), .int (vz 2), .int (vz 3), .int (vz 4), .int (vz 5), .int (vz 6), .int (vz 7), .int (vz 8), .ref (va 6), .ref (va 7), .int (vz 9), .int (vz 10), .int (vz 11), .ref (va 8), .ref (va 9), .long (vl 0), .ref (va 10), .ref (va 11), .ref (va 12), .ref (va 13), .ref (va 14), .ref (va 15), .ref (va 16), .ref (va 17), .ref (va 18), .ref (va 19)])), ((va 4), .inl ((vk 4), 1200, .inl (vF 4))), ((va 6), .inl ((vk 6), 1875, .inl (vF 6))), ((va 7), .inl ((vk 7), 78, .inl (vF 7))), ((va 0), .inl ((vk 0), 1875, .inl (vF 0))), ((va 3), .inl ((vk 3), 20000, .inl (vF 3))), ((va 8), .inl ((vk 8), 12, .inl (vF 8))), ((va 9), .inl ((vk 9), 26, .inl (vF 9)))]) [0, 5, 7, 8, 1, 4, 9, 10] (by decide) rfl) h1 h2
  refine ⟨_, _, _, kX10_roll l dC dI o0 (vz 0) (va 0) (va 1) (va 2) (va 3) (va 4) (vz 1) (va 5) (vz 2) (vz 3) (vz 4) (vz 5) (vz 6) (vz 7) (vz 8) (va 6) (va 7) (vz 9) (vz 10) (vz 11) (va 8) (va 9) (vl 0) (va 10) (va 11) (va 12) (va 13) (va 14) (va 15) (va 16) (va 17) (va 18) (va 19) (vk 4) (vk 6) (vk 7) (vk 0) (vk 3) (vk 8) (vk 9) (vF 4) (vF 6) (vF 7) (vF 0) (vF 3) (vF 8) (vF 9) nB U.heap.size b_x_sz b_x_at b_x_fr b_x_to b_x_fk b_x_td ha_mfg ha_mpl (by first | with_reducible assumption | omega), ⟨rfl, ⟨⟨rfl, hP.sub [0, 5, 7, 8, 1, 4, 9, 10] rfl, hK.sub [4, 6, 7, 0, 3, 8, 9] rfl, (hD.sub [0, 5, 7, 8, 1, 4, 9, 10] (by decide) rfl).weaken (fun _ _ _ _ => trivial), hN⟩, hn0, (hD.sub [0, 5, 7, 8, 1, 4, 9, 10] (by decide) rfl).weaken (fun _ _ _ h => hAn _ h), hX, tts_0⟩⟩, fun o t hq hW hts => ?_, fun q h1 h2 => hFc q h1 h2⟩
  have hF := hq.2
  have h9_0 := hq.1
  clear hq
  refine Exists.elim h9_0 (fun r h9_1 => ?_)
  clear h9_0
  refine Exists.elim h9_1 (fun u h9_2 => ?_)
  clear h9_1
  refine and_el h9_2 (fun ho h9_3 => ?_)
  clear h9_2
  refine and_el h9_3 (fun hp h9_4 => ?_)
  clear h9_3
  refine Exists.elim h9_4 (fun o2_9 h9_5 => ?_)
  clear h9_4
  refine Exists.elim h9_5 (fun o3_9 h9_6 => ?_)
  clear h9_5
  refine Exists.elim h9_6 (fun o4_9 h9_7 => ?_)
  clear h9_6
  refine Exists.elim h9_7 (fun o5_9 h9_8 => ?_)
  clear h9_7
  refine Exists.elim h9_8 (fun o6_9 h9_9 => ?_)
  clear h9_8
  refine Exists.elim h9_9 (fun o7_9 h9_10 => ?_)
  clear h9_9
  refine Exists.elim h9_10 (fun o8_9 h9_11 => ?_)
  clear h9_10
  refine Exists.elim h9_11 (fun o9_9 h9_12 => ?_)
  clear h9_11
  refine Exists.elim h9_12 (fun o10_9 h9_13 => ?_)
  clear h9_12
  refine Exists.elim h9_13 (fun o11_9 h9_14 => ?_)
  clear h9_13
  refine Exists.elim h9_14 (fun o12_9 h9_15 => ?_)
  clear h9_14
  refine Exists.elim h9_15 (fun o13_9 h9_16 => ?_)
  clear h9_15
  refine Exists.elim h9_16 (fun o14_9 h9_17 => ?_)
  clear h9_16
  refine Exists.elim h9_17 (fun o15_9 h9_18 => ?_)
  clear h9_17
  refine Exists.elim h9_18 (fun o16_9 h9_19 => ?_)
  clear h9_18
  refine and_el h9_19 (fun b_o2_9 h9_20 => ?_)
  clear h9_19
  refine and_el h9_20 (fun b_o3_9 h9_21 => ?_)
  clear h9_20
  refine and_el h9_21 (fun b_o4_9 h9_22 => ?_)
  clear h9_21
  refine and_el h9_22 (fun b_o6_9 h9_23 => ?_)
  clear h9_22
  refine and_el h9_23 (fun hf4 h9_24 => ?_)
  clear h9_23
  refine and_el h9_24 (fun hf5 h9_25 => ?_)
  clear h9_24
  refine and_el h9_25 (fun hf6 h9_26 => ?_)
  clear h9_25
  refine and_el h9_26 (fun hP1 h9_27 => ?_)
  clear h9_26
  refine and_el h9_27 (fun hK1 h9_28 => ?_)
  clear h9_27
  have hD1 := h9_28
  clear h9_28
  have hP2 := va_put9 [0, 5, 7, 8, 1, 4, 9, 10] hP hD (by rfl) hF.2 hP1 (by exact Nat.le_of_ble_eq_true rfl)
  have hP3 : va_P (dC, dI) vwCl [(o0, .inr (8, [.int (vz 0), .ref (va 0), .ref (va 1), .ref (va 2), .ref (va 3), .ref (va 4), .int 0, .ref (va 5), .int (vz 1), .int o2_9, .int o3_9, .int o4_9, .int o5_9, .int o6_9, .int o7_9, .ref (va 6), .ref (va 7), .int o8_9, .int o9_9, .int o10_9, .ref (va 8), .ref (va 9), .long (vl 0), .ref (va 10), .ref (va 11), .ref (va 12), .ref (va 13), .ref (va 14), .ref (va 15), .ref (va 16), .ref (va 17), .ref (va 18), .ref (va 19)])), ((va 0), .inl ((vk 0), 1875, .inl o13_9)), ((va 1), .inl ((vk 1), 5625, .inl (vF 1))), ((va 2), .inl ((vk 2), 3, .inl (vF 2))), ((va 3), .inl ((vk 3), 20000, .inl o14_9)), ((va 4), .inl ((vk 4), 1200, .inl (vF 4))), ((va 5), .inl ((vk 5), 5, .inl (vF 5))), ((va 6), .inl ((vk 6), 1875, .inl o11_9)), ((va 7), .inl ((vk 7), 78, .inl o12_9)), ((va 8), .inl ((vk 8), 12, .inl o15_9)), ((va 9), .inl ((vk 9), 26, .inl o16_9)), ((va 10), .inl ((vk 10), 16, .inl (vF 10))), ((va 11), .inl ((vk 11), 20000, .inl (vF 11))), ((va 12), .inl ((vk 12), 20000, .inl (vF 12))), ((va 13), .inl ((vk 13), 12, .inl monthsF)), ((va 14), .inl ((vk 14), 201, .inr (.inl (vG 0)))), ((va 15), .inl ((vk 15), 201, .inr (.inl (vG 1)))), ((va 16), .inl ((vk 16), 4, .inl (vF 13))), ((va 17), .inl ((vk 17), 4, .inl (vF 14))), ((va 18), .inl ((vk 18), 240, .inr (.inl (vG 2)))), ((va 19), .inl ((vk 19), 60, .inr (.inl (vG 3))))] t.heap := hP2
  have hK3 := va_K.moved hW.alike hK
  have hD3 : va_D AX [(o0, .inr (8, [.int (vz 0), .ref (va 0), .ref (va 1), .ref (va 2), .ref (va 3), .ref (va 4), .int 0, .ref (va 5), .int (vz 1), .int o2_9, .int o3_9, .int o4_9, .int o5_9, .int o6_9, .int o7_9, .ref (va 6), .ref (va 7), .int o8_9, .int o9_9, .int o10_9, .ref (va 8), .ref (va 9), .long (vl 0), .ref (va 10), .ref (va 11), .ref (va 12), .ref (va 13), .ref (va 14), .ref (va 15), .ref (va 16), .ref (va 17), .ref (va 18), .ref (va 19)])), ((va 0), .inl ((vk 0), 1875, .inl o13_9)), ((va 1), .inl ((vk 1), 5625, .inl (vF 1))), ((va 2), .inl ((vk 2), 3, .inl (vF 2))), ((va 3), .inl ((vk 3), 20000, .inl o14_9)), ((va 4), .inl ((vk 4), 1200, .inl (vF 4))), ((va 5), .inl ((vk 5), 5, .inl (vF 5))), ((va 6), .inl ((vk 6), 1875, .inl o11_9)), ((va 7), .inl ((vk 7), 78, .inl o12_9)), ((va 8), .inl ((vk 8), 12, .inl o15_9)), ((va 9), .inl ((vk 9), 26, .inl o16_9)), ((va 10), .inl ((vk 10), 16, .inl (vF 10))), ((va 11), .inl ((vk 11), 20000, .inl (vF 11))), ((va 12), .inl ((vk 12), 20000, .inl (vF 12))), ((va 13), .inl ((vk 13), 12, .inl monthsF)), ((va 14), .inl ((vk 14), 201, .inr (.inl (vG 0)))), ((va 15), .inl ((vk 15), 201, .inr (.inl (vG 1)))), ((va 16), .inl ((vk 16), 4, .inl (vF 13))), ((va 17), .inl ((vk 17), 4, .inl (vF 14))), ((va 18), .inl ((vk 18), 240, .inr (.inl (vG 2)))), ((va 19), .inl ((vk 19), 60, .inr (.inl (vG 3))))] := va_Da hD rfl
  exact ⟨⟨r, (), ho, trivial, ⟨va, (up9 (up9 (up9 (up9 (up9 (up9 (up9 (up9 (up9 (up9 (up9 vz 1 (0 : Int32)) 2 (vz 1)) 3 o2_9) 4 o3_9) 5 o4_9) 6 o5_9) 7 o6_9) 8 o7_9) 9 o8_9) 10 o9_9) 11 o10_9), vl, vk, (up9 (up9 (up9 (up9 (up9 (up9 vF 0 o13_9) 3 o14_9) 6 o11_9) 7 o12_9) 8 o15_9) 9 o16_9), vG, (show (0 : Int) ≤ (vz 1).toInt ∧ (vz 1).toInt ≤ 1200 from b_x_td), (show (0 : Int) ≤ o2_9.toInt ∧ o2_9.toInt ≤ 1200 from b_o2_9), (show (0 : Int) ≤ o3_9.toInt ∧ o3_9.toInt ≤ 1200 from b_o3_9), (show (0 : Int) ≤ o4_9.toInt ∧ o4_9.toInt ≤ 6 from b_o4_9), (show (0 : Int) ≤ o6_9.toInt ∧ o6_9.toInt ≤ 3 from b_o6_9), (show (0 : Int) ≤ (0 : Int32).toInt ∧ (0 : Int32).toInt ≤ 1200 from (by decide)), (show GW o13_9 from by first | with_reducible assumption | omega), hgi, hgR9, (show rg o15_9 12 0 15 from by first | with_reducible assumption | assumption), ha_mma, ha_mwi, (show rg o16_9 26 0 1 from by first | with_reducible assumption | assumption), hP3, hK3, hD3⟩, by omega, hN.warm hW, hX.mv (fun a h1 h2 => hF.2 a h1 (fun z => h2 (hAn a (hFc a h1 z)))) hW.alike (fun _ _ _ _ q => vk_R.warm hW q), Nat.le_trans hn0 hF.1, fun q h => hA q (Nat.le_trans hF.1 h)⟩, hF.1, fun q h1 h2 => hF.2 q h1 (fun z => h2 (hFc q h1 z))⟩
set_option maxHeartbeats 4000000 in
set_option maxRecDepth 100000 in
theorem wX10_fault (l : Launch) (dC : Nat → ClassId) (dI : Nat → Nat → Nat) (gh : Nat → Int32) (AX : Nat → Prop) (tt nB o0 : Nat) (a1 : Int32) (hAn : ∀ q, AX q → nB ≤ q) : Met l yX10_fault uX10_fault ({ frames := 0, cells := 0, slots := 0, locals := 0 }) (va_Pc [.ref o0, .int a1] (PM dC dI gh AX tt nB o0)) (va_Qi (fun (r : Int32) (_ : Unit) => True) (fun (_ : Unit) t => PM dC dI gh AX tt nB o0 t) AX) 0 0 AX := by
  refine Met.via (fun a U hv => ?_)
  obtain ⟨rfl, hV⟩ := hv
  refine MI.elim hV.1 (fun va vz vl vk vF vG b_x_sz b_x_at b_x_fr b_x_to b_x_fk b_x_td hgw hgi hgR9 ha_mfg ha_mma ha_mwi ha_mpl hP hK hD => ?_)
  have htt0 := hV.2.1
  have hN := hV.2.2.1
  have hX := hV.2.2.2.1
  have hn0 := hV.2.2.2.2.1
  have hA := hV.2.2.2.2.2
  refine ⟨_, _, _, kX10_fault l dC dI o0 (vz 0) (va 0) (va 1) (va 2) (va 3) (va 4) (vz 1) (va 5) (vz 2) (vz 3) (vz 4) (vz 5) (vz 6) (vz 7) (vz 8) (va 6) (va 7) (vz 9) (vz 10) (vz 11) (va 8) (va 9) (vl 0) (va 10) (va 11) (va 12) (va 13) (va 14) (va 15) (va 16) (va 17) (va 18) (va 19) a1 , ⟨rfl, ⟨hP.sub [0] rfl, hK.sub [] rfl, hN⟩⟩, fun o t hq hW _ => ?_, fun q _ hq => hq.elim⟩
  obtain ⟨r, ho, hp, hh⟩ := hq
  exact ⟨⟨r, (), ho, trivial, PM_same hV hh hW⟩, by rw [hh]; exact Nat.le_refl _, fun q _ _ => by rw [hh]⟩
set_option maxHeartbeats 4000000 in
set_option maxRecDepth 100000 in
theorem wX10_figure (l : Launch) (dC : Nat → ClassId) (dI : Nat → Nat → Nat) (gh : Nat → Int32) (AX : Nat → Prop) (tt nB o0 : Nat) (a1 : Int32) (a2 : Int32) (hAn : ∀ q, AX q → nB ≤ q) : Met l yX10_figure uX10_figure ({ frames := 2, cells := 0, slots := 0, locals := 47 }) (va_Pc [.ref o0, .int a1, .int a2] (PM dC dI gh AX tt nB o0)) (va_Qi (fun (r : Int32) (_ : Unit) => True) (fun (_ : Unit) t => PM dC dI gh AX tt nB o0 t) AX) 0 0 AX := by
  refine Met.via (fun a U hv => ?_)
  obtain ⟨rfl, hV⟩ := hv
  refine MI.elim hV.1 (fun va vz vl vk vF vG b_x_sz b_x_at b_x_fr b_x_to b_x_fk b_x_td hgw hgi hgR9 ha_mfg ha_mma ha_mwi ha_mpl hP hK hD => ?_)
  have htt0 := hV.2.1
  have hN := hV.2.2.1
  have hX := hV.2.2.2.1
  have hn0 := hV.2.2.2.2.1
  have hA := hV.2.2.2.2.2
  obtain ⟨hgr, hwz, hpv, htp⟩ := id hgw
  obtain ⟨ln, hw0⟩ : ∃ y : Int32, (vF 0) 0 = y := ⟨_, rfl⟩
  obtain ⟨bs, hw1⟩ : ∃ y : Int32, (vF 0) 1 = y := ⟨_, rfl⟩
  obtain ⟨tk, hw2⟩ : ∃ y : Int32, (vF 0) 2 = y := ⟨_, rfl⟩
  obtain ⟨lw, hw3⟩ : ∃ y : Int32, (vF 0) 3 = y := ⟨_, rfl⟩
  obtain ⟨li, hw4⟩ : ∃ y : Int32, (vF 0) 4 = y := ⟨_, rfl⟩
  rw [hw0, hw1, hw2, hw3] at hgr hwz
  rw [hw0, hw1, hw2] at htp
  rw [hw3] at hpv
  obtain ⟨b_ln, b_bs, b_tk, b_lw⟩ := hgr
  have hFc : ∀ q : Nat, q < U.heap.size → va_A [(o0, .inr (8, [.int (vz 0), .ref (va 0), .ref (va 1), .ref (va 2), .ref (va 3), .ref (va 4), .int (vz 1), .ref (va 5), .int (vz 2), .int (vz 3), .int (vz 4), .int (vz 5), .int (vz 6), .int (vz 7), .int (vz 8), .ref (va 6), .ref (va 7), .int (vz 9), .int (vz 10), .int (vz 11), .ref (va 8), .ref (va 9), .long (vl 0), .ref (va 10), .ref (va 11), .ref (va 12), .ref (va 13), .ref (va 14), .ref (va 15), .ref (va 16), .ref (va 17), .ref (va 18), .ref (va 19)])), ((va 0), .inl ((vk 0), 1875, .inl (vF 0))), ((va 8), .inl ((vk 8), 12, .inl (vF 8)))] U.heap.size q → AX q := fun q h1 h2 => va_Ain (hD.sub (ws' := [(o0, .inr (8, [.int (vz 0), .ref (va 0), .ref (va 1), .ref (va 2), .ref (va 3), .ref (va 4), .int (vz 1), .ref (va 5), .int (vz 2), .int (vz 3), .int (vz 4), .int (vz 5), .int (vz 6), .int (vz 7), .int (vz 8), .ref (va 6), .ref (va 7), .int (vz 9), .int (vz 10), .int (vz 11), .ref (va 8), .ref (va 9), .long (vl 0), .ref (va 10), .ref (va 11), .ref (va 12), .ref (va 13), .ref (va 14), .ref (va 15), .ref (va 16), .ref (va 17), .ref (va 18), .ref (va 19)])), ((va 0), .inl ((vk 0), 1875, .inl (vF 0))), ((va 8), .inl ((vk 8), 12, .inl (vF 8)))]) [0, 1, 9] (by decide) rfl) h1 h2
  refine ⟨_, _, _, kX10_figure l dC dI o0 (vz 0) (va 0) (va 1) (va 2) (va 3) (va 4) (vz 1) (va 5) (vz 2) (vz 3) (vz 4) (vz 5) (vz 6) (vz 7) (vz 8) (va 6) (va 7) (vz 9) (vz 10) (vz 11) (va 8) (va 9) (vl 0) (va 10) (va 11) (va 12) (va 13) (va 14) (va 15) (va 16) (va 17) (va 18) (va 19) (vk 0) (vk 8) (vF 0) (vF 8) ln bs tk lw li a1 a2 U.heap.size b_ln b_bs b_tk b_lw ha_mfg (by first | with_reducible assumption | omega) (by first | with_reducible assumption | omega) (by first | with_reducible assumption | omega) (by first | with_reducible assumption | omega) (by first | with_reducible assumption | omega) (by first | with_reducible assumption | omega), ⟨rfl, ⟨rfl, hP.sub [0, 1, 9] rfl, hK.sub [0, 8] rfl, (hD.sub [0, 1, 9] (by decide) rfl).weaken (fun _ _ _ _ => trivial), hN⟩⟩, fun o t hq hW hts => ?_, fun q h1 h2 => hFc q h1 h2⟩
  have hF := hq.2
  have h9_0 := hq.1
  clear hq
  refine Exists.elim h9_0 (fun r h9_1 => ?_)
  clear h9_0
  refine Exists.elim h9_1 (fun u h9_2 => ?_)
  clear h9_1
  refine and_el h9_2 (fun ho h9_3 => ?_)
  clear h9_2
  refine and_el h9_3 (fun hp h9_4 => ?_)
  clear h9_3
  refine Exists.elim h9_4 (fun o0_9 h9_5 => ?_)
  clear h9_4
  refine and_el h9_5 (fun hf0 h9_6 => ?_)
  clear h9_5
  refine and_el h9_6 (fun hP1 h9_7 => ?_)
  clear h9_6
  refine and_el h9_7 (fun hK1 h9_8 => ?_)
  clear h9_7
  have hD1 := h9_8
  clear h9_8
  have hP2 := va_put9 [0, 1, 9] hP hD (by rfl) hF.2 hP1 (by exact Nat.le_of_ble_eq_true rfl)
  have hP3 : va_P (dC, dI) vwCl [(o0, .inr (8, [.int (vz 0), .ref (va 0), .ref (va 1), .ref (va 2), .ref (va 3), .ref (va 4), .int (vz 1), .ref (va 5), .int (vz 2), .int (vz 3), .int (vz 4), .int (vz 5), .int (vz 6), .int (vz 7), .int (vz 8), .ref (va 6), .ref (va 7), .int (vz 9), .int (vz 10), .int (vz 11), .ref (va 8), .ref (va 9), .long (vl 0), .ref (va 10), .ref (va 11), .ref (va 12), .ref (va 13), .ref (va 14), .ref (va 15), .ref (va 16), .ref (va 17), .ref (va 18), .ref (va 19)])), ((va 0), .inl ((vk 0), 1875, .inl (vF 0))), ((va 1), .inl ((vk 1), 5625, .inl (vF 1))), ((va 2), .inl ((vk 2), 3, .inl (vF 2))), ((va 3), .inl ((vk 3), 20000, .inl (vF 3))), ((va 4), .inl ((vk 4), 1200, .inl (vF 4))), ((va 5), .inl ((vk 5), 5, .inl (vF 5))), ((va 6), .inl ((vk 6), 1875, .inl (vF 6))), ((va 7), .inl ((vk 7), 78, .inl (vF 7))), ((va 8), .inl ((vk 8), 12, .inl o0_9)), ((va 9), .inl ((vk 9), 26, .inl (vF 9))), ((va 10), .inl ((vk 10), 16, .inl (vF 10))), ((va 11), .inl ((vk 11), 20000, .inl (vF 11))), ((va 12), .inl ((vk 12), 20000, .inl (vF 12))), ((va 13), .inl ((vk 13), 12, .inl monthsF)), ((va 14), .inl ((vk 14), 201, .inr (.inl (vG 0)))), ((va 15), .inl ((vk 15), 201, .inr (.inl (vG 1)))), ((va 16), .inl ((vk 16), 4, .inl (vF 13))), ((va 17), .inl ((vk 17), 4, .inl (vF 14))), ((va 18), .inl ((vk 18), 240, .inr (.inl (vG 2)))), ((va 19), .inl ((vk 19), 60, .inr (.inl (vG 3))))] t.heap := hP2
  have hK3 := va_K.moved hW.alike hK
  have hD3 : va_D AX [(o0, .inr (8, [.int (vz 0), .ref (va 0), .ref (va 1), .ref (va 2), .ref (va 3), .ref (va 4), .int (vz 1), .ref (va 5), .int (vz 2), .int (vz 3), .int (vz 4), .int (vz 5), .int (vz 6), .int (vz 7), .int (vz 8), .ref (va 6), .ref (va 7), .int (vz 9), .int (vz 10), .int (vz 11), .ref (va 8), .ref (va 9), .long (vl 0), .ref (va 10), .ref (va 11), .ref (va 12), .ref (va 13), .ref (va 14), .ref (va 15), .ref (va 16), .ref (va 17), .ref (va 18), .ref (va 19)])), ((va 0), .inl ((vk 0), 1875, .inl (vF 0))), ((va 1), .inl ((vk 1), 5625, .inl (vF 1))), ((va 2), .inl ((vk 2), 3, .inl (vF 2))), ((va 3), .inl ((vk 3), 20000, .inl (vF 3))), ((va 4), .inl ((vk 4), 1200, .inl (vF 4))), ((va 5), .inl ((vk 5), 5, .inl (vF 5))), ((va 6), .inl ((vk 6), 1875, .inl (vF 6))), ((va 7), .inl ((vk 7), 78, .inl (vF 7))), ((va 8), .inl ((vk 8), 12, .inl o0_9)), ((va 9), .inl ((vk 9), 26, .inl (vF 9))), ((va 10), .inl ((vk 10), 16, .inl (vF 10))), ((va 11), .inl ((vk 11), 20000, .inl (vF 11))), ((va 12), .inl ((vk 12), 20000, .inl (vF 12))), ((va 13), .inl ((vk 13), 12, .inl monthsF)), ((va 14), .inl ((vk 14), 201, .inr (.inl (vG 0)))), ((va 15), .inl ((vk 15), 201, .inr (.inl (vG 1)))), ((va 16), .inl ((vk 16), 4, .inl (vF 13))), ((va 17), .inl ((vk 17), 4, .inl (vF 14))), ((va 18), .inl ((vk 18), 240, .inr (.inl (vG 2)))), ((va 19), .inl ((vk 19), 60, .inr (.inl (vG 3))))] := va_Da hD rfl
  exact ⟨⟨r, (), ho, trivial, ⟨va, vz, vl, vk, (up9 vF 8 o0_9), vG, b_x_sz, b_x_at, b_x_fr, b_x_to, b_x_fk, b_x_td, hgw, hgi, hgR9, (show rg o0_9 12 0 15 from by first | with_reducible assumption | assumption), ha_mma, ha_mwi, ha_mpl, hP3, hK3, hD3⟩, by omega, hN.warm hW, hX.mv (fun a h1 h2 => hF.2 a h1 (fun z => h2 (hAn a (hFc a h1 z)))) hW.alike (fun _ _ _ _ q => vk_R.warm hW q), Nat.le_trans hn0 hF.1, fun q h => hA q (Nat.le_trans hF.1 h)⟩, hF.1, fun q h1 h2 => hF.2 q h1 (fun z => h2 (hFc q h1 z))⟩
set_option maxHeartbeats 4000000 in
set_option maxRecDepth 100000 in
theorem wX10_sums (l : Launch) (dC : Nat → ClassId) (dI : Nat → Nat → Nat) (gh : Nat → Int32) (AX : Nat → Prop) (tt nB o0 : Nat) (a1 : Int32) (a2 : Int32) (hAn : ∀ q, AX q → nB ≤ q) : Met l yX10_sums uX10_sums ({ frames := 2, cells := 0, slots := 0, locals := 47 }) (va_Pc [.ref o0, .int a1, .int a2] (PM dC dI gh AX tt nB o0)) (va_Qi (fun (r : Int32) (_ : Unit) => True) (fun (_ : Unit) t => PM dC dI gh AX tt nB o0 t) AX) 0 0 AX := by
  refine Met.via (fun a U hv => ?_)
  obtain ⟨rfl, hV⟩ := hv
  refine MI.elim hV.1 (fun va vz vl vk vF vG b_x_sz b_x_at b_x_fr b_x_to b_x_fk b_x_td hgw hgi hgR9 ha_mfg ha_mma ha_mwi ha_mpl hP hK hD => ?_)
  have htt0 := hV.2.1
  have hN := hV.2.2.1
  have hX := hV.2.2.2.1
  have hn0 := hV.2.2.2.2.1
  have hA := hV.2.2.2.2.2
  obtain ⟨hgr, hwz, hpv, htp⟩ := id hgw
  obtain ⟨ln, hw0⟩ : ∃ y : Int32, (vF 0) 0 = y := ⟨_, rfl⟩
  obtain ⟨bs, hw1⟩ : ∃ y : Int32, (vF 0) 1 = y := ⟨_, rfl⟩
  obtain ⟨tk, hw2⟩ : ∃ y : Int32, (vF 0) 2 = y := ⟨_, rfl⟩
  obtain ⟨lw, hw3⟩ : ∃ y : Int32, (vF 0) 3 = y := ⟨_, rfl⟩
  obtain ⟨li, hw4⟩ : ∃ y : Int32, (vF 0) 4 = y := ⟨_, rfl⟩
  rw [hw0, hw1, hw2, hw3] at hgr hwz
  rw [hw0, hw1, hw2] at htp
  rw [hw3] at hpv
  obtain ⟨b_ln, b_bs, b_tk, b_lw⟩ := hgr
  have hFc : ∀ q : Nat, q < U.heap.size → va_A [(o0, .inr (8, [.int (vz 0), .ref (va 0), .ref (va 1), .ref (va 2), .ref (va 3), .ref (va 4), .int (vz 1), .ref (va 5), .int (vz 2), .int (vz 3), .int (vz 4), .int (vz 5), .int (vz 6), .int (vz 7), .int (vz 8), .ref (va 6), .ref (va 7), .int (vz 9), .int (vz 10), .int (vz 11), .ref (va 8), .ref (va 9), .long (vl 0), .ref (va 10), .ref (va 11), .ref (va 12), .ref (va 13), .ref (va 14), .ref (va 15), .ref (va 16), .ref (va 17), .ref (va 18), .ref (va 19)])), ((va 0), .inl ((vk 0), 1875, .inl (vF 0))), ((va 8), .inl ((vk 8), 12, .inl (vF 8)))] U.heap.size q → AX q := fun q h1 h2 => va_Ain (hD.sub (ws' := [(o0, .inr (8, [.int (vz 0), .ref (va 0), .ref (va 1), .ref (va 2), .ref (va 3), .ref (va 4), .int (vz 1), .ref (va 5), .int (vz 2), .int (vz 3), .int (vz 4), .int (vz 5), .int (vz 6), .int (vz 7), .int (vz 8), .ref (va 6), .ref (va 7), .int (vz 9), .int (vz 10), .int (vz 11), .ref (va 8), .ref (va 9), .long (vl 0), .ref (va 10), .ref (va 11), .ref (va 12), .ref (va 13), .ref (va 14), .ref (va 15), .ref (va 16), .ref (va 17), .ref (va 18), .ref (va 19)])), ((va 0), .inl ((vk 0), 1875, .inl (vF 0))), ((va 8), .inl ((vk 8), 12, .inl (vF 8)))]) [0, 1, 9] (by decide) rfl) h1 h2
  refine ⟨_, _, _, kX10_sums l dC dI o0 (vz 0) (va 0) (va 1) (va 2) (va 3) (va 4) (vz 1) (va 5) (vz 2) (vz 3) (vz 4) (vz 5) (vz 6) (vz 7) (vz 8) (va 6) (va 7) (vz 9) (vz 10) (vz 11) (va 8) (va 9) (vl 0) (va 10) (va 11) (va 12) (va 13) (va 14) (va 15) (va 16) (va 17) (va 18) (va 19) (vk 0) (vk 8) (vF 0) (vF 8) ln bs tk lw li a1 a2 U.heap.size b_ln b_bs b_tk b_lw ha_mfg (by first | with_reducible assumption | omega) (by first | with_reducible assumption | omega) (by first | with_reducible assumption | omega) (by first | with_reducible assumption | omega) (by first | with_reducible assumption | omega) (by first | with_reducible assumption | omega), ⟨rfl, ⟨rfl, hP.sub [0, 1, 9] rfl, hK.sub [0, 8] rfl, (hD.sub [0, 1, 9] (by decide) rfl).weaken (fun _ _ _ _ => trivial), hN⟩⟩, fun o t hq hW hts => ?_, fun q h1 h2 => hFc q h1 h2⟩
  have hF := hq.2
  have h9_0 := hq.1
  clear hq
  refine Exists.elim h9_0 (fun r h9_1 => ?_)
  clear h9_0
  refine Exists.elim h9_1 (fun u h9_2 => ?_)
  clear h9_1
  refine and_el h9_2 (fun ho h9_3 => ?_)
  clear h9_2
  refine and_el h9_3 (fun hp h9_4 => ?_)
  clear h9_3
  refine Exists.elim h9_4 (fun o0_9 h9_5 => ?_)
  clear h9_4
  refine and_el h9_5 (fun hf0 h9_6 => ?_)
  clear h9_5
  refine and_el h9_6 (fun hP1 h9_7 => ?_)
  clear h9_6
  refine and_el h9_7 (fun hK1 h9_8 => ?_)
  clear h9_7
  have hD1 := h9_8
  clear h9_8
  have hP2 := va_put9 [0, 1, 9] hP hD (by rfl) hF.2 hP1 (by exact Nat.le_of_ble_eq_true rfl)
  have hP3 : va_P (dC, dI) vwCl [(o0, .inr (8, [.int (vz 0), .ref (va 0), .ref (va 1), .ref (va 2), .ref (va 3), .ref (va 4), .int (vz 1), .ref (va 5), .int (vz 2), .int (vz 3), .int (vz 4), .int (vz 5), .int (vz 6), .int (vz 7), .int (vz 8), .ref (va 6), .ref (va 7), .int (vz 9), .int (vz 10), .int (vz 11), .ref (va 8), .ref (va 9), .long (vl 0), .ref (va 10), .ref (va 11), .ref (va 12), .ref (va 13), .ref (va 14), .ref (va 15), .ref (va 16), .ref (va 17), .ref (va 18), .ref (va 19)])), ((va 0), .inl ((vk 0), 1875, .inl (vF 0))), ((va 1), .inl ((vk 1), 5625, .inl (vF 1))), ((va 2), .inl ((vk 2), 3, .inl (vF 2))), ((va 3), .inl ((vk 3), 20000, .inl (vF 3))), ((va 4), .inl ((vk 4), 1200, .inl (vF 4))), ((va 5), .inl ((vk 5), 5, .inl (vF 5))), ((va 6), .inl ((vk 6), 1875, .inl (vF 6))), ((va 7), .inl ((vk 7), 78, .inl (vF 7))), ((va 8), .inl ((vk 8), 12, .inl o0_9)), ((va 9), .inl ((vk 9), 26, .inl (vF 9))), ((va 10), .inl ((vk 10), 16, .inl (vF 10))), ((va 11), .inl ((vk 11), 20000, .inl (vF 11))), ((va 12), .inl ((vk 12), 20000, .inl (vF 12))), ((va 13), .inl ((vk 13), 12, .inl monthsF)), ((va 14), .inl ((vk 14), 201, .inr (.inl (vG 0)))), ((va 15), .inl ((vk 15), 201, .inr (.inl (vG 1)))), ((va 16), .inl ((vk 16), 4, .inl (vF 13))), ((va 17), .inl ((vk 17), 4, .inl (vF 14))), ((va 18), .inl ((vk 18), 240, .inr (.inl (vG 2)))), ((va 19), .inl ((vk 19), 60, .inr (.inl (vG 3))))] t.heap := hP2
  have hK3 := va_K.moved hW.alike hK
  have hD3 : va_D AX [(o0, .inr (8, [.int (vz 0), .ref (va 0), .ref (va 1), .ref (va 2), .ref (va 3), .ref (va 4), .int (vz 1), .ref (va 5), .int (vz 2), .int (vz 3), .int (vz 4), .int (vz 5), .int (vz 6), .int (vz 7), .int (vz 8), .ref (va 6), .ref (va 7), .int (vz 9), .int (vz 10), .int (vz 11), .ref (va 8), .ref (va 9), .long (vl 0), .ref (va 10), .ref (va 11), .ref (va 12), .ref (va 13), .ref (va 14), .ref (va 15), .ref (va 16), .ref (va 17), .ref (va 18), .ref (va 19)])), ((va 0), .inl ((vk 0), 1875, .inl (vF 0))), ((va 1), .inl ((vk 1), 5625, .inl (vF 1))), ((va 2), .inl ((vk 2), 3, .inl (vF 2))), ((va 3), .inl ((vk 3), 20000, .inl (vF 3))), ((va 4), .inl ((vk 4), 1200, .inl (vF 4))), ((va 5), .inl ((vk 5), 5, .inl (vF 5))), ((va 6), .inl ((vk 6), 1875, .inl (vF 6))), ((va 7), .inl ((vk 7), 78, .inl (vF 7))), ((va 8), .inl ((vk 8), 12, .inl o0_9)), ((va 9), .inl ((vk 9), 26, .inl (vF 9))), ((va 10), .inl ((vk 10), 16, .inl (vF 10))), ((va 11), .inl ((vk 11), 20000, .inl (vF 11))), ((va 12), .inl ((vk 12), 20000, .inl (vF 12))), ((va 13), .inl ((vk 13), 12, .inl monthsF)), ((va 14), .inl ((vk 14), 201, .inr (.inl (vG 0)))), ((va 15), .inl ((vk 15), 201, .inr (.inl (vG 1)))), ((va 16), .inl ((vk 16), 4, .inl (vF 13))), ((va 17), .inl ((vk 17), 4, .inl (vF 14))), ((va 18), .inl ((vk 18), 240, .inr (.inl (vG 2)))), ((va 19), .inl ((vk 19), 60, .inr (.inl (vG 3))))] := va_Da hD rfl
  exact ⟨⟨r, (), ho, trivial, ⟨va, vz, vl, vk, (up9 vF 8 o0_9), vG, b_x_sz, b_x_at, b_x_fr, b_x_to, b_x_fk, b_x_td, hgw, hgi, hgR9, (show rg o0_9 12 0 15 from by first | with_reducible assumption | assumption), ha_mma, ha_mwi, ha_mpl, hP3, hK3, hD3⟩, by omega, hN.warm hW, hX.mv (fun a h1 h2 => hF.2 a h1 (fun z => h2 (hAn a (hFc a h1 z)))) hW.alike (fun _ _ _ _ q => vk_R.warm hW q), Nat.le_trans hn0 hF.1, fun q h => hA q (Nat.le_trans hF.1 h)⟩, hF.1, fun q h1 h2 => hF.2 q h1 (fun z => h2 (hFc q h1 z))⟩
set_option maxHeartbeats 4000000 in
set_option maxRecDepth 100000 in
theorem wX10_lucky (l : Launch) (dC : Nat → ClassId) (dI : Nat → Nat → Nat) (gh : Nat → Int32) (AX : Nat → Prop) (tt nB o0 : Nat) (a1 : Int32) (a2 : Int32) (hAn : ∀ q, AX q → nB ≤ q) : Met l yX10_lucky uX10_lucky ({ frames := 3, cells := 0, slots := 0, locals := 69 }) (va_Pc [.ref o0, .int a1, .int a2] (PM dC dI gh AX tt nB o0)) (va_Qi (fun (r : Int32) (_ : Unit) => True) (fun (_ : Unit) t => PM dC dI gh AX tt nB o0 t) AX) 0 0 AX := by
  refine Met.via (fun a U hv => ?_)
  obtain ⟨rfl, hV⟩ := hv
  refine MI.elim hV.1 (fun va vz vl vk vF vG b_x_sz b_x_at b_x_fr b_x_to b_x_fk b_x_td hgw hgi hgR9 ha_mfg ha_mma ha_mwi ha_mpl hP hK hD => ?_)
  have htt0 := hV.2.1
  have hN := hV.2.2.1
  have hX := hV.2.2.2.1
  have hn0 := hV.2.2.2.2.1
  have hA := hV.2.2.2.2.2
  obtain ⟨hgr, hwz, hpv, htp⟩ := id hgw
  obtain ⟨ln, hw0⟩ : ∃ y : Int32, (vF 0) 0 = y := ⟨_, rfl⟩
  obtain ⟨bs, hw1⟩ : ∃ y : Int32, (vF 0) 1 = y := ⟨_, rfl⟩
  obtain ⟨tk, hw2⟩ : ∃ y : Int32, (vF 0) 2 = y := ⟨_, rfl⟩
  obtain ⟨lw, hw3⟩ : ∃ y : Int32, (vF 0) 3 = y := ⟨_, rfl⟩
  obtain ⟨li, hw4⟩ : ∃ y : Int32, (vF 0) 4 = y := ⟨_, rfl⟩
  rw [hw0, hw1, hw2, hw3] at hgr hwz
  rw [hw0, hw1, hw2] at htp
  rw [hw3] at hpv
  obtain ⟨b_ln, b_bs, b_tk, b_lw⟩ := hgr
  refine ⟨_, _, _, kX10_lucky l dC dI o0 (vz 0) (va 0) (va 1) (va 2) (va 3) (va 4) (vz 1) (va 5) (vz 2) (vz 3) (vz 4) (vz 5) (vz 6) (vz 7) (vz 8) (va 6) (va 7) (vz 9) (vz 10) (vz 11) (va 8) (va 9) (vl 0) (va 10) (va 11) (va 12) (va 13) (va 14) (va 15) (va 16) (va 17) (va 18) (va 19) (vk 0) (vk 3) (vF 0) (vF 3) ln bs tk lw li a1 a2 b_ln b_bs b_tk b_lw (by first | with_reducible assumption | omega) (by first | with_reducible assumption | omega) (by first | with_reducible assumption | omega) (by first | with_reducible assumption | omega) (by first | with_reducible assumption | omega) (by first | with_reducible assumption | omega), ⟨rfl, ⟨hP.sub [0, 1, 4] rfl, hK.sub [0, 3] rfl, hN⟩⟩, fun o t hq hW _ => ?_, fun q _ hq => hq.elim⟩
  obtain ⟨r, ho, hp, hh⟩ := hq
  exact ⟨⟨r, (), ho, trivial, PM_same hV hh hW⟩, by rw [hh]; exact Nat.le_refl _, fun q _ _ => by rw [hh]⟩
set_option maxHeartbeats 4000000 in
set_option maxRecDepth 100000 in
theorem wX10_laws (l : Launch) (dC : Nat → ClassId) (dI : Nat → Nat → Nat) (gh : Nat → Int32) (AX : Nat → Prop) (tt nB o0 : Nat) (a1 : Int32) (hAn : ∀ q, AX q → nB ≤ q) : Met l yX10_laws uX10_laws ({ frames := 2, cells := 0, slots := 0, locals := 47 }) (va_Pc [.ref o0, .int a1] (PM dC dI gh AX tt nB o0)) (va_Qi (fun (r : Int32) (_ : Unit) => True) (fun (_ : Unit) t => PM dC dI gh AX tt nB o0 t) AX) 0 0 AX := by
  refine Met.via (fun a U hv => ?_)
  obtain ⟨rfl, hV⟩ := hv
  refine MI.elim hV.1 (fun va vz vl vk vF vG b_x_sz b_x_at b_x_fr b_x_to b_x_fk b_x_td hgw hgi hgR9 ha_mfg ha_mma ha_mwi ha_mpl hP hK hD => ?_)
  have htt0 := hV.2.1
  have hN := hV.2.2.1
  have hX := hV.2.2.2.1
  have hn0 := hV.2.2.2.2.1
  have hA := hV.2.2.2.2.2
  obtain ⟨hgr, hwz, hpv, htp⟩ := id hgw
  obtain ⟨ln, hw0⟩ : ∃ y : Int32, (vF 0) 0 = y := ⟨_, rfl⟩
  obtain ⟨bs, hw1⟩ : ∃ y : Int32, (vF 0) 1 = y := ⟨_, rfl⟩
  obtain ⟨tk, hw2⟩ : ∃ y : Int32, (vF 0) 2 = y := ⟨_, rfl⟩
  obtain ⟨lw, hw3⟩ : ∃ y : Int32, (vF 0) 3 = y := ⟨_, rfl⟩
  obtain ⟨li, hw4⟩ : ∃ y : Int32, (vF 0) 4 = y := ⟨_, rfl⟩
  rw [hw0, hw1, hw2, hw3] at hgr hwz
  rw [hw0, hw1, hw2] at htp
  rw [hw3] at hpv
  obtain ⟨b_ln, b_bs, b_tk, b_lw⟩ := hgr
  refine ⟨_, _, _, kX10_laws l dC dI o0 (vz 0) (va 0) (va 1) (va 2) (va 3) (va 4) (vz 1) (va 5) (vz 2) (vz 3) (vz 4) (vz 5) (vz 6) (vz 7) (vz 8) (va 6) (va 7) (vz 9) (vz 10) (vz 11) (va 8) (va 9) (vl 0) (va 10) (va 11) (va 12) (va 13) (va 14) (va 15) (va 16) (va 17) (va 18) (va 19) (vk 0) (vk 3) (vF 0) (vF 3) ln bs tk lw li a1 b_ln b_bs b_tk b_lw (by first | with_reducible assumption | omega) (by first | with_reducible assumption | omega) (by first | with_reducible assumption | omega) (by first | with_reducible assumption | omega) (by first | with_reducible assumption | omega) (by first | with_reducible assumption | omega), ⟨rfl, ⟨hP.sub [0, 1, 4] rfl, hK.sub [0, 3] rfl, hN⟩⟩, fun o t hq hW _ => ?_, fun q _ hq => hq.elim⟩
  obtain ⟨r, ho, hp, hh⟩ := hq
  exact ⟨⟨r, (), ho, trivial, PM_same hV hh hW⟩, by rw [hh]; exact Nat.le_refl _, fun q _ _ => by rw [hh]⟩
