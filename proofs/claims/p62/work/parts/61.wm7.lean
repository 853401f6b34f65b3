set_option maxHeartbeats 4000000 in
set_option maxRecDepth 100000 in
theorem wX10_image (l : Launch) (dC : Nat → ClassId) (dI : Nat → Nat → Nat) (gh : Nat → Int32) (AX : Nat → Prop) (tt nB o0 : Nat) (a1 : Int32) (hAn : ∀ q, AX q → nB ≤ q) : Met l yX10_image uX10_image ({ frames := 1, cells := 0, slots := 0, locals := 25 }) (va_Pc [.ref o0, .int a1] (PM dC dI gh AX tt nB o0)) (va_Qi (fun (r : Int32) (_ : Unit) => True) (fun (_ : Unit) t => PM dC dI gh AX tt nB o0 t) AX) 0 0 AX := by
  refine Met.via (fun a U hv => ?_)
  obtain ⟨rfl, hV⟩ := hv
  refine MI.elim hV.1 (fun va vz vl vk vF vG b_x_sz b_x_at b_x_fr b_x_to b_x_fk b_x_td hgw hgi hgR9 ha_mfg ha_mma ha_mwi ha_mpl hP hK hD => ?_)
  have htt0 := hV.2.1
  have hN := hV.2.2.1
  have hX := hV.2.2.2.1
  have hn0 := hV.2.2.2.2.1
  have hA := hV.2.2.2.2.2
  have hFc : ∀ q : Nat, q < U.heap.size → va_A [(o0, .inr (8, [.int (vz 0), .ref (va 0), .ref (va 1), .ref (va 2), .ref (va 3), .ref (va 4), .int (vz 1), .ref (va 5), .int (vz 2), .int (vz 3), .int (vz 4), .int (vz 5), .int (vz 6), .int (vz 7), .int (vz 8), .ref (va 6), .ref (va 7), .int (vz 9), .int (vz 10), .int (vz 11), .ref (va 8), .ref (va 9), .long (vl 0), .ref (va 10), .ref (va 11), .ref (va 12), .ref (va 13), .ref (va 14), .ref (va 15), .ref (va 16), .ref (va 17), .ref (va 18), .ref (va 19)])), ((va 0), .inl ((vk 0), 1875, .inl (vF 0))), ((va 1), .inl ((vk 1), 5625, .inl (vF 1))), ((va 2), .inl ((vk 2), 3, .inl (vF 2)))] U.heap.size q → AX q := fun q h1 h2 => va_Ain (hD.sub (ws' := [(o0, .inr (8, [.int (vz 0), .ref (va 0), .ref (va 1), .ref (va 2), .ref (va 3), .ref (va 4), .int (vz 1), .ref (va 5), .int (vz 2), .int (vz 3), .int (vz 4), .int (vz 5), .int (vz 6), .int (vz 7), .int (vz 8), .ref (va 6), .ref (va 7), .int (vz 9), .int (vz 10), .int (vz 11), .ref (va 8), .ref (va 9), .long (vl 0), .ref (va 10), .ref (va 11), .ref (va 12), .ref (va 13), .ref (va 14), .ref (va 15), .ref (va 16), .ref (va 17), .ref (va 18), .ref (va 19)])), ((va 0), .inl ((vk 0), 1875, .inl (vF 0))), ((va 1), .inl ((vk 1), 5625, .inl (vF 1))), ((va 2), .inl ((vk 2), 3, .inl (vF 2)))]) [0, 1, 2, 3] (by decide) rfl) h1 h2
  refine ⟨_, _, _, kX10_image l dC dI o0 (vz 0) (va 0) (va 1) (va 2) (va 3) (va 4) (vz 1) (va 5) (vz 2) (vz 3) (vz 4) (vz 5) (vz 6) (vz 7) (vz 8) (va 6) (va 7) (vz 9) (vz 10) (vz 11) (va 8) (va 9) (vl 0) (va 10) (va 11) (va 12) (va 13) (va 14) (va 15) (va 16) (va 17) (va 18) (va 19) (vk 0) (vk 1) (vk 2) (vF 0) (vF 1) (vF 2) a1 U.heap.size (by first | with_reducible assumption | omega) (by first | with_reducible assumption | omega), ⟨rfl, ⟨rfl, hP.sub [0, 1, 2, 3] rfl, hK.sub [0, 1, 2] rfl, (hD.sub [0, 1, 2, 3] (by decide) rfl).weaken (fun _ _ _ _ => trivial), hN⟩⟩, fun o t hq hW hts => ?_, fun q h1 h2 => hFc q h1 h2⟩
  have hF := hq.2
  have h9_0 := hq.1
  clear hq
  refine Exists.elim h9_0 (fun r h9_1 => ?_)
  clear h9_0
  refine Exists.elim h9_1 (fun u h9_2 => ?_)
  clear h9_1
  refine and_el h9_2 (fun ho h9_3 => ?_)
  clear h9_2
  refine and_el h9_3 (fun hp h9_4 => ?_)
  clear h9_3
  refine Exists.elim h9_4 (fun o0_9 h9_5 => ?_)
  clear h9_4
  refine Exists.elim h9_5 (fun o1_9 h9_6 => ?_)
  clear h9_5
  refine and_el h9_6 (fun hf0 h9_7 => ?_)
  clear h9_6
  refine and_el h9_7 (fun hP1 h9_8 => ?_)
  clear h9_7
  refine and_el h9_8 (fun hK1 h9_9 => ?_)
  clear h9_8
  have hD1 := h9_9
  clear h9_9
  have hP2 := va_put9 [0, 1, 2, 3] hP hD (by rfl) hF.2 hP1 (by exact Nat.le_of_ble_eq_true rfl)
  have hP3 : va_P (dC, dI) vwCl [(o0, .inr (8, [.int (vz 0), .ref (va 0), .ref (va 1), .ref (va 2), .ref (va 3), .ref (va 4), .int (vz 1), .ref (va 5), .int (vz 2), .int (vz 3), .int (vz 4), .int (vz 5), .int (vz 6), .int (vz 7), .int (vz 8), .ref (va 6), .ref (va 7), .int (vz 9), .int (vz 10), .int (vz 11), .ref (va 8), .ref (va 9), .long (vl 0), .ref (va 10), .ref (va 11), .ref (va 12), .ref (va 13), .ref (va 14), .ref (va 15), .ref (va 16), .ref (va 17), .ref (va 18), .ref (va 19)])), ((va 0), .inl ((vk 0), 1875, .inl (vF 0))), ((va 1), .inl ((vk 1), 5625, .inl o0_9)), ((va 2), .inl ((vk 2), 3, .inl o1_9)), ((va 3), .inl ((vk 3), 20000, .inl (vF 3))), ((va 4), .inl ((vk 4), 1200, .inl (vF 4))), ((va 5), .inl ((vk 5), 5, .inl (vF 5))), ((va 6), .inl ((vk 6), 1875, .inl (vF 6))), ((va 7), .inl ((vk 7), 78, .inl (vF 7))), ((va 8), .inl ((vk 8), 12, .inl (vF 8))), ((va 9), .inl ((vk 9), 26, .inl (vF 9))), ((va 10), .inl ((vk 10), 16, .inl (vF 10))), ((va 11), .inl ((vk 11), 20000, .inl (vF 11))), ((va 12), .inl ((vk 12), 20000, .inl (vF 12))), ((va 13), .inl ((vk 13), 12, .inl monthsF)), ((va 14), .inl ((vk 14), 201, .inr (.inl (vG 0)))), ((va 15), .inl ((vk 15), 201, .inr (.inl (vG 1)))), ((va 16), .inl ((vk 16), 4, .inl (vF 13))), ((va 17), .inl ((vk 17), 4, .inl (vF 14))), ((va 18), .inl ((vk 18), 240, .inr (.inl (vG 2)))), ((va 19), .inl ((vk 19), 60, .inr (.inl (vG 3))))] t.heap := hP2
  have hK3 := va_K.moved hW.alike hK
  have hD3 : va_D AX [(o0, .inr (8, [.int (vz 0), .ref (va 0), .ref (va 1), .ref (va 2), .ref (va 3), .ref (va 4), .int (vz 1), .ref (va 5), .int (vz 2), .int (vz 3), .int (vz 4), .int (vz 5), .int (vz 6), .int (vz 7), .int (vz 8), .ref (va 6), .ref (va 7), .int (vz 9), .int (vz 10), .int (vz 11), .ref (va 8), .ref (va 9), .long (vl 0), .ref (va 10), .ref (va 11), .ref (va 12), .ref (va 13), .ref (va 14), .ref (va 15), .ref (va 16), .ref (va 17), .ref (va 18), .ref (va 19)])), ((va 0), .inl ((vk 0), 1875, .inl (vF 0))), ((va 1), .inl ((vk 1), 5625, .inl o0_9)), ((va 2), .inl ((vk 2), 3, .inl o1_9)), ((va 3), .inl ((vk 3), 20000, .inl (vF 3))), ((va 4), .inl ((vk 4), 1200, .inl (vF 4))), ((va 5), .inl ((vk 5), 5, .inl (vF 5))), ((va 6), .inl ((vk 6), 1875, .inl (vF 6))), ((va 7), .inl ((vk 7), 78, .inl (vF 7))), ((va 8), .inl ((vk 8), 12, .inl (vF 8))), ((va 9), .inl ((vk 9), 26, .inl (vF 9))), ((va 10), .inl ((vk 10), 16, .inl (vF 10))), ((va 11), .inl ((vk 11), 20000, .inl (vF 11))), ((va 12), .inl ((vk 12), 20000, .inl (vF 12))), ((va 13), .inl ((vk 13), 12, .inl monthsF)), ((va 14), .inl ((vk 14), 201, .inr (.inl (vG 0)))), ((va 15), .inl ((vk 15), 201, .inr (.inl (vG 1)))), ((va 16), .inl ((vk 16), 4, .inl (vF 13))), ((va 17), .inl ((vk 17), 4, .inl (vF 14))), ((va 18), .inl ((vk 18), 240, .inr (.inl (vG 2)))), ((va 19), .inl ((vk 19), 60, .inr (.inl (vG 3))))] := va_Da hD rfl
  exact ⟨⟨r, (), ho, trivial, ⟨va, vz, vl, vk, (up9 (up9 vF 1 o0_9) 2 o1_9), vG, b_x_sz, b_x_at, b_x_fr, b_x_to, b_x_fk, b_x_td, hgw, (show GI o0_9 o1_9 from by first | with_reducible assumption | omega), hgR9, ha_mfg, ha_mma, ha_mwi, ha_mpl, hP3, hK3, hD3⟩, by omega, hN.warm hW, hX.mv (fun a h1 h2 => hF.2 a h1 (fun z => h2 (hAn a (hFc a h1 z)))) hW.alike (fun _ _ _ _ q => vk_R.warm hW q), Nat.le_trans hn0 hF.1, fun q h => hA q (Nat.le_trans hF.1 h)⟩, hF.1, fun q h1 h2 => hF.2 q h1 (fun z => h2 (hFc q h1 z))⟩
set_option maxHeartbeats 4000000 in
set_option maxRecDepth 100000 in
theorem wX10_back (l : Launch) (dC : Nat → ClassId) (dI : Nat → Nat → Nat) (gh : Nat → Int32) (AX : Nat → Prop) (tt nB o0 : Nat) (a1 : Int32) (hAn : ∀ q, AX q → nB ≤ q) : Met l yX10_back uX10_back ({ frames := 5, cells := 0, slots := 0, locals := 112 }) (va_Pc [.ref o0, .int a1] (PM dC dI gh AX tt nB o0)) (va_Qi (fun (r : Int32) (_ : Unit) => True) (fun (_ : Unit) t => PM dC dI gh AX tt nB o0 t) AX) 0 0 AX := by
  refine Met.via (fun a U hv => ?_)
  obtain ⟨rfl, hV⟩ := hv
  refine MI.elim hV.1 (fun va vz vl vk vF vG b_x_sz b_x_at b_x_fr b_x_to b_x_fk b_x_td hgw hgi hgR9 ha_mfg ha_mma ha_mwi ha_mpl hP hK hD => ?_)
  have htt0 := hV.2.1
  have hN := hV.2.2.1
  have hX := hV.2.2.2.1
  have hn0 := hV.2.2.2.2.1
  have hA := hV.2.2.2.2.2
  have hFc : ∀ q : Nat, q < U.heap.size → va_A [(o0, .inr (8, [.int (vz 0), .ref (va 0), .ref (va 1), .ref (va 2), .ref (va 3), .ref (va 4), .int (vz 1), .ref (va 5), .int (vz 2), .int (vz 3), .int (vz 4), .int (vz 5), .int (vz 6), .int (vz 7), .int (vz 8), .ref (va 6), .ref (va 7), .int (vz 9), .int (vz 10), .int (vz 11), .ref (va 8), .ref (va 9), .long (vl 0), .ref (va 10), .ref (va 11), .ref (va 12), .ref (va 13), .ref (va 14), .ref (va 15), .ref (va 16), .ref (va 17), .ref (va 18), .ref (va 19)])), ((va 0), .inl ((vk 0), 1875, .inl (vF 0))), ((va 1), .inl ((vk 1), 5625, .inl (vF 1))), ((va 2), .inl ((vk 2), 3, .inl (vF 2))), ((va 3), .inl ((vk 3), 20000, .inl (vF 3))), ((va 8), .inl ((vk 8), 12, .inl (vF 8))), ((va 9), .inl ((vk 9), 26, .inl (vF 9)))] U.heap.size q → AX q := fun q h1 h2 => va_Ain (hD.sub (ws' := [(o0, .inr (8, [.int (vz 0), .ref (va 0), .ref (va 1), .ref (va 2), .ref (va 3), .ref (va 4), .int (vz 1), .ref (va 5), .int (vz 2), .int (vz 3), .int (vz 4), .int (vz 5), .int (vz 6), .int (vz 7), .int (vz 8), .ref (va 6), .ref (va 7), .int (vz 9), .int (vz 10), .int (vz 11), .ref (va 8), .ref (va 9), .long (vl 0), .ref (va 10), .ref (va 11), .ref (va 12), .ref (va 13), .ref (va 14), .ref (va 15), .ref (va 16), .ref (va 17), .ref (va 18), .ref (va 19)])), ((va 0), .inl ((vk 0), 1875, .inl (vF 0))), ((va 1), .inl ((vk 1), 5625, .inl (vF 1))), ((va 2), .inl ((vk 2), 3, .inl (vF 2))), ((va 3), .inl ((vk 3), 20000, .inl (vF 3))), ((va 8), .inl ((vk 8), 12, .inl (vF 8))), ((va 9), .inl ((vk 9), 26, .inl (vF 9)))]) [0, 1, 2, 3, 4, 9, 10] (by decide) rfl) h1 h2
  refine ⟨_, _, _, kX10_back l dC dI o0 (vz 0) (va 0) (va 1) (va 2) (va 3) (va 4) (vz 1) (va 5) (vz 2) (vz 3) (vz 4) (vz 5) (vz 6) (vz 7) (vz 8) (va 6) (va 7) (vz 9) (vz 10) (vz 11) (va 8) (va 9) (vl 0) (va 10) (va 11) (va 12) (va 13) (va 14) (va 15) (va 16) (va 17) (va 18) (va 19) (vk 0) (vk 1) (vk 2) (vk 3) (vk 8) (vk 9) (vF 0) (vF 1) (vF 2) (vF 3) (vF 8) (vF 9) a1 U.heap.size ha_mfg ha_mpl (by first | with_reducible assumption | omega) (by first | with_reducible assumption | omega), ⟨rfl, ⟨rfl, hP.sub [0, 1, 2, 3, 4, 9, 10] rfl, hK.sub [0, 1, 2, 3, 8, 9] rfl, (hD.sub [0, 1, 2, 3, 4, 9, 10] (by decide) rfl).weaken (fun _ _ _ _ => trivial), hN⟩⟩, fun o t hq hW hts => ?_, fun q h1 h2 => hFc q h1 h2⟩
  have hF := hq.2
  have h9_0 := hq.1
  clear hq
  refine Exists.elim h9_0 (fun r h9_1 => ?_)
  clear h9_0
  refine Exists.elim h9_1 (fun u h9_2 => ?_)
  clear h9_1
  refine and_el h9_2 (fun ho h9_3 => ?_)
  clear h9_2
  refine and_el h9_3 (fun hp h9_4 => ?_)
  clear h9_3
  refine Exists.elim h9_4 (fun o0_9 h9_5 => ?_)
  clear h9_4
  refine Exists.elim h9_5 (fun o1_9 h9_6 => ?_)
  clear h9_5
  refine Exists.elim h9_6 (fun o2_9 h9_7 => ?_)
  clear h9_6
  refine Exists.elim h9_7 (fun o3_9 h9_8 => ?_)
  clear h9_7
  refine and_el h9_8 (fun hf0 h9_9 => ?_)
  clear h9_8
  refine and_el h9_9 (fun hf1 h9_10 => ?_)
  clear h9_9
  refine and_el h9_10 (fun hf2 h9_11 => ?_)
  clear h9_10
  refine and_el h9_11 (fun hP1 h9_12 => ?_)
  clear h9_11
  refine and_el h9_12 (fun hK1 h9_13 => ?_)
  clear h9_12
  have hD1 := h9_13
  clear h9_13
  have hP2 := va_put9 [0, 1, 2, 3, 4, 9, 10] hP hD (by rfl) hF.2 hP1 (by exact Nat.le_of_ble_eq_true rfl)
  have hP3 : va_P (dC, dI) vwCl [(o0, .inr (8, [.int (vz 0), .ref (va 0), .ref (va 1), .ref (va 2), .ref (va 3), .ref (va 4), .int (vz 1), .ref (va 5), .int (vz 2), .int (vz 3), .int (vz 4), .int (vz 5), .int (vz 6), .int (vz 7), .int (vz 8), .ref (va 6), .ref (va 7), .int (vz 9), .int (vz 10), .int (vz 11), .ref (va 8), .ref (va 9), .long (vl 0), .ref (va 10), .ref (va 11), .ref (va 12), .ref (va 13), .ref (va 14), .ref (va 15), .ref (va 16), .ref (va 17), .ref (va 18), .ref (va 19)])), ((va 0), .inl ((vk 0), 1875, .inl o0_9)), ((va 1), .inl ((vk 1), 5625, .inl (vF 1))), ((va 2), .inl ((vk 2), 3, .inl (vF 2))), ((va 3), .inl ((vk 3), 20000, .inl o1_9)), ((va 4), .inl ((vk 4), 1200, .inl (vF 4))), ((va 5), .inl ((vk 5), 5, .inl (vF 5))), ((va 6), .inl ((vk 6), 1875, .inl (vF 6))), ((va 7), .inl ((vk 7), 78, .inl (vF 7))), ((va 8), .inl ((vk 8), 12, .inl o2_9)), ((va 9), .inl ((vk 9), 26, .inl o3_9)), ((va 10), .inl ((vk 10), 16, .inl (vF 10))), ((va 11), .inl ((vk 11), 20000, .inl (vF 11))), ((va 12), .inl ((vk 12), 20000, .inl (vF 12))), ((va 13), .inl ((vk 13), 12, .inl monthsF)), ((va 14), .inl ((vk 14), 201, .inr (.inl (vG 0)))), ((va 15), .inl ((vk 15), 201, .inr (.inl (vG 1)))), ((va 16), .inl ((vk 16), 4, .inl (vF 13))), ((va 17), .inl ((vk 17), 4, .inl (vF 14))), ((va 18), .inl ((vk 18), 240, .inr (.inl (vG 2)))), ((va 19), .inl ((vk 19), 60, .inr (.inl (vG 3))))] t.heap := hP2
  have hK3 := va_K.moved hW.alike hK
  have hD3 : va_D AX [(o0, .inr (8, [.int (vz 0), .ref (va 0), .ref (va 1), .ref (va 2), .ref (va 3), .ref (va 4), .int (vz 1), .ref (va 5), .int (vz 2), .int (vz 3), .int (vz 4), .int (vz 5), .int (vz 6), .int (vz 7), .int (vz 8), .ref (va 6), .ref (va 7), .int (vz 9), .int (vz 10), .int (vz 11), .ref (va 8), .ref (va 9), .long (vl 0), .ref (va 10), .ref (va 11), .ref (va 12), .ref (va 13), .ref (va 14), .ref (va 15), .ref (va 16), .ref (va 17), .ref (va 18), .ref (va 19)])), ((va 0), .inl ((vk 0), 1875, .inl o0_9)), ((va 1), .inl ((vk 1), 5625, .inl (vF 1))), ((va 2), .inl ((vk 2), 3, .inl (vF 2))), ((va 3), .inl ((vk 3), 20000, .inl o1_9)), ((va 4), .inl ((vk 4), 1200, .inl (vF 4))), ((va 5), .inl ((vk 5), 5, .inl (vF 5))), ((va 6), .inl ((vk 6), 1875, .inl (vF 6))), ((va 7), .inl ((vk 7), 78, .inl (vF 7))), ((va 8), .inl ((vk 8), 12, .inl o2_9)), ((va 9), .inl ((vk 9), 26, .inl o3_9)), ((va 10), .inl ((vk 10), 16, .inl (vF 10))), ((va 11), .inl ((vk 11), 20000, .inl (vF 11))), ((va 12), .inl ((vk 12), 20000, .inl (vF 12))), ((va 13), .inl ((vk 13), 12, .inl monthsF)), ((va 14), .inl ((vk 14), 201, .inr (.inl (vG 0)))), ((va 15), .inl ((vk 15), 201, .inr (.inl (vG 1)))), ((va 16), .inl ((vk 16), 4, .inl (vF 13))), ((va 17), .inl ((vk 17), 4, .inl (vF 14))), ((va 18), .inl ((vk 18), 240, .inr (.inl (vG 2)))), ((va 19), .inl ((vk 19), 60, .inr (.inl (vG 3))))] := va_Da hD rfl
  exact ⟨⟨r, (), ho, trivial, ⟨va, vz, vl, vk, (up9 (up9 (up9 (up9 vF 0 o0_9) 3 o1_9) 8 o2_9) 9 o3_9), vG, b_x_sz, b_x_at, b_x_fr, b_x_to, b_x_fk, b_x_td, (show GW o0_9 from by first | with_reducible assumption | omega), hgi, hgR9, (show rg o2_9 12 0 15 from by first | with_reducible assumption | assumption), ha_mma, ha_mwi, (show rg o3_9 26 0 1 from by first | with_reducible assumption | assumption), hP3, hK3, hD3⟩, by omega, hN.warm hW, hX.mv (fun a h1 h2 => hF.2 a h1 (fun z => h2 (hAn a (hFc a h1 z)))) hW.alike (fun _ _ _ _ q => vk_R.warm hW q), Nat.le_trans hn0 hF.1, fun q h => hA q (Nat.le_trans hF.1 h)⟩, hF.1, fun q h1 h2 => hF.2 q h1 (fun z => h2 (hFc q h1 z))⟩
set_option maxHeartbeats 4000000 in
set_option maxRecDepth 100000 in
theorem wX10_row (l : Launch) (dC : Nat → ClassId) (dI : Nat → Nat → Nat) (gh : Nat → Int32) (AX : Nat → Prop) (tt nB o0 : Nat) (a1 : Int32) (a2 : Int32) (a3 : Int32) (hAn : ∀ q, AX q → nB ≤ q) : Met l yX10_row uX10_rowG ({ frames := 2, cells := 0, slots := 0, locals := 45 }) (va_Pc [.ref o0, .int a1, .int a2, .int a3] (PM dC dI gh AX tt nB o0)) (va_Qi (fun (r : Int32) (_ : Unit) => True) (fun (_ : Unit) t => PM dC dI (rwG gh a1 a2 a3) AX tt nB o0 t) AX) 0 0 AX := by
  refine Met.via (fun a U hv => ?_)
  obtain ⟨rfl, hV⟩ := hv
  refine MI.elim hV.1 (fun va vz vl vk vF vG b_x_sz b_x_at b_x_fr b_x_to b_x_fk b_x_td hgw hgi hgR9 ha_mfg ha_mma ha_mwi ha_mpl hP hK hD => ?_)
  have htt0 := hV.2.1
  have hN := hV.2.2.1
  have hX := hV.2.2.2.1
  have hn0 := hV.2.2.2.2.1
  have hA := hV.2.2.2.2.2
  have hFc : ∀ q : Nat, q < U.heap.size → va_A [(o0, .inr (8, [.int (vz 0), .ref (va 0), .ref (va 1), .ref (va 2), .ref (va 3), .ref (va 4), .int (vz 1), .ref (va 5), .int (vz 2), .int (vz 3), .int (vz 4), .int (vz 5), .int (vz 6), .int (vz 7), .int (vz 8), .ref (va 6), .ref (va 7), .int (vz 9), .int (vz 10), .int (vz 11), .ref (va 8), .ref (va 9), .long (vl 0), .ref (va 10), .ref (va 11), .ref (va 12), .ref (va 13), .ref (va 14), .ref (va 15), .ref (va 16), .ref (va 17), .ref (va 18), .ref (va 19)])), ((va 16), .inl ((vk 16), 4, .inl (vF 13))), ((va 17), .inl ((vk 17), 4, .inl (vF 14))), ((va 18), .inl ((vk 18), 240, .inr (.inl (vG 2))))] U.heap.size q → AX q := fun q h1 h2 => va_Ain (hD.sub (ws' := [(o0, .inr (8, [.int (vz 0), .ref (va 0), .ref (va 1), .ref (va 2), .ref (va 3), .ref (va 4), .int (vz 1), .ref (va 5), .int (vz 2), .int (vz 3), .int (vz 4), .int (vz 5), .int (vz 6), .int (vz 7), .int (vz 8), .ref (va 6), .ref (va 7), .int (vz 9), .int (vz 10), .int (vz 11), .ref (va 8), .ref (va 9), .long (vl 0), .ref (va 10), .ref (va 11), .ref (va 12), .ref (va 13), .ref (va 14), .ref (va 15), .ref (va 16), .ref (va 17), .ref (va 18), .ref (va 19)])), ((va 16), .inl ((vk 16), 4, .inl (vF 13))), ((va 17), .inl ((vk 17), 4, .inl (vF 14))), ((va 18), .inl ((vk 18), 240, .inr (.inl (vG 2))))]) [0, 17, 18, 19] (by decide) rfl) h1 h2
  refine ⟨_, _, _, kX10_rowG l dC dI o0 (vz 0) (va 0) (va 1) (va 2) (va 3) (va 4) (vz 1) (va 5) (vz 2) (vz 3) (vz 4) (vz 5) (vz 6) (vz 7) (vz 8) (va 6) (va 7) (vz 9) (vz 10) (vz 11) (va 8) (va 9) (vl 0) (va 10) (va 11) (va 12) (va 13) (va 14) (va 15) (va 16) (va 17) (va 18) (va 19) (vk 16) (vk 17) (vk 18) (vF 13) (vF 14) (vG 2) gh a1 a2 a3 U.heap.size ha_mma ha_mwi (by first | with_reducible assumption | omega), ⟨rfl, ⟨rfl, hP.sub [0, 17, 18, 19] rfl, hK.sub [16, 17, 18] rfl, (hD.sub [0, 17, 18, 19] (by decide) rfl).weaken (fun _ _ _ _ => trivial), hN⟩⟩, fun o t hq hW hts => ?_, fun q h1 h2 => hFc q h1 h2⟩
  have hF := hq.2
  have h9_0 := hq.1
  clear hq
  refine Exists.elim h9_0 (fun r h9_1 => ?_)
  clear h9_0
  refine Exists.elim h9_1 (fun u h9_2 => ?_)
  clear h9_1
  refine and_el h9_2 (fun ho h9_3 => ?_)
  clear h9_2
  refine and_el h9_3 (fun hp h9_4 => ?_)
  clear h9_3
  refine Exists.elim h9_4 (fun o0_9 h9_5 => ?_)
  clear h9_4
  refine Exists.elim h9_5 (fun o1_9 h9_6 => ?_)
  clear h9_5
  refine Exists.elim h9_6 (fun o2_9 h9_7 => ?_)
  clear h9_6
  refine and_el h9_7 (fun hf0 h9_8 => ?_)
  clear h9_7
  refine and_el h9_8 (fun hf1 h9_9 => ?_)
  clear h9_8
  refine and_el h9_9 (fun hf2 h9_10 => ?_)
  clear h9_9
  refine and_el h9_10 (fun hP1 h9_11 => ?_)
  clear h9_10
  refine and_el h9_11 (fun hK1 h9_12 => ?_)
  clear h9_11
  have hD1 := h9_12
  clear h9_12
  have hP2 := va_put9 [0, 17, 18, 19] hP hD (by rfl) hF.2 hP1 (by exact Nat.le_of_ble_eq_true rfl)
  have hP3 : va_P (dC, dI) vwCl [(o0, .inr (8, [.int (vz 0), .ref (va 0), .ref (va 1), .ref (va 2), .ref (va 3), .ref (va 4), .int (vz 1), .ref (va 5), .int (vz 2), .int (vz 3), .int (vz 4), .int (vz 5), .int (vz 6), .int (vz 7), .int (vz 8), .ref (va 6), .ref (va 7), .int (vz 9), .int (vz 10), .int (vz 11), .ref (va 8), .ref (va 9), .long (vl 0), .ref (va 10), .ref (va 11), .ref (va 12), .ref (va 13), .ref (va 14), .ref (va 15), .ref (va 16), .ref (va 17), .ref (va 18), .ref (va 19)])), ((va 0), .inl ((vk 0), 1875, .inl (vF 0))), ((va 1), .inl ((vk 1), 5625, .inl (vF 1))), ((va 2), .inl ((vk 2), 3, .inl (vF 2))), ((va 3), .inl ((vk 3), 20000, .inl (vF 3))), ((va 4), .inl ((vk 4), 1200, .inl (vF 4))), ((va 5), .inl ((vk 5), 5, .inl (vF 5))), ((va 6), .inl ((vk 6), 1875, .inl (vF 6))), ((va 7), .inl ((vk 7), 78, .inl (vF 7))), ((va 8), .inl ((vk 8), 12, .inl (vF 8))), ((va 9), .inl ((vk 9), 26, .inl (vF 9))), ((va 10), .inl ((vk 10), 16, .inl (vF 10))), ((va 11), .inl ((vk 11), 20000, .inl (vF 11))), ((va 12), .inl ((vk 12), 20000, .inl (vF 12))), ((va 13), .inl ((vk 13), 12, .inl monthsF)), ((va 14), .inl ((vk 14), 201, .inr (.inl (vG 0)))), ((va 15), .inl ((vk 15), 201, .inr (.inl (vG 1)))), ((va 16), .inl ((vk 16), 4, .inl o0_9)), ((va 17), .inl ((vk 17), 4, .inl o1_9)), ((va 18), .inl ((vk 18), 240, .inr (.inl o2_9))), ((va 19), .inl ((vk 19), 60, .inr (.inl (vG 3))))] t.heap := hP2
  have hK3 := va_K.moved hW.alike hK
  have hD3 : va_D AX [(o0, .inr (8, [.int (vz 0), .ref (va 0), .ref (va 1), .ref (va 2), .ref (va 3), .ref (va 4), .int (vz 1), .ref (va 5), .int (vz 2), .int (vz 3), .int (vz 4), .int (vz 5), .int (vz 6), .int (vz 7), .int (vz 8), .ref (va 6), .ref (va 7), .int (vz 9), .int (vz 10), .int (vz 11), .ref (va 8), .ref (va 9), .long (vl 0), .ref (va 10), .ref (va 11), .ref (va 12), .ref (va 13), .ref (va 14), .ref (va 15), .ref (va 16), .ref (va 17), .ref (va 18), .ref (va 19)])), ((va 0), .inl ((vk 0), 1875, .inl (vF 0))), ((va 1), .inl ((vk 1), 5625, .inl (vF 1))), ((va 2), .inl ((vk 2), 3, .inl (vF 2))), ((va 3), .inl ((vk 3), 20000, .inl (vF 3))), ((va 4), .inl ((vk 4), 1200, .inl (vF 4))), ((va 5), .inl ((vk 5), 5, .inl (vF 5))), ((va 6), .inl ((vk 6), 1875, .inl (vF 6))), ((va 7), .inl ((vk 7), 78, .inl (vF 7))), ((va 8), .inl ((vk 8), 12, .inl (vF 8))), ((va 9), .inl ((vk 9), 26, .inl (vF 9))), ((va 10), .inl ((vk 10), 16, .inl (vF 10))), ((va 11), .inl ((vk 11), 20000, .inl (vF 11))), ((va 12), .inl ((vk 12), 20000, .inl (vF 12))), ((va 13), .inl ((vk 13), 12, .inl monthsF)), ((va 14), .inl ((vk 14), 201, .inr (.inl (vG 0)))), ((va 15), .inl ((vk 15), 201, .inr (.inl (vG 1)))), ((va 16), .inl ((vk 16), 4, .inl o0_9)), ((va 17), .inl ((vk 17), 4, .inl o1_9)), ((va 18), .inl ((vk 18), 240, .inr (.inl o2_9))), ((va 19), .inl ((vk 19), 60, .inr (.inl (vG 3))))] := va_Da hD rfl
  exact ⟨⟨r, (), ho, trivial, ⟨va, vz, vl, vk, (up9 (up9 vF 13 o0_9) 14 o1_9), (up9 vG 2 o2_9), b_x_sz, b_x_at, b_x_fr, b_x_to, b_x_fk, b_x_td, hgw, hgi, (show GR (rwG gh a1 a2 a3) o0_9 o1_9 from by first | with_reducible assumption | omega), ha_mfg, (show rg o0_9 4 (-1) 60 from by first | with_reducible assumption | assumption), (show rg o1_9 4 0 3 from by first | with_reducible assumption | assumption), ha_mpl, hP3, hK3, hD3⟩, by omega, hN.warm hW, hX.mv (fun a h1 h2 => hF.2 a h1 (fun z => h2 (hAn a (hFc a h1 z)))) hW.alike (fun _ _ _ _ q => vk_R.warm hW q), Nat.le_trans hn0 hF.1, fun q h => hA q (Nat.le_trans hF.1 h)⟩, hF.1, fun q h1 h2 => hF.2 q h1 (fun z => h2 (hFc q h1 z))⟩
set_option maxHeartbeats 4000000 in
set_option maxRecDepth 100000 in
theorem wX10_write (l : Launch) (dC : Nat → ClassId) (dI : Nat → Nat → Nat) (gh : Nat → Int32) (AX : Nat → Prop) (tt nB o0 : Nat) (a1 : Int32) (a2 : Int32) (a3 : Int64) (hAn : ∀ q, AX q → nB ≤ q) : Met l yX10_write uX10_write ({ frames := 2, cells := 0, slots := 0, locals := 45 }) (va_Pc [.ref o0, .int a1, .int a2, .long a3] (PM dC dI gh AX tt nB o0)) (va_Qi (fun (r : Int32) (_ : Unit) => True) (fun (_ : Unit) t => PM dC dI gh AX tt nB o0 t) AX) 0 0 AX := by
  refine Met.via (fun a U hv => ?_)
  obtain ⟨rfl, hV⟩ := hv
  refine MI.elim hV.1 (fun va vz vl vk vF vG b_x_sz b_x_at b_x_fr b_x_to b_x_fk b_x_td hgw hgi hgR9 ha_mfg ha_mma ha_mwi ha_mpl hP hK hD => ?_)
  have htt0 := hV.2.1
  have hN := hV.2.2.1
  have hX := hV.2.2.2.1
  have hn0 := hV.2.2.2.2.1
  have hA := hV.2.2.2.2.2
  have hFc : ∀ q : Nat, q < U.heap.size → va_A [(o0, .inr (8, [.int (vz 0), .ref (va 0), .ref (va 1), .ref (va 2), .ref (va 3), .ref (va 4), .int (vz 1), .ref (va 5), .int (vz 2), .int (vz 3), .int (vz 4), .int (vz 5), .int (vz 6), .int (vz 7), .int (vz 8), .ref (va 6), .ref (va 7), .int (vz 9), .int (vz 10), .int (vz 11), .ref (va 8), .ref (va 9), .long (vl 0), .ref (va 10), .ref (va 11), .ref (va 12), .ref (va 13), .ref (va 14), .ref (va 15), .ref (va 16), .ref (va 17), .ref (va 18), .ref (va 19)])), ((va 16), .inl ((vk 16), 4, .inl (vF 13))), ((va 17), .inl ((vk 17), 4, .inl (vF 14))), ((va 18), .inl ((vk 18), 240, .inr (.inl (vG 2))))] U.heap.size q → AX q := fun q h1 h2 => va_Ain (hD.sub (ws' := [(o0, .inr (8, [.int (vz 0), .ref (va 0), .ref (va 1), .ref (va 2), .ref (va 3), .ref (va 4), .int (vz 1), .ref (va 5), .int (vz 2), .int (vz 3), .int (vz 4), .int (vz 5), .int (vz 6), .int (vz 7), .int (vz 8), .ref (va 6), .ref (va 7), .int (vz 9), .int (vz 10), .int (vz 11), .ref (va 8), .ref (va 9), .long (vl 0), .ref (va 10), .ref (va 11), .ref (va 12), .ref (va 13), .ref (va 14), .ref (va 15), .ref (va 16), .ref (va 17), .ref (va 18), .ref (va 19)])), ((va 16), .inl ((vk 16), 4, .inl (vF 13))), ((va 17), .inl ((vk 17), 4, .inl (vF 14))), ((va 18), .inl ((vk 18), 240, .inr (.inl (vG 2))))]) [0, 17, 18, 19] (by decide) rfl) h1 h2
  refine ⟨_, _, _, kX10_write l dC dI o0 (vz 0) (va 0) (va 1) (va 2) (va 3) (va 4) (vz 1) (va 5) (vz 2) (vz 3) (vz 4) (vz 5) (vz 6) (vz 7) (vz 8) (va 6) (va 7) (vz 9) (vz 10) (vz 11) (va 8) (va 9) (vl 0) (va 10) (va 11) (va 12) (va 13) (va 14) (va 15) (va 16) (va 17) (va 18) (va 19) (vk 16) (vk 17) (vk 18) (vF 13) (vF 14) (vG 2) a1 a2 a3 U.heap.size ha_mma ha_mwi, ⟨rfl, ⟨rfl, hP.sub [0, 17, 18, 19] rfl, hK.sub [16, 17, 18] rfl, (hD.sub [0, 17, 18, 19] (by decide) rfl).weaken (fun _ _ _ _ => trivial), hN⟩⟩, fun o t hq hW hts => ?_, fun q h1 h2 => hFc q h1 h2⟩
  have hF := hq.2
  have h9_0 := hq.1
  clear hq
  refine Exists.elim h9_0 (fun r h9_1 => ?_)
  clear h9_0
  refine Exists.elim h9_1 (fun u h9_2 => ?_)
  clear h9_1
  refine and_el h9_2 (fun ho h9_3 => ?_)
  clear h9_2
  refine and_el h9_3 (fun hp h9_4 => ?_)
  clear h9_3
  refine Exists.elim h9_4 (fun o0_9 h9_5 => ?_)
  clear h9_4
  refine and_el h9_5 (fun hP1 h9_6 => ?_)
  clear h9_5
  refine and_el h9_6 (fun hK1 h9_7 => ?_)
  clear h9_6
  have hD1 := h9_7
  clear h9_7
  have hP2 := va_put9 [0, 17, 18, 19] hP hD (by rfl) hF.2 hP1 (by exact Nat.le_of_ble_eq_true rfl)
  have hP3 : va_P (dC, dI) vwCl [(o0, .inr (8, [.int (vz 0), .ref (va 0), .ref (va 1), .ref (va 2), .ref (va 3), .ref (va 4), .int (vz 1), .ref (va 5), .int (vz 2), .int (vz 3), .int (vz 4), .int (vz 5), .int (vz 6), .int (vz 7), .int (vz 8), .ref (va 6), .ref (va 7), .int (vz 9), .int (vz 10), .int (vz 11), .ref (va 8), .ref (va 9), .long (vl 0), .ref (va 10), .ref (va 11), .ref (va 12), .ref (va 13), .ref (va 14), .ref (va 15), .ref (va 16), .ref (va 17), .ref (va 18), .ref (va 19)])), ((va 0), .inl ((vk 0), 1875, .inl (vF 0))), ((va 1), .inl ((vk 1), 5625, .inl (vF 1))), ((va 2), .inl ((vk 2), 3, .inl (vF 2))), ((va 3), .inl ((vk 3), 20000, .inl (vF 3))), ((va 4), .inl ((vk 4), 1200, .inl (vF 4))), ((va 5), .inl ((vk 5), 5, .inl (vF 5))), ((va 6), .inl ((vk 6), 1875, .inl (vF 6))), ((va 7), .inl ((vk 7), 78, .inl (vF 7))), ((va 8), .inl ((vk 8), 12, .inl (vF 8))), ((va 9), .inl ((vk 9), 26, .inl (vF 9))), ((va 10), .inl ((vk 10), 16, .inl (vF 10))), ((va 11), .inl ((vk 11), 20000, .inl (vF 11))), ((va 12), .inl ((vk 12), 20000, .inl (vF 12))), ((va 13), .inl ((vk 13), 12, .inl monthsF)), ((va 14), .inl ((vk 14), 201, .inr (.inl (vG 0)))), ((va 15), .inl ((vk 15), 201, .inr (.inl (vG 1)))), ((va 16), .inl ((vk 16), 4, .inl (vF 13))), ((va 17), .inl ((vk 17), 4, .inl (vF 14))), ((va 18), .inl ((vk 18), 240, .inr (.inl o0_9))), ((va 19), .inl ((vk 19), 60, .inr (.inl (vG 3))))] t.heap := hP2
  have hK3 := va_K.moved hW.alike hK
  have hD3 : va_D AX [(o0, .inr (8, [.int (vz 0), .ref (va 0), .ref (va 1), .ref (va 2), .ref (va 3), .ref (va 4), .int (vz 1), .ref (va 5), .int (vz 2), .int (vz 3), .int (vz 4), .int (vz 5), .int (vz 6), .int (vz 7), .int (vz 8), .ref (va 6), .ref (va 7), .int (vz 9), .int (vz 10), .int (vz 11), .ref (va 8), .ref (va 9), .long (vl 0), .ref (va 10), .ref (va 11), .ref (va 12), .ref (va 13), .ref (va 14), .ref (va 15), .ref (va 16), .ref (va 17), .ref (va 18), .ref (va 19)])), ((va 0), .inl ((vk 0), 1875, .inl (vF 0))), ((va 1), .inl ((vk 1), 5625, .inl (vF 1))), ((va 2), .inl ((vk 2), 3, .inl (vF 2))), ((va 3), .inl ((vk 3), 20000, .inl (vF 3))), ((va 4), .inl ((vk 4), 1200, .inl (vF 4))), ((va 5), .inl ((vk 5), 5, .inl (vF 5))), ((va 6), .inl ((vk 6), 1875, .inl (vF 6))), ((va 7), .inl ((vk 7), 78, .inl (vF 7))), ((va 8), .inl ((vk 8), 12, .inl (vF 8))), ((va 9), .inl ((vk 9), 26, .inl (vF 9))), ((va 10), .inl ((vk 10), 16, .inl (vF 10))), ((va 11), .inl ((vk 11), 20000, .inl (vF 11))), ((va 12), .inl ((vk 12), 20000, .inl (vF 12))), ((va 13), .inl ((vk 13), 12, .inl monthsF)), ((va 14), .inl ((vk 14), 201, .inr (.inl (vG 0)))), ((va 15), .inl ((vk 15), 201, .inr (.inl (vG 1)))), ((va 16), .inl ((vk 16), 4, .inl (vF 13))), ((va 17), .inl ((vk 17), 4, .inl (vF 14))), ((va 18), .inl ((vk 18), 240, .inr (.inl o0_9))), ((va 19), .inl ((vk 19), 60, .inr (.inl (vG 3))))] := va_Da hD rfl
  exact ⟨⟨r, (), ho, trivial, ⟨va, vz, vl, vk, vF, (up9 vG 2 o0_9), b_x_sz, b_x_at, b_x_fr, b_x_to, b_x_fk, b_x_td, hgw, hgi, hgR9, ha_mfg, ha_mma, ha_mwi, ha_mpl, hP3, hK3, hD3⟩, by omega, hN.warm hW, hX.mv (fun a h1 h2 => hF.2 a h1 (fun z => h2 (hAn a (hFc a h1 z)))) hW.alike (fun _ _ _ _ q => vk_R.warm hW q), Nat.le_trans hn0 hF.1, fun q h => hA q (Nat.le_trans hF.1 h)⟩, hF.1, fun q h1 h2 => hF.2 q h1 (fun z => h2 (hFc q h1 z))⟩
set_option maxHeartbeats 4000000 in
set_option maxRecDepth 100000 in
theorem wX10_paste (l : Launch) (dC : Nat → ClassId) (dI : Nat → Nat → Nat) (gh : Nat → Int32) (AX : Nat → Prop) (tt nB o0 : Nat) (a1 : Int32) (a2 : Int32) (a3 : Int32) (a4 : Int32) (a5 : Int32) (hAn : ∀ q, AX q → nB ≤ q) : Met l yX10_paste uX10_pasteF ({ frames := 2, cells := 0, slots := 0, locals := 45 }) (va_Pc [.ref o0, .int a1, .int a2, .int a3, .int a4, .int a5] (PM dC dI gh AX tt nB o0)) (va_Qi (fun (r : Int32) (_ : Unit) => r = psA gh a1 a2 a3 a4 a5) (fun (_ : Unit) t => PM dC dI gh AX tt nB o0 t) AX) 0 0 AX := by
  refine Met.via (fun a U hv => ?_)
  obtain ⟨rfl, hV⟩ := hv
  refine MI.elim hV.1 (fun va vz vl vk vF vG b_x_sz b_x_at b_x_fr b_x_to b_x_fk b_x_td hgw hgi hgR9 ha_mfg ha_mma ha_mwi ha_mpl hP hK hD => ?_)
  have htt0 := hV.2.1
  have hN := hV.2.2.1
  have hX := hV.2.2.2.1
  have hn0 := hV.2.2.2.2.1
  have hA := hV.2.2.2.2.2
  have hFc : ∀ q : Nat, q < U.heap.size → va_A [(o0, .inr (8, [.int (vz 0), .ref (va 0), .ref (va 1), .ref (va 2), .ref (va 3), .ref (va 4), .int (vz 1), .ref (va 5), .int (vz 2), .int (vz 3), .int (vz 4), .int (vz 5), .int (vz 6), .int (vz 7), .int (vz 8), .ref (va 6), .ref (va 7), .int (vz 9), .int (vz 10), .int (vz 11), .ref (va 8), .ref (va 9), .long (vl 0), .ref (va 10), .ref (va 11), .ref (va 12), .ref (va 13), .ref (va 14), .ref (va 15), .ref (va 16), .ref (va 17), .ref (va 18), .ref (va 19)])), ((va 16), .inl ((vk 16), 4, .inl (vF 13))), ((va 17), .inl ((vk 17), 4, .inl (vF 14))), ((va 18), .inl ((vk 18), 240, .inr (.inl (vG 2)))), ((va 19), .inl ((vk 19), 60, .inr (.inl (vG 3))))] U.heap.size q → AX q := fun q h1 h2 => va_Ain (hD.sub (ws' := [(o0, .inr (8, [.int (vz 0), .ref (va 0), .ref (va 1), .ref (va 2), .ref (va 3), .ref (va 4), .int (vz 1), .ref (va 5), .int (vz 2), .int (vz 3), .int (vz 4), .int (vz 5), .int (vz 6), .int (vz 7), .int (vz 8), .ref (va 6), .ref (va 7), .int (vz 9), .int (vz 10), .int (vz 11), .ref (va 8), .ref (va 9), .long (vl 0), .ref (va 10), .ref (va 11), .ref (va 12), .ref (va 13), .ref (va 14), .ref (va 15), .ref (va 16), .ref (va 17), .ref (va 18), .ref (va 19)])), ((va 16), .inl ((vk 16), 4, .inl (vF 13))), ((va 17), .inl ((vk 17), 4, .inl (vF 14))), ((va 18), .inl ((vk 18), 240, .inr (.inl (vG 2)))), ((va 19), .inl ((vk 19), 60, .inr (.inl (vG 3))))]) [0, 17, 18, 19, 20] (by decide) rfl) h1 h2
  refine ⟨_, _, _, kX10_pasteF l dC dI o0 (vz 0) (va 0) (va 1) (va 2) (va 3) (va 4) (vz 1) (va 5) (vz 2) (vz 3) (vz 4) (vz 5) (vz 6) (vz 7) (vz 8) (va 6) (va 7) (vz 9) (vz 10) (vz 11) (va 8) (va 9) (vl 0) (va 10) (va 11) (va 12) (va 13) (va 14) (va 15) (va 16) (va 17) (va 18) (va 19) (vk 16) (vk 17) (vk 18) (vk 19) (vF 13) (vF 14) (vG 2) (vG 3) gh a1 a2 a3 a4 a5 U.heap.size ha_mma ha_mwi (by first | with_reducible assumption | omega), ⟨rfl, ⟨rfl, hP.sub [0, 17, 18, 19, 20] rfl, hK.sub [16, 17, 18, 19] rfl, (hD.sub [0, 17, 18, 19, 20] (by decide) rfl).weaken (fun _ _ _ _ => trivial), hN⟩⟩, fun o t hq hW hts => ?_, fun q h1 h2 => hFc q h1 h2⟩
  have hF := hq.2
  have h9_0 := hq.1
  clear hq
  refine Exists.elim h9_0 (fun r h9_1 => ?_)
  clear h9_0
  refine Exists.elim h9_1 (fun u h9_2 => ?_)
  clear h9_1
  refine and_el h9_2 (fun ho h9_3 => ?_)
  clear h9_2
  refine and_el h9_3 (fun hp h9_4 => ?_)
  clear h9_3
  refine Exists.elim h9_4 (fun o0_9 h9_5 => ?_)
  clear h9_4
  refine Exists.elim h9_5 (fun o1_9 h9_6 => ?_)
  clear h9_5
  refine and_el h9_6 (fun hP1 h9_7 => ?_)
  clear h9_6
  refine and_el h9_7 (fun hK1 h9_8 => ?_)
  clear h9_7
  have hD1 := h9_8
  clear h9_8
  have hP2 := va_put9 [0, 17, 18, 19, 20] hP hD (by rfl) hF.2 hP1 (by exact Nat.le_of_ble_eq_true rfl)
  have hP3 : va_P (dC, dI) vwCl [(o0, .inr (8, [.int (vz 0), .ref (va 0), .ref (va 1), .ref (va 2), .ref (va 3), .ref (va 4), .int (vz 1), .ref (va 5), .int (vz 2), .int (vz 3), .int (vz 4), .int (vz 5), .int (vz 6), .int (vz 7), .int (vz 8), .ref (va 6), .ref (va 7), .int (vz 9), .int (vz 10), .int (vz 11), .ref (va 8), .ref (va 9), .long (vl 0), .ref (va 10), .ref (va 11), .ref (va 12), .ref (va 13), .ref (va 14), .ref (va 15), .ref (va 16), .ref (va 17), .ref (va 18), .ref (va 19)])), ((va 0), .inl ((vk 0), 1875, .inl (vF 0))), ((va 1), .inl ((vk 1), 5625, .inl (vF 1))), ((va 2), .inl ((vk 2), 3, .inl (vF 2))), ((va 3), .inl ((vk 3), 20000, .inl (vF 3))), ((va 4), .inl ((vk 4), 1200, .inl (vF 4))), ((va 5), .inl ((vk 5), 5, .inl (vF 5))), ((va 6), .inl ((vk 6), 1875, .inl (vF 6))), ((va 7), .inl ((vk 7), 78, .inl (vF 7))), ((va 8), .inl ((vk 8), 12, .inl (vF 8))), ((va 9), .inl ((vk 9), 26, .inl (vF 9))), ((va 10), .inl ((vk 10), 16, .inl (vF 10))), ((va 11), .inl ((vk 11), 20000, .inl (vF 11))), ((va 12), .inl ((vk 12), 20000, .inl (vF 12))), ((va 13), .inl ((vk 13), 12, .inl monthsF)), ((va 14), .inl ((vk 14), 201, .inr (.inl (vG 0)))), ((va 15), .inl ((vk 15), 201, .inr (.inl (vG 1)))), ((va 16), .inl ((vk 16), 4, .inl (vF 13))), ((va 17), .inl ((vk 17), 4, .inl (vF 14))), ((va 18), .inl ((vk 18), 240, .inr (.inl o0_9))), ((va 19), .inl ((vk 19), 60, .inr (.inl o1_9)))] t.heap := hP2
  have hK3 := va_K.moved hW.alike hK
  have hD3 : va_D AX [(o0, .inr (8, [.int (vz 0), .ref (va 0), .ref (va 1), .ref (va 2), .ref (va 3), .ref (va 4), .int (vz 1), .ref (va 5), .int (vz 2), .int (vz 3), .int (vz 4), .int (vz 5), .int (vz 6), .int (vz 7), .int (vz 8), .ref (va 6), .ref (va 7), .int (vz 9), .int (vz 10), .int (vz 11), .ref (va 8), .ref (va 9), .long (vl 0), .ref (va 10), .ref (va 11), .ref (va 12), .ref (va 13), .ref (va 14), .ref (va 15), .ref (va 16), .ref (va 17), .ref (va 18), .ref (va 19)])), ((va 0), .inl ((vk 0), 1875, .inl (vF 0))), ((va 1), .inl ((vk 1), 5625, .inl (vF 1))), ((va 2), .inl ((vk 2), 3, .inl (vF 2))), ((va 3), .inl ((vk 3), 20000, .inl (vF 3))), ((va 4), .inl ((vk 4), 1200, .inl (vF 4))), ((va 5), .inl ((vk 5), 5, .inl (vF 5))), ((va 6), .inl ((vk 6), 1875, .inl (vF 6))), ((va 7), .inl ((vk 7), 78, .inl (vF 7))), ((va 8), .inl ((vk 8), 12, .inl (vF 8))), ((va 9), .inl ((vk 9), 26, .inl (vF 9))), ((va 10), .inl ((vk 10), 16, .inl (vF 10))), ((va 11), .inl ((vk 11), 20000, .inl (vF 11))), ((va 12), .inl ((vk 12), 20000, .inl (vF 12))), ((va 13), .inl ((vk 13), 12, .inl monthsF)), ((va 14), .inl ((vk 14), 201, .inr (.inl (vG 0)))), ((va 15), .inl ((vk 15), 201, .inr (.inl (vG 1)))), ((va 16), .inl ((vk 16), 4, .inl (vF 13))), ((va 17), .inl ((vk 17), 4, .inl (vF 14))), ((va 18), .inl ((vk 18), 240, .inr (.inl o0_9))), ((va 19), .inl ((vk 19), 60, .inr (.inl o1_9)))] := va_Da hD rfl
  exact ⟨⟨r, (), ho, hp.2, ⟨va, vz, vl, vk, vF, (up9 (up9 vG 2 o0_9) 3 o1_9), b_x_sz, b_x_at, b_x_fr, b_x_to, b_x_fk, b_x_td, hgw, hgi, hgR9, ha_mfg, ha_mma, ha_mwi, ha_mpl, hP3, hK3, hD3⟩, by omega, hN.warm hW, hX.mv (fun a h1 h2 => hF.2 a h1 (fun z => h2 (hAn a (hFc a h1 z)))) hW.alike (fun _ _ _ _ q => vk_R.warm hW q), Nat.le_trans hn0 hF.1, fun q h => hA q (Nat.le_trans hF.1 h)⟩, hF.1, fun q h1 h2 => hF.2 q h1 (fun z => h2 (hFc q h1 z))⟩
