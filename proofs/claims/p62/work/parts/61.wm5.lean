set_option maxHeartbeats 4000000 in
set_option maxRecDepth 100000 in
theorem wX10_window (l : Launch) (dC : Nat → ClassId) (dI : Nat → Nat → Nat) (gh : Nat → Int32) (AX : Nat → Prop) (tt nB o0 : Nat) (a1 : Int32) (a2 : Int32) (a3 : Int32) (hAn : ∀ q, AX q → nB ≤ q) : Met l yX10_window uX10_window ({ frames := 2, cells := 0, slots := 0, locals := 46 }) (va_Pc [.ref o0, .int a1, .int a2, .int a3] (PM dC dI gh AX tt nB o0)) (va_Qi (fun (r : Int32) (_ : Unit) => True) (fun (_ : Unit) t => PM dC dI gh AX tt nB o0 t) AX) 0 0 AX := by
  refine Met.via (fun a U hv => ?_)
  obtain ⟨rfl, hV⟩ := hv
  refine MI.elim hV.1 (fun va vz vl vk vF vG b_x_sz b_x_at b_x_fr b_x_to b_x_fk b_x_td hgw hgi hgR9 ha_mfg ha_mma ha_mwi ha_mpl hP hK hD => ?_)
  have htt0 := hV.2.1
  have hN := hV.2.2.1
  have hX := hV.2.2.2.1
  have hn0 := hV.2.2.2.2.1
  have hA := hV.2.2.2.2.2
  obtain ⟨hgr, hwz, hpv, htp⟩ := id hgw
  obtain ⟨ln, hw0⟩ : ∃ y : Int32, (vF 0) 0 = y := ⟨_, rfl⟩
  obtain ⟨bs, hw1⟩ : ∃ y : Int32, (vF 0) 1 = y := ⟨_, rfl⟩
  obtain ⟨tk, hw2⟩ : ∃ y : Int32, (vF 0) 2 = y := ⟨_, rfl⟩
  obtain ⟨lw, hw3⟩ : ∃ y : Int32, (vF 0) 3 = y := ⟨_, rfl⟩
  obtain ⟨li, hw4⟩ : ∃ y : Int32, (vF 0) 4 = y := ⟨_, rfl⟩
  rw [hw0, hw1, hw2, hw3] at hgr hwz
  rw [hw0, hw1, hw2] at htp
  rw [hw3] at hpv
  obtain ⟨b_ln, b_bs, b_tk, b_lw⟩ := hgr
  refine ⟨_, _, _, kX10_window l dC dI o0 (vz 0) (va 0) (va 1) (va 2) (va 3) (va 4) (vz 1) (va 5) (vz 2) (vz 3) (vz 4) (vz 5) (vz 6) (vz 7) (vz 8) (va 6) (va 7) (vz 9) (vz 10) (vz 11) (va 8) (va 9) (vl 0) (va 10) (va 11) (va 12) (va 13) (va 14) (va 15) (va 16) (va 17) (va 18) (va 19) (vk 0) (vk 3) (vF 0) (vF 3) ln bs tk lw li a1 a2 a3 b_ln b_bs b_tk b_lw (by first | with_reducible assumption | omega) (by first | with_reducible assumption | omega) (by first | with_reducible assumption | omega) (by first | with_reducible assumption | omega) (by first | with_reducible assumption | omega) (by first | with_reducible assumption | omega), ⟨rfl, ⟨hP.sub [0, 1, 4] rfl, hK.sub [0, 3] rfl, hN⟩⟩, fun o t hq hW _ => ?_, fun q _ hq => hq.elim⟩
  obtain ⟨r, ho, hp, hh⟩ := hq
  exact ⟨⟨r, (), ho, trivial, PM_same hV hh hW⟩, by rw [hh]; exact Nat.le_refl _, fun q _ _ => by rw [hh]⟩
set_option maxHeartbeats 4000000 in
set_option maxRecDepth 100000 in
theorem wX10_have (l : Launch) (dC : Nat → ClassId) (dI : Nat → Nat → Nat) (gh : Nat → Int32) (AX : Nat → Prop) (tt nB o0 : Nat) (a1 : Int32) (a2 : Int32) (hAn : ∀ q, AX q → nB ≤ q) : Met l yX10_have uX10_have ({ frames := 2, cells := 0, slots := 0, locals := 46 }) (va_Pc [.ref o0, .int a1, .int a2] (PM dC dI gh AX tt nB o0)) (va_Qi (fun (r : Int32) (_ : Unit) => True) (fun (_ : Unit) t => PM dC dI gh AX tt nB o0 t) AX) 0 0 AX := by
  refine Met.via (fun a U hv => ?_)
  obtain ⟨rfl, hV⟩ := hv
  refine MI.elim hV.1 (fun va vz vl vk vF vG b_x_sz b_x_at b_x_fr b_x_to b_x_fk b_x_td hgw hgi hgR9 ha_mfg ha_mma ha_mwi ha_mpl hP hK hD => ?_)
  have htt0 := hV.2.1
  have hN := hV.2.2.1
  have hX := hV.2.2.2.1
  have hn0 := hV.2.2.2.2.1
  have hA := hV.2.2.2.2.2
  obtain ⟨hgr, hwz, hpv, htp⟩ := id hgw
  obtain ⟨ln, hw0⟩ : ∃ y : Int32, (vF 0) 0 = y := ⟨_, rfl⟩
  obtain ⟨bs, hw1⟩ : ∃ y : Int32, (vF 0) 1 = y := ⟨_, rfl⟩
  obtain ⟨tk, hw2⟩ : ∃ y : Int32, (vF 0) 2 = y := ⟨_, rfl⟩
  obtain ⟨lw, hw3⟩ : ∃ y : Int32, (vF 0) 3 = y := ⟨_, rfl⟩
  obtain ⟨li, hw4⟩ : ∃ y : Int32, (vF 0) 4 = y := ⟨_, rfl⟩
  rw [hw0, hw1, hw2, hw3] at hgr hwz
  rw [hw0, hw1, hw2] at htp
  rw [hw3] at hpv
  obtain ⟨b_ln, b_bs, b_tk, b_lw⟩ := hgr
  have hFc : ∀ q : Nat, q < U.heap.size → va_A [(o0, .inr (8, [.int (vz 0), .ref (va 0), .ref (va 1), .ref (va 2), .ref (va 3), .ref (va 4), .int (vz 1), .ref (va 5), .int (vz 2), .int (vz 3), .int (vz 4), .int (vz 5), .int (vz 6), .int (vz 7), .int (vz 8), .ref (va 6), .ref (va 7), .int (vz 9), .int (vz 10), .int (vz 11), .ref (va 8), .ref (va 9), .long (vl 0), .ref (va 10), .ref (va 11), .ref (va 12), .ref (va 13), .ref (va 14), .ref (va 15), .ref (va 16), .ref (va 17), .ref (va 18), .ref (va 19)])), ((va 0), .inl ((vk 0), 1875, .inl (vF 0))), ((va 3), .inl ((vk 3), 20000, .inl (vF 3))), ((va 8), .inl ((vk 8), 12, .inl (vF 8)))] U.heap.size q → AX q := fun q h1 h2 => va_Ain (hD.sub (ws' := [(o0, .inr (8, [.int (vz 0), .ref (va 0), .ref (va 1), .ref (va 2), .ref (va 3), .ref (va 4), .int (vz 1), .ref (va 5), .int (vz 2), .int (vz 3), .int (vz 4), .int (vz 5), .int (vz 6), .int (vz 7), .int (vz 8), .ref (va 6), .ref (va 7), .int (vz 9), .int (vz 10), .int (vz 11), .ref (va 8), .ref (va 9), .long (vl 0), .ref (va 10), .ref (va 11), .ref (va 12), .ref (va 13), .ref (va 14), .ref (va 15), .ref (va 16), .ref (va 17), .ref (va 18), .ref (va 19)])), ((va 0), .inl ((vk 0), 1875, .inl (vF 0))), ((va 3), .inl ((vk 3), 20000, .inl (vF 3))), ((va 8), .inl ((vk 8), 12, .inl (vF 8)))]) [0, 1, 4, 9] (by decide) rfl) h1 h2
  refine ⟨_, _, _, kX10_have l dC dI o0 (vz 0) (va 0) (va 1) (va 2) (va 3) (va 4) (vz 1) (va 5) (vz 2) (vz 3) (vz 4) (vz 5) (vz 6) (vz 7) (vz 8) (va 6) (va 7) (vz 9) (vz 10) (vz 11) (va 8) (va 9) (vl 0) (va 10) (va 11) (va 12) (va 13) (va 14) (va 15) (va 16) (va 17) (va 18) (va 19) (vk 0) (vk 3) (vk 8) (vF 0) (vF 3) (vF 8) ln bs tk lw li a1 a2 U.heap.size b_ln b_bs b_tk b_lw ha_mfg (by first | with_reducible assumption | omega) (by first | with_reducible assumption | omega) (by first | with_reducible assumption | omega) (by first | with_reducible assumption | omega) (by first | with_reducible assumption | omega) (by first | with_reducible assumption | omega), ⟨rfl, ⟨rfl, hP.sub [0, 1, 4, 9] rfl, hK.sub [0, 3, 8] rfl, (hD.sub [0, 1, 4, 9] (by decide) rfl).weaken (fun _ _ _ _ => trivial), hN⟩⟩, fun o t hq hW hts => ?_, fun q h1 h2 => hFc q h1 h2⟩
  have hF := hq.2
  have h9_0 := hq.1
  clear hq
  refine Exists.elim h9_0 (fun r h9_1 => ?_)
  clear h9_0
  refine Exists.elim h9_1 (fun u h9_2 => ?_)
  clear h9_1
  refine and_el h9_2 (fun ho h9_3 => ?_)
  clear h9_2
  refine and_el h9_3 (fun hp h9_4 => ?_)
  clear h9_3
  refine Exists.elim h9_4 (fun o0_9 h9_5 => ?_)
  clear h9_4
  refine and_el h9_5 (fun hf0 h9_6 => ?_)
  clear h9_5
  refine and_el h9_6 (fun hP1 h9_7 => ?_)
  clear h9_6
  refine and_el h9_7 (fun hK1 h9_8 => ?_)
  clear h9_7
  have hD1 := h9_8
  clear h9_8
  have hP2 := va_put9 [0, 1, 4, 9] hP hD (by rfl) hF.2 hP1 (by exact Nat.le_of_ble_eq_true rfl)
  have hP3 : va_P (dC, dI) vwCl [(o0, .inr (8, [.int (vz 0), .ref (va 0), .ref (va 1), .ref (va 2), .ref (va 3), .ref (va 4), .int (vz 1), .ref (va 5), .int (vz 2), .int (vz 3), .int (vz 4), .int (vz 5), .int (vz 6), .int (vz 7), .int (vz 8), .ref (va 6), .ref (va 7), .int (vz 9), .int (vz 10), .int (vz 11), .ref (va 8), .ref (va 9), .long (vl 0), .ref (va 10), .ref (va 11), .ref (va 12), .ref (va 13), .ref (va 14), .ref (va 15), .ref (va 16), .ref (va 17), .ref (va 18), .ref (va 19)])), ((va 0), .inl ((vk 0), 1875, .inl (vF 0))), ((va 1), .inl ((vk 1), 5625, .inl (vF 1))), ((va 2), .inl ((vk 2), 3, .inl (vF 2))), ((va 3), .inl ((vk 3), 20000, .inl (vF 3))), ((va 4), .inl ((vk 4), 1200, .inl (vF 4))), ((va 5), .inl ((vk 5), 5, .inl (vF 5))), ((va 6), .inl ((vk 6), 1875, .inl (vF 6))), ((va 7), .inl ((vk 7), 78, .inl (vF 7))), ((va 8), .inl ((vk 8), 12, .inl o0_9)), ((va 9), .inl ((vk 9), 26, .inl (vF 9))), ((va 10), .inl ((vk 10), 16, .inl (vF 10))), ((va 11), .inl ((vk 11), 20000, .inl (vF 11))), ((va 12), .inl ((vk 12), 20000, .inl (vF 12))), ((va 13), .inl ((vk 13), 12, .inl monthsF)), ((va 14), .inl ((vk 14), 201, .inr (.inl (vG 0)))), ((va 15), .inl ((vk 15), 201, .inr (.inl (vG 1)))), ((va 16), .inl ((vk 16), 4, .inl (vF 13))), ((va 17), .inl ((vk 17), 4, .inl (vF 14))), ((va 18), .inl ((vk 18), 240, .inr (.inl (vG 2)))), ((va 19), .inl ((vk 19), 60, .inr (.inl (vG 3))))] t.heap := hP2
  have hK3 := va_K.moved hW.alike hK
  have hD3 : va_D AX [(o0, .inr (8, [.int (vz 0), .ref (va 0), .ref (va 1), .ref (va 2), .ref (va 3), .ref (va 4), .int (vz 1), .ref (va 5), .int (vz 2), .int (vz 3), .int (vz 4), .int (vz 5), .int (vz 6), .int (vz 7), .int (vz 8), .ref (va 6), .ref (va 7), .int (vz 9), .int (vz 10), .int (vz 11), .ref (va 8), .ref (va 9), .long (vl 0), .ref (va 10), .ref (va 11), .ref (va 12), .ref (va 13), .ref (va 14), .ref (va 15), .ref (va 16), .ref (va 17), .ref (va 18), .ref (va 19)])), ((va 0), .inl ((vk 0), 1875, .inl (vF 0))), ((va 1), .inl ((vk 1), 5625, .inl (vF 1))), ((va 2), .inl ((vk 2), 3, .inl (vF 2))), ((va 3), .inl ((vk 3), 20000, .inl (vF 3))), ((va 4), .inl ((vk 4), 1200, .inl (vF 4))), ((va 5), .inl ((vk 5), 5, .inl (vF 5))), ((va 6), .inl ((vk 6), 1875, .inl (vF 6))), ((va 7), .inl ((vk 7), 78, .inl (vF 7))), ((va 8), .inl ((vk 8), 12, .inl o0_9)), ((va 9), .inl ((vk 9), 26, .inl (vF 9))), ((va 10), .inl ((vk 10), 16, .inl (vF 10))), ((va 11), .inl ((vk 11), 20000, .inl (vF 11))), ((va 12), .inl ((vk 12), 20000, .inl (vF 12))), ((va 13), .inl ((vk 13), 12, .inl monthsF)), ((va 14), .inl ((vk 14), 201, .inr (.inl (vG 0)))), ((va 15), .inl ((vk 15), 201, .inr (.inl (vG 1)))), ((va 16), .inl ((vk 16), 4, .inl (vF 13))), ((va 17), .inl ((vk 17), 4, .inl (vF 14))), ((va 18), .inl ((vk 18), 240, .inr (.inl (vG 2)))), ((va 19), .inl ((vk 19), 60, .inr (.inl (vG 3))))] := va_Da hD rfl
  exact ⟨⟨r, (), ho, trivial, ⟨va, vz, vl, vk, (up9 vF 8 o0_9), vG, b_x_sz, b_x_at, b_x_fr, b_x_to, b_x_fk, b_x_td, hgw, hgi, hgR9, (show rg o0_9 12 0 15 from by first | with_reducible assumption | assumption), ha_mma, ha_mwi, ha_mpl, hP3, hK3, hD3⟩, by omega, hN.warm hW, hX.mv (fun a h1 h2 => hF.2 a h1 (fun z => h2 (hAn a (hFc a h1 z)))) hW.alike (fun _ _ _ _ q => vk_R.warm hW q), Nat.le_trans hn0 hF.1, fun q h => hA q (Nat.le_trans hF.1 h)⟩, hF.1, fun q h1 h2 => hF.2 q h1 (fun z => h2 (hFc q h1 z))⟩
set_option maxHeartbeats 4000000 in
set_option maxRecDepth 100000 in
theorem wX10_at (l : Launch) (dC : Nat → ClassId) (dI : Nat → Nat → Nat) (gh : Nat → Int32) (AX : Nat → Prop) (tt nB o0 : Nat) (a1 : Int32) (a2 : Int32) (a3 : Int32) (hAn : ∀ q, AX q → nB ≤ q) : Met l yX10_at uX10_at ({ frames := 2, cells := 0, slots := 0, locals := 48 }) (va_Pc [.ref o0, .int a1, .int a2, .int a3] (PM dC dI gh AX tt nB o0)) (va_Qi (fun (r : Int32) (_ : Unit) => True) (fun (_ : Unit) t => PM dC dI gh AX tt nB o0 t) AX) 0 0 AX := by
  refine Met.via (fun a U hv => ?_)
  obtain ⟨rfl, hV⟩ := hv
  refine MI.elim hV.1 (fun va vz vl vk vF vG b_x_sz b_x_at b_x_fr b_x_to b_x_fk b_x_td hgw hgi hgR9 ha_mfg ha_mma ha_mwi ha_mpl hP hK hD => ?_)
  have htt0 := hV.2.1
  have hN := hV.2.2.1
  have hX := hV.2.2.2.1
  have hn0 := hV.2.2.2.2.1
  have hA := hV.2.2.2.2.2
  obtain ⟨hgr, hwz, hpv, htp⟩ := id hgw
  obtain ⟨ln, hw0⟩ : ∃ y : Int32, (vF 0) 0 = y := ⟨_, rfl⟩
  obtain ⟨bs, hw1⟩ : ∃ y : Int32, (vF 0) 1 = y := ⟨_, rfl⟩
  obtain ⟨tk, hw2⟩ : ∃ y : Int32, (vF 0) 2 = y := ⟨_, rfl⟩
  obtain ⟨lw, hw3⟩ : ∃ y : Int32, (vF 0) 3 = y := ⟨_, rfl⟩
  obtain ⟨li, hw4⟩ : ∃ y : Int32, (vF 0) 4 = y := ⟨_, rfl⟩
  rw [hw0, hw1, hw2, hw3] at hgr hwz
  rw [hw0, hw1, hw2] at htp
  rw [hw3] at hpv
  obtain ⟨b_ln, b_bs, b_tk, b_lw⟩ := hgr
  have hFc : ∀ q : Nat, q < U.heap.size → va_A [(o0, .inr (8, [.int (vz 0), .ref (va 0), .ref (va 1), .ref (va 2), .ref (va 3), .ref (va 4), .int (vz 1), .ref (va 5), .int (vz 2), .int (vz 3), .int (vz 4), .int (vz 5), .int (vz 6), .int (vz 7), .int (vz 8), .ref (va 6), .ref (va 7), .int (vz 9), .int (vz 10), .int (vz 11), .ref (va 8), .ref (va 9), .long (vl 0), .ref (va 10), .ref (va 11), .ref (va 12), .ref (va 13), .ref (va 14), .ref (va 15), .ref (va 16), .ref (va 17), .ref (va 18), .ref (va 19)])), ((va 0), .inl ((vk 0), 1875, .inl (vF 0))), ((va 3), .inl ((vk 3), 20000, .inl (vF 3))), ((va 8), .inl ((vk 8), 12, .inl (vF 8)))] U.heap.size q → AX q := fun q h1 h2 => va_Ain (hD.sub (ws' := [(o0, .inr (8, [.int (vz 0), .ref (va 0), .ref (va 1), .ref (va 2), .ref (va 3), .ref (va 4), .int (vz 1), .ref (va 5), .int (vz 2), .int (vz 3), .int (vz 4), .int (vz 5), .int (vz 6), .int (vz 7), .int (vz 8), .ref (va 6), .ref (va 7), .int (vz 9), .int (vz 10), .int (vz 11), .ref (va 8), .ref (va 9), .long (vl 0), .ref (va 10), .ref (va 11), .ref (va 12), .ref (va 13), .ref (va 14), .ref (va 15), .ref (va 16), .ref (va 17), .ref (va 18), .ref (va 19)])), ((va 0), .inl ((vk 0), 1875, .inl (vF 0))), ((va 3), .inl ((vk 3), 20000, .inl (vF 3))), ((va 8), .inl ((vk 8), 12, .inl (vF 8)))]) [0, 1, 4, 9] (by decide) rfl) h1 h2
  refine ⟨_, _, _, kX10_at l dC dI o0 (vz 0) (va 0) (va 1) (va 2) (va 3) (va 4) (vz 1) (va 5) (vz 2) (vz 3) (vz 4) (vz 5) (vz 6) (vz 7) (vz 8) (va 6) (va 7) (vz 9) (vz 10) (vz 11) (va 8) (va 9) (vl 0) (va 10) (va 11) (va 12) (va 13) (va 14) (va 15) (va 16) (va 17) (va 18) (va 19) (vk 0) (vk 3) (vk 8) (vF 0) (vF 3) (vF 8) ln bs tk lw li a1 a2 a3 U.heap.size b_ln b_bs b_tk b_lw ha_mfg (by first | with_reducible assumption | omega) (by first | with_reducible assumption | omega) (by first | with_reducible assumption | omega) (by first | with_reducible assumption | omega) (by first | with_reducible assumption | omega) (by first | with_reducible assumption | omega), ⟨rfl, ⟨rfl, hP.sub [0, 1, 4, 9] rfl, hK.sub [0, 3, 8] rfl, (hD.sub [0, 1, 4, 9] (by decide) rfl).weaken (fun _ _ _ _ => trivial), hN⟩⟩, fun o t hq hW hts => ?_, fun q h1 h2 => hFc q h1 h2⟩
  have hF := hq.2
  have h9_0 := hq.1
  clear hq
  refine Exists.elim h9_0 (fun r h9_1 => ?_)
  clear h9_0
  refine Exists.elim h9_1 (fun u h9_2 => ?_)
  clear h9_1
  refine and_el h9_2 (fun ho h9_3 => ?_)
  clear h9_2
  refine and_el h9_3 (fun hp h9_4 => ?_)
  clear h9_3
  refine Exists.elim h9_4 (fun o0_9 h9_5 => ?_)
  clear h9_4
  refine and_el h9_5 (fun hf0 h9_6 => ?_)
  clear h9_5
  refine and_el h9_6 (fun hP1 h9_7 => ?_)
  clear h9_6
  refine and_el h9_7 (fun hK1 h9_8 => ?_)
  clear h9_7
  have hD1 := h9_8
  clear h9_8
  have hP2 := va_put9 [0, 1, 4, 9] hP hD (by rfl) hF.2 hP1 (by exact Nat.le_of_ble_eq_true rfl)
  have hP3 : va_P (dC, dI) vwCl [(o0, .inr (8, [.int (vz 0), .ref (va 0), .ref (va 1), .ref (va 2), .ref (va 3), .ref (va 4), .int (vz 1), .ref (va 5), .int (vz 2), .int (vz 3), .int (vz 4), .int (vz 5), .int (vz 6), .int (vz 7), .int (vz 8), .ref (va 6), .ref (va 7), .int (vz 9), .int (vz 10), .int (vz 11), .ref (va 8), .ref (va 9), .long (vl 0), .ref (va 10), .ref (va 11), .ref (va 12), .ref (va 13), .ref (va 14), .ref (va 15), .ref (va 16), .ref (va 17), .ref (va 18), .ref (va 19)])), ((va 0), .inl ((vk 0), 1875, .inl (vF 0))), ((va 1), .inl ((vk 1), 5625, .inl (vF 1))), ((va 2), .inl ((vk 2), 3, .inl (vF 2))), ((va 3), .inl ((vk 3), 20000, .inl (vF 3))), ((va 4), .inl ((vk 4), 1200, .inl (vF 4))), ((va 5), .inl ((vk 5), 5, .inl (vF 5))), ((va 6), .inl ((vk 6), 1875, .inl (vF 6))), ((va 7), .inl ((vk 7), 78, .inl (vF 7))), ((va 8), .inl ((vk 8), 12, .inl o0_9)), ((va 9), .inl ((vk 9), 26, .inl (vF 9))), ((va 10), .inl ((vk 10), 16, .inl (vF 10))), ((va 11), .inl ((vk 11), 20000, .inl (vF 11))), ((va 12), .inl ((vk 12), 20000, .inl (vF 12))), ((va 13), .inl ((vk 13), 12, .inl monthsF)), ((va 14), .inl ((vk 14), 201, .inr (.inl (vG 0)))), ((va 15), .inl ((vk 15), 201, .inr (.inl (vG 1)))), ((va 16), .inl ((vk 16), 4, .inl (vF 13))), ((va 17), .inl ((vk 17), 4, .inl (vF 14))), ((va 18), .inl ((vk 18), 240, .inr (.inl (vG 2)))), ((va 19), .inl ((vk 19), 60, .inr (.inl (vG 3))))] t.heap := hP2
  have hK3 := va_K.moved hW.alike hK
  have hD3 : va_D AX [(o0, .inr (8, [.int (vz 0), .ref (va 0), .ref (va 1), .ref (va 2), .ref (va 3), .ref (va 4), .int (vz 1), .ref (va 5), .int (vz 2), .int (vz 3), .int (vz 4), .int (vz 5), .int (vz 6), .int (vz 7), .int (vz 8), .ref (va 6), .ref (va 7), .int (vz 9), .int (vz 10), .int (vz 11), .ref (va 8), .ref (va 9), .long (vl 0), .ref (va 10), .ref (va 11), .ref (va 12), .ref (va 13), .ref (va 14), .ref (va 15), .ref (va 16), .ref (va 17), .ref (va 18), .ref (va 19)])), ((va 0), .inl ((vk 0), 1875, .inl (vF 0))), ((va 1), .inl ((vk 1), 5625, .inl (vF 1))), ((va 2), .inl ((vk 2), 3, .inl (vF 2))), ((va 3), .inl ((vk 3), 20000, .inl (vF 3))), ((va 4), .inl ((vk 4), 1200, .inl (vF 4))), ((va 5), .inl ((vk 5), 5, .inl (vF 5))), ((va 6), .inl ((vk 6), 1875, .inl (vF 6))), ((va 7), .inl ((vk 7), 78, .inl (vF 7))), ((va 8), .inl ((vk 8), 12, .inl o0_9)), ((va 9), .inl ((vk 9), 26, .inl (vF 9))), ((va 10), .inl ((vk 10), 16, .inl (vF 10))), ((va 11), .inl ((vk 11), 20000, .inl (vF 11))), ((va 12), .inl ((vk 12), 20000, .inl (vF 12))), ((va 13), .inl ((vk 13), 12, .inl monthsF)), ((va 14), .inl ((vk 14), 201, .inr (.inl (vG 0)))), ((va 15), .inl ((vk 15), 201, .inr (.inl (vG 1)))), ((va 16), .inl ((vk 16), 4, .inl (vF 13))), ((va 17), .inl ((vk 17), 4, .inl (vF 14))), ((va 18), .inl ((vk 18), 240, .inr (.inl (vG 2)))), ((va 19), .inl ((vk 19), 60, .inr (.inl (vG 3))))] := va_Da hD rfl
  exact ⟨⟨r, (), ho, trivial, ⟨va, vz, vl, vk, (up9 vF 8 o0_9), vG, b_x_sz, b_x_at, b_x_fr, b_x_to, b_x_fk, b_x_td, hgw, hgi, hgR9, (show rg o0_9 12 0 15 from by first | with_reducible assumption | assumption), ha_mma, ha_mwi, ha_mpl, hP3, hK3, hD3⟩, by omega, hN.warm hW, hX.mv (fun a h1 h2 => hF.2 a h1 (fun z => h2 (hAn a (hFc a h1 z)))) hW.alike (fun _ _ _ _ q => vk_R.warm hW q), Nat.le_trans hn0 hF.1, fun q h => hA q (Nat.le_trans hF.1 h)⟩, hF.1, fun q h1 h2 => hF.2 q h1 (fun z => h2 (hFc q h1 z))⟩
set_option maxHeartbeats 4000000 in
set_option maxRecDepth 100000 in
theorem wX10_mostly (l : Launch) (dC : Nat → ClassId) (dI : Nat → Nat → Nat) (gh : Nat → Int32) (AX : Nat → Prop) (tt nB o0 : Nat) (a1 : Int32) (a2 : Int32) (hAn : ∀ q, AX q → nB ≤ q) : Met l yX10_mostly uX10_mostly ({ frames := 2, cells := 0, slots := 0, locals := 48 }) (va_Pc [.ref o0, .int a1, .int a2] (PM dC dI gh AX tt nB o0)) (va_Qi (fun (r : Int32) (_ : Unit) => True) (fun (_ : Unit) t => PM dC dI gh AX tt nB o0 t) AX) 0 0 AX := by
  refine Met.via (fun a U hv => ?_)
  obtain ⟨rfl, hV⟩ := hv
  refine MI.elim hV.1 (fun va vz vl vk vF vG b_x_sz b_x_at b_x_fr b_x_to b_x_fk b_x_td hgw hgi hgR9 ha_mfg ha_mma ha_mwi ha_mpl hP hK hD => ?_)
  have htt0 := hV.2.1
  have hN := hV.2.2.1
  have hX := hV.2.2.2.1
  have hn0 := hV.2.2.2.2.1
  have hA := hV.2.2.2.2.2
  obtain ⟨hgr, hwz, hpv, htp⟩ := id hgw
  obtain ⟨ln, hw0⟩ : ∃ y : Int32, (vF 0) 0 = y := ⟨_, rfl⟩
  obtain ⟨bs, hw1⟩ : ∃ y : Int32, (vF 0) 1 = y := ⟨_, rfl⟩
  obtain ⟨tk, hw2⟩ : ∃ y : Int32, (vF 0) 2 = y := ⟨_, rfl⟩
  obtain ⟨lw, hw3⟩ : ∃ y : Int32, (vF 0) 3 = y := ⟨_, rfl⟩
  obtain ⟨li, hw4⟩ : ∃ y : Int32, (vF 0) 4 = y := ⟨_, rfl⟩
  rw [hw0, hw1, hw2, hw3] at hgr hwz
  rw [hw0, hw1, hw2] at htp
  rw [hw3] at hpv
  obtain ⟨b_ln, b_bs, b_tk, b_lw⟩ := hgr
  have hFc : ∀ q : Nat, q < U.heap.size → va_A [(o0, .inr (8, [.int (vz 0), .ref (va 0), .ref (va 1), .ref (va 2), .ref (va 3), .ref (va 4), .int (vz 1), .ref (va 5), .int (vz 2), .int (vz 3), .int (vz 4), .int (vz 5), .int (vz 6), .int (vz 7), .int (vz 8), .ref (va 6), .ref (va 7), .int (vz 9), .int (vz 10), .int (vz 11), .ref (va 8), .ref (va 9), .long (vl 0), .ref (va 10), .ref (va 11), .ref (va 12), .ref (va 13), .ref (va 14), .ref (va 15), .ref (va 16), .ref (va 17), .ref (va 18), .ref (va 19)])), ((va 0), .inl ((vk 0), 1875, .inl (vF 0))), ((va 3), .inl ((vk 3), 20000, .inl (vF 3))), ((va 8), .inl ((vk 8), 12, .inl (vF 8)))] U.heap.size q → AX q := fun q h1 h2 => va_Ain (hD.sub (ws' := [(o0, .inr (8, [.int (vz 0), .ref (va 0), .ref (va 1), .ref (va 2), .ref (va 3), .ref (va 4), .int (vz 1), .ref (va 5), .int (vz 2), .int (vz 3), .int (vz 4), .int (vz 5), .int (vz 6), .int (vz 7), .int (vz 8), .ref (va 6), .ref (va 7), .int (vz 9), .int (vz 10), .int (vz 11), .ref (va 8), .ref (va 9), .long (vl 0), .ref (va 10), .ref (va 11), .ref (va 12), .ref (va 13), .ref (va 14), .ref (va 15), .ref (va 16), .ref (va 17), .ref (va 18), .ref (va 19)])), ((va 0), .inl ((vk 0), 1875, .inl (vF 0))), ((va 3), .inl ((vk 3), 20000, .inl (vF 3))), ((va 8), .inl ((vk 8), 12, .inl (vF 8)))]) [0, 1, 4, 9] (by decide) rfl) h1 h2
  refine ⟨_, _, _, kX10_mostly l dC dI o0 (vz 0) (va 0) (va 1) (va 2) (va 3) (va 4) (vz 1) (va 5) (vz 2) (vz 3) (vz 4) (vz 5) (vz 6) (vz 7) (vz 8) (va 6) (va 7) (vz 9) (vz 10) (vz 11) (va 8) (va 9) (vl 0) (va 10) (va 11) (va 12) (va 13) (va 14) (va 15) (va 16) (va 17) (va 18) (va 19) (vk 0) (vk 3) (vk 8) (vF 0) (vF 3) (vF 8) ln bs tk lw li a1 a2 U.heap.size b_ln b_bs b_tk b_lw ha_mfg (by first | with_reducible assumption | omega) (by first | with_reducible assumption | omega) (by first | with_reducible assumption | omega) (by first | with_reducible assumption | omega) (by first | with_reducible assumption | omega) (by first | with_reducible assumption | omega), ⟨rfl, ⟨rfl, hP.sub [0, 1, 4, 9] rfl, hK.sub [0, 3, 8] rfl, (hD.sub [0, 1, 4, 9] (by decide) rfl).weaken (fun _ _ _ _ => trivial), hN⟩⟩, fun o t hq hW hts => ?_, fun q h1 h2 => hFc q h1 h2⟩
  have hF := hq.2
  have h9_0 := hq.1
  clear hq
  refine Exists.elim h9_0 (fun r h9_1 => ?_)
  clear h9_0
  refine Exists.elim h9_1 (fun u h9_2 => ?_)
  clear h9_1
  refine and_el h9_2 (fun ho h9_3 => ?_)
  clear h9_2
  refine and_el h9_3 (fun hp h9_4 => ?_)
  clear h9_3
  refine Exists.elim h9_4 (fun o0_9 h9_5 => ?_)
  clear h9_4
  refine and_el h9_5 (fun hf0 h9_6 => ?_)
  clear h9_5
  refine and_el h9_6 (fun hP1 h9_7 => ?_)
  clear h9_6
  refine and_el h9_7 (fun hK1 h9_8 => ?_)
  clear h9_7
  have hD1 := h9_8
  clear h9_8
  have hP2 := va_put9 [0, 1, 4, 9] hP hD (by rfl) hF.2 hP1 (by exact Nat.le_of_ble_eq_true rfl)
  have hP3 : va_P (dC, dI) vwCl [(o0, .inr (8, [.int (vz 0), .ref (va 0), .ref (va 1), .ref (va 2), .ref (va 3), .ref (va 4), .int (vz 1), .ref (va 5), .int (vz 2), .int (vz 3), .int (vz 4), .int (vz 5), .int (vz 6), .int (vz 7), .int (vz 8), .ref (va 6), .ref (va 7), .int (vz 9), .int (vz 10), .int (vz 11), .ref (va 8), .ref (va 9), .long (vl 0), .ref (va 10), .ref (va 11), .ref (va 12), .ref (va 13), .ref (va 14), .ref (va 15), .ref (va 16), .ref (va 17), .ref (va 18), .ref (va 19)])), ((va 0), .inl ((vk 0), 1875, .inl (vF 0))), ((va 1), .inl ((vk 1), 5625, .inl (vF 1))), ((va 2), .inl ((vk 2), 3, .inl (vF 2))), ((va 3), .inl ((vk 3), 20000, .inl (vF 3))), ((va 4), .inl ((vk 4), 1200, .inl (vF 4))), ((va 5), .inl ((vk 5), 5, .inl (vF 5))), ((va 6), .inl ((vk 6), 1875, .inl (vF 6))), ((va 7), .inl ((vk 7), 78, .inl (vF 7))), ((va 8), .inl ((vk 8), 12, .inl o0_9)), ((va 9), .inl ((vk 9), 26, .inl (vF 9))), ((va 10), .inl ((vk 10), 16, .inl (vF 10))), ((va 11), .inl ((vk 11), 20000, .inl (vF 11))), ((va 12), .inl ((vk 12), 20000, .inl (vF 12))), ((va 13), .inl ((vk 13), 12, .inl monthsF)), ((va 14), .inl ((vk 14), 201, .inr (.inl (vG 0)))), ((va 15), .inl ((vk 15), 201, .inr (.inl (vG 1)))), ((va 16), .inl ((vk 16), 4, .inl (vF 13))), ((va 17), .inl ((vk 17), 4, .inl (vF 14))), ((va 18), .inl ((vk 18), 240, .inr (.inl (vG 2)))), ((va 19), .inl ((vk 19), 60, .inr (.inl (vG 3))))] t.heap := hP2
  have hK3 := va_K.moved hW.alike hK
  have hD3 : va_D AX [(o0, .inr (8, [.int (vz 0), .ref (va 0), .ref (va 1), .ref (va 2), .ref (va 3), .ref (va 4), .int (vz 1), .ref (va 5), .int (vz 2), .int (vz 3), .int (vz 4), .int (vz 5), .int (vz 6), .int (vz 7), .int (vz 8), .ref (va 6), .ref (va 7), .int (vz 9), .int (vz 10), .int (vz 11), .ref (va 8), .ref (va 9), .long (vl 0), .ref (va 10), .ref (va 11), .ref (va 12), .ref (va 13), .ref (va 14), .ref (va 15), .ref (va 16), .ref (va 17), .ref (va 18), .ref (va 19)])), ((va 0), .inl ((vk 0), 1875, .inl (vF 0))), ((va 1), .inl ((vk 1), 5625, .inl (vF 1))), ((va 2), .inl ((vk 2), 3, .inl (vF 2))), ((va 3), .inl ((vk 3), 20000, .inl (vF 3))), ((va 4), .inl ((vk 4), 1200, .inl (vF 4))), ((va 5), .inl ((vk 5), 5, .inl (vF 5))), ((va 6), .inl ((vk 6), 1875, .inl (vF 6))), ((va 7), .inl ((vk 7), 78, .inl (vF 7))), ((va 8), .inl ((vk 8), 12, .inl o0_9)), ((va 9), .inl ((vk 9), 26, .inl (vF 9))), ((va 10), .inl ((vk 10), 16, .inl (vF 10))), ((va 11), .inl ((vk 11), 20000, .inl (vF 11))), ((va 12), .inl ((vk 12), 20000, .inl (vF 12))), ((va 13), .inl ((vk 13), 12, .inl monthsF)), ((va 14), .inl ((vk 14), 201, .inr (.inl (vG 0)))), ((va 15), .inl ((vk 15), 201, .inr (.inl (vG 1)))), ((va 16), .inl ((vk 16), 4, .inl (vF 13))), ((va 17), .inl ((vk 17), 4, .inl (vF 14))), ((va 18), .inl ((vk 18), 240, .inr (.inl (vG 2)))), ((va 19), .inl ((vk 19), 60, .inr (.inl (vG 3))))] := va_Da hD rfl
  exact ⟨⟨r, (), ho, trivial, ⟨va, vz, vl, vk, (up9 vF 8 o0_9), vG, b_x_sz, b_x_at, b_x_fr, b_x_to, b_x_fk, b_x_td, hgw, hgi, hgR9, (show rg o0_9 12 0 15 from by first | with_reducible assumption | assumption), ha_mma, ha_mwi, ha_mpl, hP3, hK3, hD3⟩, by omega, hN.warm hW, hX.mv (fun a h1 h2 => hF.2 a h1 (fun z => h2 (hAn a (hFc a h1 z)))) hW.alike (fun _ _ _ _ q => vk_R.warm hW q), Nat.le_trans hn0 hF.1, fun q h => hA q (Nat.le_trans hF.1 h)⟩, hF.1, fun q h1 h2 => hF.2 q h1 (fun z => h2 (hFc q h1 z))⟩
set_option maxHeartbeats 4000000 in
set_option maxRecDepth 100000 in
theorem wX10_same (l : Launch) (dC : Nat → ClassId) (dI : Nat → Nat → Nat) (gh : Nat → Int32) (AX : Nat → Prop) (tt nB o0 : Nat) (a1 : Int32) (a2 : Int32) (a3 : Int32) (hAn : ∀ q, AX q → nB ≤ q) : Met l yX10_same uX10_same ({ frames := 3, cells := 0, slots := 0, locals := 69 }) (va_Pc [.ref o0, .int a1, .int a2, .int a3] (PM dC dI gh AX tt nB o0)) (va_Qi (fun (r : Int32) (_ : Unit) => True) (fun (_ : Unit) t => PM dC dI gh AX tt nB o0 t) AX) 0 0 AX := by
  refine Met.via (fun a U hv => ?_)
  obtain ⟨rfl, hV⟩ := hv
  refine MI.elim hV.1 (fun va vz vl vk vF vG b_x_sz b_x_at b_x_fr b_x_to b_x_fk b_x_td hgw hgi hgR9 ha_mfg ha_mma ha_mwi ha_mpl hP hK hD => ?_)
  have htt0 := hV.2.1
  have hN := hV.2.2.1
  have hX := hV.2.2.2.1
  have hn0 := hV.2.2.2.2.1
  have hA := hV.2.2.2.2.2
  obtain ⟨hgr, hwz, hpv, htp⟩ := id hgw
  obtain ⟨ln, hw0⟩ : ∃ y : Int32, (vF 0) 0 = y := ⟨_, rfl⟩
  obtain ⟨bs, hw1⟩ : ∃ y : Int32, (vF 0) 1 = y := ⟨_, rfl⟩
  obtain ⟨tk, hw2⟩ : ∃ y : Int32, (vF 0) 2 = y := ⟨_, rfl⟩
  obtain ⟨lw, hw3⟩ : ∃ y : Int32, (vF 0) 3 = y := ⟨_, rfl⟩
  obtain ⟨li, hw4⟩ : ∃ y : Int32, (vF 0) 4 = y := ⟨_, rfl⟩
  rw [hw0, hw1, hw2, hw3] at hgr hwz
  rw [hw0, hw1, hw2] at htp
  rw [hw3] at hpv
  obtain ⟨b_ln, b_bs, b_tk, b_lw⟩ := hgr
  have hFc : ∀ q : Nat, q < U.heap.size → va_A [(o0, .inr (8, [.int (vz 0), .ref (va 0), .ref (va 1), .ref (va 2), .ref (va 3), .ref (va 4), .int (vz 1), .ref (va 5), .int (vz 2), .int (vz 3), .int (vz 4), .int (vz 5), .int (vz 6), .int (vz 7), .int (vz 8), .ref (va 6), .ref (va 7), .int (vz 9), .int (vz 10), .int (vz 11), .ref (va 8), .ref (va 9), .long (vl 0), .ref (va 10), .ref (va 11), .ref (va 12), .ref (va 13), .ref (va 14), .ref (va 15), .ref (va 16), .ref (va 17), .ref (va 18), .ref (va 19)])), ((va 0), .inl ((vk 0), 1875, .inl (vF 0))), ((va 3), .inl ((vk 3), 20000, .inl (vF 3))), ((va 8), .inl ((vk 8), 12, .inl (vF 8))), ((va 10), .inl ((vk 10), 16, .inl (vF 10)))] U.heap.size q → AX q := fun q h1 h2 => va_Ain (hD.sub (ws' := [(o0, .inr (8, [.int (vz 0), .ref (va 0), .ref (va 1), .ref (va 2), .ref (va 3), .ref (va 4), .int (vz 1), .ref (va 5), .int (vz 2), .int (vz 3), .int (vz 4), .int (vz 5), .int (vz 6), .int (vz 7), .int (vz 8), .ref (va 6), .ref (va 7), .int (vz 9), .int (vz 10), .int (vz 11), .ref (va 8), .ref (va 9), .long (vl 0), .ref (va 10), .ref (va 11), .ref (va 12), .ref (va 13), .ref (va 14), .ref (va 15), .ref (va 16), .ref (va 17), .ref (va 18), .ref (va 19)])), ((va 0), .inl ((vk 0), 1875, .inl (vF 0))), ((va 3), .inl ((vk 3), 20000, .inl (vF 3))), ((va 8), .inl ((vk 8), 12, .inl (vF 8))), ((va 10), .inl ((vk 10), 16, .inl (vF 10)))]) [0, 1, 4, 9, 11] (by decide) rfl) h1 h2
  refine ⟨_, _, _, kX10_same l dC dI o0 (vz 0) (va 0) (va 1) (va 2) (va 3) (va 4) (vz 1) (va 5) (vz 2) (vz 3) (vz 4) (vz 5) (vz 6) (vz 7) (vz 8) (va 6) (va 7) (vz 9) (vz 10) (vz 11) (va 8) (va 9) (vl 0) (va 10) (va 11) (va 12) (va 13) (va 14) (va 15) (va 16) (va 17) (va 18) (va 19) (vk 0) (vk 3) (vk 8) (vk 10) (vF 0) (vF 3) (vF 8) (vF 10) ln bs tk lw li a1 a2 a3 U.heap.size b_ln b_bs b_tk b_lw ha_mfg (by first | with_reducible assumption | omega) (by first | with_reducible assumption | omega) (by first | with_reducible assumption | omega) (by first | with_reducible assumption | omega) (by first | with_reducible assumption | omega) (by first | with_reducible assumption | omega), ⟨rfl, ⟨rfl, hP.sub [0, 1, 4, 9, 11] rfl, hK.sub [0, 3, 8, 10] rfl, (hD.sub [0, 1, 4, 9, 11] (by decide) rfl).weaken (fun _ _ _ _ => trivial), hN⟩⟩, fun o t hq hW hts => ?_, fun q h1 h2 => hFc q h1 h2⟩
  have hF := hq.2
  have h9_0 := hq.1
  clear hq
  refine Exists.elim h9_0 (fun r h9_1 => ?_)
  clear h9_0
  refine Exists.elim h9_1 (fun u h9_2 => ?_)
  clear h9_1
  refine and_el h9_2 (fun ho h9_3 => ?_)
  clear h9_2
  refine and_el h9_3 (fun hp h9_4 => ?_)
  clear h9_3
  refine Exists.elim h9_4 (fun o0_9 h9_5 => ?_)
  clear h9_4
  refine Exists.elim h9_5 (fun o1_9 h9_6 => ?_)
  clear h9_5
  refine and_el h9_6 (fun hf0 h9_7 => ?_)
  clear h9_6
  refine and_el h9_7 (fun hP1 h9_8 => ?_)
  clear h9_7
  refine and_el h9_8 (fun hK1 h9_9 => ?_)
  clear h9_8
  have hD1 := h9_9
  clear h9_9
  have hP2 := va_put9 [0, 1, 4, 9, 11] hP hD (by rfl) hF.2 hP1 (by exact Nat.le_of_ble_eq_true rfl)
  have hP3 : va_P (dC, dI) vwCl [(o0, .inr (8, [.int (vz 0), .ref (va 0), .ref (va 1), .ref (va 2), .ref (va 3), .ref (va 4), .int (vz 1), .ref (va 5), .int (vz 2), .int (vz 3), .int (vz 4), .int (vz 5), .int (vz 6), .int (vz 7), .int (vz 8), .ref (va 6), .ref (va 7), .int (vz 9), .int (vz 10), .int (vz 11), .ref (va 8), .ref (va 9), .long (vl 0), .ref (va 10), .ref (va 11), .ref (va 12), .ref (va 13), .ref (va 14), .ref (va 15), .ref (va 16), .ref (va 17), .ref (va 18), .ref (va 19)])), ((va 0), .inl ((vk 0), 1875, .inl (vF 0))), ((va 1), .inl ((vk 1), 5625, .inl (vF 1))), ((va 2), .inl ((vk 2), 3, .inl (vF 2))), ((va 3), .inl ((vk 3), 20000, .inl (vF 3))), ((va 4), .inl ((vk 4), 1200, .inl (vF 4))), ((va 5), .inl ((vk 5), 5, .inl (vF 5))), ((va 6), .inl ((vk 6), 1875, .inl (vF 6))), ((va 7), .inl ((vk 7), 78, .inl (vF 7))), ((va 8), .inl ((vk 8), 12, .inl o0_9)), ((va 9), .inl ((vk 9), 26, .inl (vF 9))), ((va 10), .inl ((vk 10), 16, .inl o1_9)), ((va 11), .inl ((vk 11), 20000, .inl (vF 11))), ((va 12), .inl ((vk 12), 20000, .inl (vF 12))), ((va 13), .inl ((vk 13), 12, .inl monthsF)), ((va 14), .inl ((vk 14), 201, .inr (.inl (vG 0)))), ((va 15), .inl ((vk 15), 201, .inr (.inl (vG 1)))), ((va 16), .inl ((vk 16), 4, .inl (vF 13))), ((va 17), .inl ((vk 17), 4, .inl (vF 14))), ((va 18), .inl ((vk 18), 240, .inr (.inl (vG 2)))), ((va 19), .inl ((vk 19), 60, .inr (.inl (vG 3))))] t.heap := hP2
  have hK3 := va_K.moved hW.alike hK
  have hD3 : va_D AX [(o0, .inr (8, [.int (vz 0), .ref (va 0), .ref (va 1), .ref (va 2), .ref (va 3), .ref (va 4), .int (vz 1), .ref (va 5), .int (vz 2), .int (vz 3), .int (vz 4), .int (vz 5), .int (vz 6), .int (vz 7), .int (vz 8), .ref (va 6), .ref (va 7), .int (vz 9), .int (vz 10), .int (vz 11), .ref (va 8), .ref (va 9), .long (vl 0), .ref (va 10), .ref (va 11), .ref (va 12), .ref (va 13), .ref (va 14), .ref (va 15), .ref (va 16), .ref (va 17), .ref (va 18), .ref (va 19)])), ((va 0), .inl ((vk 0), 1875, .inl (vF 0))), ((va 1), .inl ((vk 1), 5625, .inl (vF 1))), ((va 2), .inl ((vk 2), 3, .inl (vF 2))), ((va 3), .inl ((vk 3), 20000, .inl (vF 3))), ((va 4), .inl ((vk 4), 1200, .inl (vF 4))), ((va 5), .inl ((vk 5), 5, .inl (vF 5))), ((va 6), .inl ((vk 6), 1875, .inl (vF 6))), ((va 7), .inl ((vk 7), 78, .inl (vF 7))), ((va 8), .inl ((vk 8), 12, .inl o0_9)), ((va 9), .inl ((vk 9), 26, .inl (vF 9))), ((va 10), .inl ((vk 10), 16, .inl o1_9)), ((va 11), .inl ((vk 11), 20000, .inl (vF 11))), ((va 12), .inl ((vk 12), 20000, .inl (vF 12))), ((va 13), .inl ((vk 13), 12, .inl monthsF)), ((va 14), .inl ((vk 14), 201, .inr (.inl (vG 0)))), ((va 15), .inl ((vk 15), 201, .inr (.inl (vG 1)))), ((va 16), .inl ((vk 16), 4, .inl (vF 13))), ((va 17), .inl ((vk 17), 4, .inl (vF 14))), ((va 18), .inl ((vk 18), 240, .inr (.inl (vG 2)))), ((va 19), .inl ((vk 19), 60, .inr (.inl (vG 3))))] := va_Da hD rfl
  exact ⟨⟨r, (), ho, trivial, ⟨va, vz, vl, vk, (up9 (up9 vF 8 o0_9) 10 o1_9), vG, b_x_sz, b_x_at, b_x_fr, b_x_to, b_x_fk, b_x_td, hgw, hgi, hgR9, (show rg o0_9 12 0 15 from by first | with_reducible assumption | assumption), ha_mma, ha_mwi, ha_mpl, hP3, hK3, hD3⟩, by omega, hN.warm hW, hX.mv (fun a h1 h2 => hF.2 a h1 (fun z => h2 (hAn a (hFc a h1 z)))) hW.alike (fun _ _ _ _ q => vk_R.warm hW q), Nat.le_trans hn0 hF.1, fun q h => hA q (Nat.le_trans hF.1 h)⟩, hF.1, fun q h1 h2 => hF.2 q h1 (fun z => h2 (hFc q h1 z))⟩
set_option maxHeartbeats 4000000 in
set_option maxRecDepth 100000 in
theorem wX10_walk (l : Launch) (dC : Nat → ClassId) (dI : Nat → Nat → Nat) (gh : Nat → Int32) (AX : Nat → Prop) (tt nB o0 : Nat) (a1 : Int32) (a2 : Int32) (a3 : Int32) (hAn : ∀ q, AX q → nB ≤ q) : Met l yX10_walk uX10_walk ({ frames := 3, cells := 0, slots := 0, locals := 69 }) (va_Pc [.ref o0, .int a1, .int a2, .int a3] (PM dC dI gh AX tt nB o0)) (va_Qi (fun (r : Int32) (_ : Unit) => True) (fun (_ : Unit) t => PM dC dI gh AX tt nB o0 t) AX) 0 0 AX := by
  refine Met.via (fun a U hv => ?_)
  obtain ⟨rfl, hV⟩ := hv
  refine MI.elim hV.1 (fun va vz vl vk vF vG b_x_sz b_x_at b_x_fr b_x_to b_x_fk b_x_td hgw hgi hgR9 ha_mfg ha_mma ha_mwi ha_mpl hP hK hD => ?_)
  have htt0 := hV.2.1
  have hN := hV.2.2.1
  have hX := hV.2.2.2.1
  have hn0 := hV.2.2.2.2.1
  have hA := hV.2.2.2.2.2
  obtain ⟨hgr, hwz, hpv, htp⟩ := id hgw
  obtain ⟨ln, hw0⟩ : ∃ y : Int32, (vF 0) 0 = y := ⟨_, rfl⟩
  obtain ⟨bs, hw1⟩ : ∃ y : Int32, (vF 0) 1 = y := ⟨_, rfl⟩
  obtain ⟨tk, hw2⟩ : ∃ y : Int32, (vF 0) 2 = y := ⟨_, rfl⟩
  obtain ⟨lw, hw3⟩ : ∃ y : Int32, (vF 0) 3 = y := ⟨_, rfl⟩
  obtain ⟨li, hw4⟩ : ∃ y : Int32, (vF 0) 4 = y := ⟨_, rfl⟩
  rw [hw0, hw1, hw2, hw3] at hgr hwz
  rw [hw0, hw1, hw2] at htp
  rw [hw3] at hpv
  obtain ⟨b_ln, b_bs, b_tk, b_lw⟩ := hgr
  have hFc : ∀ q : Nat, q < U.heap.size → va_A [(o0, .inr (8, [.int (vz 0), .ref (va 0), .ref (va 1), .ref (va 2), .ref (va 3), .ref (va 4), .int (vz 1), .ref (va 5), .int (vz 2), .int (vz 3), .int (vz 4), .int (vz 5), .int (vz 6), .int (vz 7), .int (vz 8), .ref (va 6), .ref (va 7), .int (vz 9), .int (vz 10), .int (vz 11), .ref (va 8), .ref (va 9), .long (vl 0), .ref (va 10), .ref (va 11), .ref (va 12), .ref (va 13), .ref (va 14), .ref (va 15), .ref (va 16), .ref (va 17), .ref (va 18), .ref (va 19)])), ((va 0), .inl ((vk 0), 1875, .inl (vF 0))), ((va 3), .inl ((vk 3), 20000, .inl (vF 3))), ((va 11), .inl ((vk 11), 20000, .inl (vF 11))), ((va 12), .inl ((vk 12), 20000, .inl (vF 12)))] U.heap.size q → AX q := fun q h1 h2 => va_Ain (hD.sub (ws' := [(o0, .inr (8, [.int (vz 0), .ref (va 0), .ref (va 1), .ref (va 2), .ref (va 3), .ref (va 4), .int (vz 1), .ref (va 5), .int (vz 2), .int (vz 3), .int (vz 4), .int (vz 5), .int (vz 6), .int (vz 7), .int (vz 8), .ref (va 6), .ref (va 7), .int (vz 9), .int (vz 10), .int (vz 11), .ref (va 8), .ref (va 9), .long (vl 0), .ref (va 10), .ref (va 11), .ref (va 12), .ref (va 13), .ref (va 14), .ref (va 15), .ref (va 16), .ref (va 17), .ref (va 18), .ref (va 19)])), ((va 0), .inl ((vk 0), 1875, .inl (vF 0))), ((va 3), .inl ((vk 3), 20000, .inl (vF 3))), ((va 11), .inl ((vk 11), 20000, .inl (vF 11))), ((va 12), .inl ((vk 12), 20000, .inl (vF 12)))]) [0, 1, 4, 12, 13] (by decide) rfl) h1 h2
  refine ⟨_, _, _, kX10_walk l dC dI o0 (vz 0) (va 0) (va 1) (va 2) (va 3) (va 4) (vz 1) (va 5) (vz 2) (vz 3) (vz 4) (vz 5) (vz 6) (vz 7) (vz 8) (va 6) (va 7) (vz 9) (vz 10) (vz 11) (va 8) (va 9) (vl 0) (va 10) (va 11) (va 12) (va 13) (va 14) (va 15) (va 16) (va 17) (va 18) (va 19) (vk 0) (vk 3) (vk 11) (vk 12) (vF 0) (vF 3) (vF 11) (vF 12) ln bs tk lw li a1 a2 a3 U.heap.size b_ln b_bs b_tk b_lw (by first | with_reducible assumption | omega) (by first | with_reducible assumption | omega) (by first | with_reducible assumption | omega) (by first | with_reducible assumption | omega) (by first | with_reducible assumption | omega) (by first | with_reducible assumption | omega) (by first | with_reducible assumption | omega), ⟨rfl, ⟨rfl, hP.sub [0, 1, 4, 12, 13] rfl, hK.sub [0, 3, 11, 12] rfl, (hD.sub [0, 1, 4, 12, 13] (by decide) rfl).weaken (fun _ _ _ _ => trivial), hN⟩⟩, fun o t hq hW hts => ?_, fun q h1 h2 => hFc q h1 h2⟩
  have hF := hq.2
  have h9_0 := hq.1
  clear hq
  refine Exists.elim h9_0 (fun r h9_1 => ?_)
  clear h9_0
  refine Exists.elim h9_1 (fun u h9_2 => ?_)
  clear h9_1
  refine and_el h9_2 (fun ho h9_3 => ?_)
  clear h9_2
  refine and_el h9_3 (fun hp h9_4 => ?_)
  clear h9_3
  refine Exists.elim h9_4 (fun o0_9 h9_5 => ?_)
  clear h9_4
  refine Exists.elim h9_5 (fun o1_9 h9_6 => ?_)
  clear h9_5
  refine and_el h9_6 (fun hP1 h9_7 => ?_)
  clear h9_6
  refine and_el h9_7 (fun hK1 h9_8 => ?_)
  clear h9_7
  have hD1 := h9_8
  clear h9_8
  have hP2 := va_put9 [0, 1, 4, 12, 13] hP hD (by rfl) hF.2 hP1 (by exact Nat.le_of_ble_eq_true rfl)
  have hP3 : va_P (dC, dI) vwCl [(o0, .inr (8, [.int (vz 0), .ref (va 0), .ref (va 1), .ref (va 2), .ref (va 3), .ref (va 4), .int (vz 1), .ref (va 5), .int (vz 2), .int (vz 3), .int (vz 4), .int (vz 5), .int (vz 6), .int (vz 7), .int (vz 8), .ref (va 6), .ref (va 7), .int (vz 9), .int (vz 10), .int (vz 11), .ref (va 8), .ref (va 9), .long (vl 0), .ref (va 10), .ref (va 11), .ref (va 12), .ref (va 13), .ref (va 14), .ref (va 15), .ref (va 16), .ref (va 17), .ref (va 18), .ref (va 19)])), ((va 0), .inl ((vk 0), 1875, .inl (vF 0))), ((va 1), .inl ((vk 1), 5625, .inl (vF 1))), ((va 2), .inl ((vk 2), 3, .inl (vF 2))), ((va 3), .inl ((vk 3), 20000, .inl (vF 3))), ((va 4), .inl ((vk 4), 1200, .inl (vF 4))), ((va 5), .inl ((vk 5), 5, .inl (vF 5))), ((va 6), .inl ((vk 6), 1875, .inl (vF 6))), ((va 7), .inl ((vk 7), 78, .inl (vF 7))), ((va 8), .inl ((vk 8), 12, .inl (vF 8))), ((va 9), .inl ((vk 9), 26, .inl (vF 9))), ((va 10), .inl ((vk 10), 16, .inl (vF 10))), ((va 11), .inl ((vk 11), 20000, .inl o0_9)), ((va 12), .inl ((vk 12), 20000, .inl o1_9)), ((va 13), .inl ((vk 13), 12, .inl monthsF)), ((va 14), .inl ((vk 14), 201, .inr (.inl (vG 0)))), ((va 15), .inl ((vk 15), 201, .inr (.inl (vG 1)))), ((va 16), .inl ((vk 16), 4, .inl (vF 13))), ((va 17), .inl ((vk 17), 4, .inl (vF 14))), ((va 18), .inl ((vk 18), 240, .inr (.inl (vG 2)))), ((va 19), .inl ((vk 19), 60, .inr (.inl (vG 3))))] t.heap := hP2
  have hK3 := va_K.moved hW.alike hK
  have hD3 : va_D AX [(o0, .inr (8, [.int (vz 0), .ref (va 0), .ref (va 1), .ref (va 2), .ref (va 3), .ref (va 4), .int (vz 1), .ref (va 5), .int (vz 2), .int (vz 3), .int (vz 4), .int (vz 5), .int (vz 6), .int (vz 7), .int (vz 8), .ref (va 6), .ref (va 7), .int (vz 9), .int (vz 10), .int (vz 11), .ref (va 8), .ref (va 9), .long (vl 0), .ref (va 10), .ref (va 11), .ref (va 12), .ref (va 13), .ref (va 14), .ref (va 15), .ref (va 16), .ref (va 17), .ref (va 18), .ref (va 19)])), ((va 0), .inl ((vk 0), 1875, .inl (vF 0))), ((va 1), .inl ((vk 1), 5625, .inl (vF 1))), ((va 2), .inl ((vk 2), 3, .inl (vF 2))), ((va 3), .inl ((vk 3), 20000, .inl (vF 3))), ((va 4), .inl ((vk 4), 1200, .inl (vF 4))), ((va 5), .inl ((vk 5), 5, .inl (vF 5))), ((va 6), .inl ((vk 6), 1875, .inl (vF 6))), ((va 7), .inl ((vk 7), 78, .inl (vF 7))), ((va 8), .inl ((vk 8), 12, .inl (vF 8))), ((va 9), .inl ((vk 9), 26, .inl (vF 9))), ((va 10), .inl ((vk 10), 16, .inl (vF 10))), ((va 11), .inl ((vk 11), 20000, .inl o0_9)), ((va 12), .inl ((vk 12), 20000, .inl o1_9)), ((va 13), .inl ((vk 13), 12, .inl monthsF)), ((va 14), .inl ((vk 14), 201, .inr (.inl (vG 0)))), ((va 15), .inl ((vk 15), 201, .inr (.inl (vG 1)))), ((va 16), .inl ((vk 16), 4, .inl (vF 13))), ((va 17), .inl ((vk 17), 4, .inl (vF 14))), ((va 18), .inl ((vk 18), 240, .inr (.inl (vG 2)))), ((va 19), .inl ((vk 19), 60, .inr (.inl (vG 3))))] := va_Da hD rfl
  exact ⟨⟨r, (), ho, trivial, ⟨va, vz, vl, vk, (up9 (up9 vF 11 o0_9) 12 o1_9), vG, b_x_sz, b_x_at, b_x_fr, b_x_to, b_x_fk, b_x_td, hgw, hgi, hgR9, ha_mfg, ha_mma, ha_mwi, ha_mpl, hP3, hK3, hD3⟩, by omega, hN.warm hW, hX.mv (fun a h1 h2 => hF.2 a h1 (fun z => h2 (hAn a (hFc a h1 z)))) hW.alike (fun _ _ _ _ q => vk_R.warm hW q), Nat.le_trans hn0 hF.1, fun q h => hA q (Nat.le_trans hF.1 h)⟩, hF.1, fun q h1 h2 => hF.2 q h1 (fun z => h2 (hFc q h1 z))⟩
set_option maxHeartbeats 4000000 in
set_option maxRecDepth 100000 in
theorem wX10_islands (l : Launch) (dC : Nat → ClassId) (dI : Nat → Nat → Nat) (gh : Nat → Int32) (AX : Nat → Prop) (tt nB o0 : Nat) (a1 : Int32) (a2 : Int32) (hAn : ∀ q, AX q → nB ≤ q) : Met l yX10_islands uX10_islands ({ frames := 2, cells := 0, slots := 0, locals := 52 }) (va_Pc [.ref o0, .int a1, .int a2] (PM dC dI gh AX tt nB o0)) (va_Qi (fun (r : Int32) (_ : Unit) => True) (fun (_ : Unit) t => PM dC dI gh AX tt nB o0 t) AX) 0 0 AX := by
  refine Met.via (fun a U hv => ?_)
  obtain ⟨rfl, hV⟩ := hv
  refine MI.elim hV.1 (fun va vz vl vk vF vG b_x_sz b_x_at b_x_fr b_x_to b_x_fk b_x_td hgw hgi hgR9 ha_mfg ha_mma ha_mwi ha_mpl hP hK hD => ?_)
  have htt0 := hV.2.1
  have hN := hV.2.2.1
  have hX := hV.2.2.2.1
  have hn0 := hV.2.2.2.2.1
  have hA := hV.2.2.2.2.2
  obtain ⟨hgr, hwz, hpv, htp⟩ := id hgw
  obtain ⟨ln, hw0⟩ : ∃ y : Int32, (vF 0) 0 = y := ⟨_, rfl⟩
  obtain ⟨bs, hw1⟩ : ∃ y : Int32, (vF 0) 1 = y := ⟨_, rfl⟩
  obtain ⟨tk, hw2⟩ : ∃ y : Int32, (vF 0) 2 = y := ⟨_, rfl⟩
  obtain ⟨lw, hw3⟩ : ∃ y : Int32, (vF 0) 3 = y := ⟨_, rfl⟩
  obtain ⟨li, hw4⟩ : ∃ y : Int32, (vF 0) 4 = y := ⟨_, rfl⟩
  rw [hw0, hw1, hw2, hw3] at hgr hwz
  rw [hw0, hw1, hw2] at htp
  rw [hw3] at hpv
  obtain ⟨b_ln, b_bs, b_tk, b_lw⟩ := hgr
  have hFc : ∀ q : Nat, q < U.heap.size → va_A [(o0, .inr (8, [.int (vz 0), .ref (va 0), .ref (va 1), .ref (va 2), .ref (va 3), .ref (va 4), .int (vz 1), .ref (va 5), .int (vz 2), .int (vz 3), .int (vz 4), .int (vz 5), .int (vz 6), .int (vz 7), .int (vz 8), .ref (va 6), .ref (va 7), .int (vz 9), .int (vz 10), .int (vz 11), .ref (va 8), .ref (va 9), .long (vl 0), .ref (va 10), .ref (va 11), .ref (va 12), .ref (va 13), .ref (va 14), .ref (va 15), .ref (va 16), .ref (va 17), .ref (va 18), .ref (va 19)])), ((va 0), .inl ((vk 0), 1875, .inl (vF 0))), ((va 3), .inl ((vk 3), 20000, .inl (vF 3))), ((va 11), .inl ((vk 11), 20000, .inl (vF 11))), ((va 12), .inl ((vk 12), 20000, .inl (vF 12)))] U.heap.size q → AX q := fun q h1 h2 => va_Ain (hD.sub (ws' := [(o0, .inr (8, [.int (vz 0), .ref (va 0), .ref (va 1), .ref (va 2), .ref (va 3), .ref (va 4), .int (vz 1), .ref (va 5), .int (vz 2), .int (vz 3), .int (vz 4), .int (vz 5), .int (vz 6), .int (vz 7), .int (vz 8), .ref (va 6), .ref (va 7), .int (vz 9), .int (vz 10), .int (vz 11), .ref (va 8), .ref (va 9), .long (vl 0), .ref (va 10), .ref (va 11), .ref (va 12), .ref (va 13), .ref (va 14), .ref (va 15), .ref (va 16), .ref (va 17), .ref (va 18), .ref (va 19)])), ((va 0), .inl ((vk 0), 1875, .inl (vF 0))), ((va 3), .inl ((vk 3), 20000, .inl (vF 3))), ((va 11), .inl ((vk 11), 20000, .inl (vF 11))), ((va 12), .inl ((vk 12), 20000, .inl (vF 12)))]) [0, 1, 4, 12, 13] (by decide) rfl) h1 h2
  refine ⟨_, _, _, kX10_islands l dC dI o0 (vz 0) (va 0) (va 1) (va 2) (va 3) (va 4) (vz 1) (va 5) (vz 2) (vz 3) (vz 4) (vz 5) (vz 6) (vz 7) (vz 8) (va 6) (va 7) (vz 9) (vz 10) (vz 11) (va 8) (va 9) (vl 0) (va 10) (va 11) (va 12) (va 13) (va 14) (va 15) (va 16) (va 17) (va 18) (va 19) (vk 0) (vk 3) (vk 11) (vk 12) (vF 0) (vF 3) (vF 11) (vF 12) ln bs tk lw li a1 a2 U.heap.size b_ln b_bs b_tk b_lw (by first | with_reducible assumption | omega) (by first | with_reducible assumption | omega) (by first | with_reducible assumption | omega) (by first | with_reducible assumption | omega) (by first | with_reducible assumption | omega) (by first | with_reducible assumption | omega) (by first | with_reducible assumption | omega), ⟨rfl, ⟨rfl, hP.sub [0, 1, 4, 12, 13] rfl, hK.sub [0, 3, 11, 12] rfl, (hD.sub [0, 1, 4, 12, 13] (by decide) rfl).weaken (fun _ _ _ _ => trivial), hN⟩⟩, fun o t hq hW hts => ?_, fun q h1 h2 => hFc q h1 h2⟩
  have hF := hq.2
  have h9_0 := hq.1
  clear hq
  refine Exists.elim h9_0 (fun r h9_1 => ?_)
  clear h9_0
  refine Exists.elim h9_1 (fun u h9_2 => ?_)
  clear h9_1
  refine and_el h9_2 (fun ho h9_3 => ?_)
  clear h9_2
  refine and_el h9_3 (fun hp h9_4 => ?_)
  clear h9_3
  refine Exists.elim h9_4 (fun o0_9 h9_5 => ?_)
  clear h9_4
  refine Exists.elim h9_5 (fun o1_9 h9_6 => ?_)
  clear h9_5
  refine and_el h9_6 (fun hP1 h9_7 => ?_)
  clear h9_6
  refine and_el h9_7 (fun hK1 h9_8 => ?_)
  clear h9_7
  have hD1 := h9_8
  clear h9_8
  have hP2 := va_put9 [0, 1, 4, 12, 13] hP hD (by rfl) hF.2 hP1 (by exact Nat.le_of_ble_eq_true rfl)
  have hP3 : va_P (dC, dI) vwCl [(o0, .inr (8, [.int (vz 0), .ref (va 0), .ref (va 1), .ref (va 2), .ref (va 3), .ref (va 4), .int (vz 1), .ref (va 5), .int (vz 2), .int (vz 3), .int (vz 4), .int (vz 5), .int (vz 6), .int (vz 7), .int (vz 8), .ref (va 6), .ref (va 7), .int (vz 9), .int (vz 10), .int (vz 11), .ref (va 8), .ref (va 9), .long (vl 0), .ref (va 10), .ref (va 11), .ref (va 12), .ref (va 13), .ref (va 14), .ref (va 15), .ref (va 16), .ref (va 17), .ref (va 18), .ref (va 19)])), ((va 0), .inl ((vk 0), 1875, .inl (vF 0))), ((va 1), .inl ((vk 1), 5625, .inl (vF 1))), ((va 2), .inl ((vk 2), 3, .inl (vF 2))), ((va 3), .inl ((vk 3), 20000, .inl (vF 3))), ((va 4), .inl ((vk 4), 1200, .inl (vF 4))), ((va 5), .inl ((vk 5), 5, .inl (vF 5))), ((va 6), .inl ((vk 6), 1875, .inl (vF 6))), ((va 7), .inl ((vk 7), 78, .inl (vF 7))), ((va 8), .inl ((vk 8), 12, .inl (vF 8))), ((va 9), .inl ((vk 9), 26, .inl (vF 9))), ((va 10), .inl ((vk 10), 16, .inl (vF 10))), ((va 11), .inl ((vk 11), 20000, .inl o0_9)), ((va 12), .inl ((vk 12), 20000, .inl o1_9)), ((va 13), .inl ((vk 13), 12, .inl monthsF)), ((va 14), .inl ((vk 14), 201, .inr (.inl (vG 0)))), ((va 15), .inl ((vk 15), 201, .inr (.inl (vG 1)))), ((va 16), .inl ((vk 16), 4, .inl (vF 13))), ((va 17), .inl ((vk 17), 4, .inl (vF 14))), ((va 18), .inl ((vk 18), 240, .inr (.inl (vG 2)))), ((va 19), .inl ((vk 19), 60, .inr (.inl (vG 3))))] t.heap := hP2
  have hK3 := va_K.moved hW.alike hK
  have hD3 : va_D AX [(o0, .inr (8, [.int (vz 0), .ref (va 0), .ref (va 1), .ref (va 2), .ref (va 3), .ref (va 4), .int (vz 1), .ref (va 5), .int (vz 2), .int (vz 3), .int (vz 4), .int (vz 5), .int (vz 6), .int (vz 7), .int (vz 8), .ref (va 6), .ref (va 7), .int (vz 9), .int (vz 10), .int (vz 11), .ref (va 8), .ref (va 9), .long (vl 0), .ref (va 10), .ref (va 11), .ref (va 12), .ref (va 13), .ref (va 14), .ref (va 15), .ref (va 16), .ref (va 17), .ref (va 18), .ref (va 19)])), ((va 0), .inl ((vk 0), 1875, .inl (vF 0))), ((va 1), .inl ((vk 1), 5625, .inl (vF 1))), ((va 2), .inl ((vk 2), 3, .inl (vF 2))), ((va 3), .inl ((vk 3), 20000, .inl (vF 3))), ((va 4), .inl ((vk 4), 1200, .inl (vF 4))), ((va 5), .inl ((vk 5), 5, .inl (vF 5))), ((va 6), .inl ((vk 6), 1875, .inl (vF 6))), ((va 7), .inl ((vk 7), 78, .inl (vF 7))), ((va 8), .inl ((vk 8), 12, .inl (vF 8))), ((va 9), .inl ((vk 9), 26, .inl (vF 9))), ((va 10), .inl ((vk 10), 16, .inl (vF 10))), ((va 11), .inl ((vk 11), 20000, .inl o0_9)), ((va 12), .inl ((vk 12), 20000, .inl o1_9)), ((va 13), .inl ((vk 13), 12, .inl monthsF)), ((va 14), .inl ((vk 14), 201, .inr (.inl (vG 0)))), ((va 15), .inl ((vk 15), 201, .inr (.inl (vG 1)))), ((va 16), .inl ((vk 16), 4, .inl (vF 13))), ((va 17), .inl ((vk 17), 4, .inl (vF 14))), ((va 18), .inl ((vk 18), 240, .inr (.inl (vG 2)))), ((va 19), .inl ((vk 19), 60, .inr (.inl (vG 3))))] := va_Da hD rfl
  exact ⟨⟨r, (), ho, trivial, ⟨va, vz, vl, vk, (up9 (up9 vF 11 o0_9) 12 o1_9), vG, b_x_sz, b_x_at, b_x_fr, b_x_to, b_x_fk, b_x_td, hgw, hgi, hgR9, ha_mfg, ha_mma, ha_mwi, ha_mpl, hP3, hK3, hD3⟩, by omega, hN.warm hW, hX.mv (fun a h1 h2 => hF.2 a h1 (fun z => h2 (hAn a (hFc a h1 z)))) hW.alike (fun _ _ _ _ q => vk_R.warm hW q), Nat.le_trans hn0 hF.1, fun q h => hA q (Nat.le_trans hF.1 h)⟩, hF.1, fun q h1 h2 => hF.2 q h1 (fun z => h2 (hFc q h1 z))⟩
set_option maxHeartbeats 4000000 in
set_option maxRecDepth 100000 in
theorem wX10_date (l : Launch) (dC : Nat → ClassId) (dI : Nat → Nat → Nat) (gh : Nat → Int32) (AX : Nat → Prop) (tt nB o0 : Nat) (a1 : Int32) (hAn : ∀ q, AX q → nB ≤ q) : Met l yX10_date quX10_date ({ frames := 2, cells := 0, slots := 0, locals := 45 }) (va_Pc [.ref o0, .int a1] (PM dC dI gh AX tt nB o0)) (va_Qi (fun (r : Int32) (_ : Unit) => True) (fun (_ : Unit) t => PM dC dI gh AX tt nB o0 t) AX) 0 0 AX := by
  refine Met.via (fun a U hv => ?_)
  obtain ⟨rfl, hV⟩ := hv
  refine MI.elim hV.1 (fun va vz vl vk vF vG b_x_sz b_x_at b_x_fr b_x_to b_x_fk b_x_td hgw hgi hgR9 ha_mfg ha_mma ha_mwi ha_mpl hP hK hD => ?_)
  have htt0 := hV.2.1
  have hN := hV.2.2.1
  have hX := hV.2.2.2.1
  have hn0 := hV.2.2.2.2.1
  have hA := hV.2.2.2.2.2
  refine ⟨_, _, _, qkX10_date l dC dI o0 (va 0) (va 1) (va 2) (va 3) (va 4) (va 5) (va 6) (va 7) (va 8) (va 9) (va 10) (va 11) (va 12) (va 13) (va 14) (va 15) (va 16) (va 17) (va 18) (va 19) (vz 0) (vz 1) (vz 2) (vz 3) (vz 4) (vz 5) (vz 6) (vz 7) (vz 8) (vz 9) (vz 10) (vz 11) (vl 0) (vk 13) a1 , ⟨rfl, ⟨hP.sub [0, 14] rfl, hK.sub [13] rfl, hN⟩⟩, fun o t hq hW _ => ?_, fun q _ hq => hq.elim⟩
  obtain ⟨r, ho, hp, hh⟩ := hq
  exact ⟨⟨r, (), ho, trivial, PM_same hV hh hW⟩, by rw [hh]; exact Nat.le_refl _, fun q _ _ => by rw [hh]⟩
