set_option maxHeartbeats 4000000 in
set_option maxRecDepth 100000 in
theorem wX9_feed (l : Launch) (dC : Nat → ClassId) (dI : Nat → Nat → Nat) (gh : Nat → Int32) (AX : Nat → Prop) (cc nB h0 : Nat) (a1 : Int32) (a2 : Int32) (a3 : Int32) (a4 : Int32) (a5 : Int32) (hAn : ∀ q, AX q → nB ≤ q) : Met l yX9_feed uX9_feed ({ frames := 1, cells := 0, slots := 0, locals := 22 }) (va_Pc [.ref h0, .int a1, .int a2, .int a3, .int a4, .int a5] (PX dC dI gh AX cc nB h0)) (va_Qi (fun (r : Int32) (_ : Unit) => True) (fun (_ : Unit) t => PX dC dI gh AX cc nB h0 t) AX) 0 0 AX := by
  refine Met.via (fun a U hv => ?_)
  obtain ⟨rfl, hV⟩ := hv
  refine XI.elim hV.1 (fun va vz vk vF vG b_ts b_sn b_sb b_si b_sw b_ss b_xf b_xp b_xt b_xa b_xo b_ln b_bs b_tk b_lw b_ln_0 b_bs_0 b_tk_0 b_lw_0 b_ln_1 b_bs_1 b_tk_1 b_lw_1 b_ln_2 b_bs_2 b_tk_2 b_lw_2 b_wd0 b_wd1 b_wd2 b_wd3 b_rz0 b_rz1 b_rz2 b_rz3 hrd hnl hnm hge hrk hnl0 hnm0 hge0 hrk0 hnl1 hnm1 hge1 hrk1 hnl2 hnm2 hge2 hrk2 hnr hq1 hq3 hg9_0 hg9_1 hg9_2 hg9_3 ha_en htot hP hK hD => ?_)
  have hN := hV.2.1
  have hX := hV.2.2.1
  have hn0 := hV.2.2.2.1
  have hA := hV.2.2.2.2
  have hFc : ∀ q : Nat, q < U.heap.size → va_A [(h0, .inr (7, [.ref (va 0), .ref (va 1), .ref (va 2), .ref (va 3), .ref (va 4), .ref (va 5), .ref (va 6), .ref (va 7), .ref (va 8), .ref (va 9)])), ((va 0), .inr (6, [.ref (va 10), .int (vz 0)])), ((va 10), .inl ((vk 0), 1200, .inl (vF 0)))] U.heap.size q → AX q := fun q h1 h2 => va_Ain (hD.sub (ws' := [(h0, .inr (7, [.ref (va 0), .ref (va 1), .ref (va 2), .ref (va 3), .ref (va 4), .ref (va 5), .ref (va 6), .ref (va 7), .ref (va 8), .ref (va 9)])), ((va 0), .inr (6, [.ref (va 10), .int (vz 0)])), ((va 10), .inl ((vk 0), 1200, .inl (vF 0)))]) [0, 1, 2] (by decide) rfl) h1 h2
  refine ⟨_, _, _, kX9_feed l dC dI h0 (va 1) (va 2) (va 3) (va 4) (va 5) (va 6) (va 7) (va 8) (va 9) (va 0) (va 10) (vz 0) (vk 0) (vF 0) a1 a2 a3 a4 a5 U.heap.size b_ts, ⟨rfl, ⟨rfl, hP.sub [0, 1, 2] rfl, hK.sub [0] rfl, (hD.sub [0, 1, 2] (by decide) rfl).weaken (fun _ _ _ _ => trivial), hN⟩⟩, fun o t hq hW hts => ?_, fun q h1 h2 => hFc q h1 h2⟩
  have hF := hq.2
  have h9_0 := hq.1
  clear hq
  refine Exists.elim h9_0 (fun r h9_1 => ?_)
  clear h9_0
  refine Exists.elim h9_1 (fun u h9_2 => ?_)
  clear h9_1
  refine and_el h9_2 (fun ho h9_3 => ?_)
  clear h9_2
  refine and_el h9_3 (fun hp h9_4 => ?_)
  clear h9_3
  refine Exists.elim h9_4 (fun o0_9 h9_5 => ?_)
  clear h9_4
  refine Exists.elim h9_5 (fun o1_9 h9_6 => ?_)
  clear h9_5
  refine and_el h9_6 (fun b_o0_9 h9_7 => ?_)
  clear h9_6
  refine and_el h9_7 (fun hP1 h9_8 => ?_)
  clear h9_7
  refine and_el h9_8 (fun hK1 h9_9 => ?_)
  clear h9_8
  have hD1 := h9_9
  clear h9_9
  have hP2 := va_put9 [0, 1, 2] hP hD (by rfl) hF.2 hP1 (by exact Nat.le_of_ble_eq_true rfl)
  have hP3 : va_P (dC, dI) vwCl [(h0, .inr (7, [.ref (va 0), .ref (va 1), .ref (va 2), .ref (va 3), .ref (va 4), .ref (va 5), .ref (va 6), .ref (va 7), .ref (va 8), .ref (va 9)])), ((va 0), .inr (6, [.ref (va 10), .int o0_9])), ((va 10), .inl ((vk 0), 1200, .inl o1_9)), ((va 1), .inr (3, [.int (vz 1), .int (vz 2), .int (vz 3), .int (vz 4), .int (vz 5), .ref (va 11), .ref (va 12), .ref (va 13), .ref (va 14)])), ((va 11), .inl ((vk 1), 9, .inl (vF 1))), ((va 12), .inl ((vk 2), 600, .inl (vF 2))), ((va 13), .inl ((vk 3), 600, .inr (.inl (vG 0)))), ((va 14), .inl ((vk 4), 600, .inr (.inl (vG 1)))), ((va 2), .inr (0, [.ref (va 0), .ref (va 1), .int (vz 6), .int (vz 7), .int (vz 8), .int (vz 9), .int (vz 10), .int (vz 11), .int (vz 12)])), ((va 3), .inr (1, [.int (vz 13), .int (vz 14), .int (vz 15), .int (vz 16), .int (vz 17), .ref (va 15), .ref (va 16)])), ((va 15), .inl ((vk 5), (va 17), .inr (.inl (vG 2)))), ((va 16), .inl ((vk 6), (va 18), .inl (vF 3))), ((va 4), .inl ((vk 7), 3, .inr (.inr (.inr (.inr (sf3 (va 19) (va 24) (va 29))))))), ((va 19), .inr (1, [.int (vz 18), .int (vz 19), .int (vz 20), .int (vz 21), .int (vz 22), .ref (va 20), .ref (va 21)])), ((va 20), .inl ((vk 9), (va 22), .inr (.inl (vG 3)))), ((va 21), .inl ((vk 10), (va 23), .inl (vF 5))), ((va 24), .inr (1, [.int (vz 23), .int (vz 24), .int (vz 25), .int (vz 26), .int (vz 27), .ref (va 25), .ref (va 26)])), ((va 25), .inl ((vk 11), (va 27), .inr (.inl (vG 4)))), ((va 26), .inl ((vk 12), (va 28), .inl (vF 6))), ((va 29), .inr (1, [.int (vz 28), .int (vz 29), .int (vz 30), .int (vz 31), .int (vz 32), .ref (va 30), .ref (va 31)])), ((va 30), .inl ((vk 13), (va 32), .inr (.inl (vG 5)))), ((va 31), .inl ((vk 14), (va 33), .inl (vF 7))), ((va 5), .inl ((vk 8), 3, .inl (vF 4))), ((va 6), .inl ((vk 15), 4, .inr (.inr (.inr (.inr (sf4 (va 34) (va 35) (va 36) (va 37))))))), ((va 34), .inr (2, [.int (vz 33), .int (vz 37), .ref (va 38)])), ((va 35), .inr (2, [.int (vz 34), .int (vz 38), .ref (va 39)])), ((va 36), .inr (2, [.int (vz 35), .int (vz 39), .ref (va 40)])), ((va 37), .inr (2, [.int (vz 36), .int (vz 40), .ref (va 41)])), ((va 38), .inl ((vk 16), 60, .inr (.inl (vG 6)))), ((va 39), .inl ((vk 17), 60, .inr (.inl (vG 7)))), ((va 40), .inl ((vk 18), 60, .inr (.inl (vG 8)))), ((va 41), .inl ((vk 19), 60, .inr (.inl (vG 9)))), ((va 7), .inr (4, [.ref (va 42), .ref (va 43), .ref (va 44)])), ((va 42), .inl ((vk 20), (va 45), .inl (vF 8))), ((va 43), .inl ((vk 21), (va 46), .inl (vF 9))), ((va 44), .inl ((vk 22), (va 47), .inl (vF 10))), ((va 8), .inr (5, [.ref (va 48)])), ((va 48), .inl ((vk 23), 181, .inr (.inl (vG 10)))), ((va 9), .inl ((vk 24), 16, .inl (vF 11)))] t.heap := hP2
  have hK3 := va_K.moved hW.alike hK
  have hD3 : va_D AX [(h0, .inr (7, [.ref (va 0), .ref (va 1), .ref (va 2), .ref (va 3), .ref (va 4), .ref (va 5), .ref (va 6), .ref (va 7), .ref (va 8), .ref (va 9)])), ((va 0), .inr (6, [.ref (va 10), .int o0_9])), ((va 10), .inl ((vk 0), 1200, .inl o1_9)), ((va 1), .inr (3, [.int (vz 1), .int (vz 2), .int (vz 3), .int (vz 4), .int (vz 5), .ref (va 11), .ref (va 12), .ref (va 13), .ref (va 14)])), ((va 11), .inl ((vk 1), 9, .inl (vF 1))), ((va 12), .inl ((vk 2), 600, .inl (vF 2))), ((va 13), .inl ((vk 3), 600, .inr (.inl (vG 0)))), ((va 14), .inl ((vk 4), 600, .inr (.inl (vG 1)))), ((va 2), .inr (0, [.ref (va 0), .ref (va 1), .int (vz 6), .int (vz 7), .int (vz 8), .int (vz 9), .int (vz 10), .int (vz 11), .int (vz 12)])), ((va 3), .inr (1, [.int (vz 13), .int (vz 14), .int (vz 15), .int (vz 16), .int (vz 17), .ref (va 15), .ref (va 16)])), ((va 15), .inl ((vk 5), (va 17), .inr (.inl (vG 2)))), ((va 16), .inl ((vk 6), (va 18), .inl (vF 3))), ((va 4), .inl ((vk 7), 3, .inr (.inr (.inr (.inr (sf3 (va 19) (va 24) (va 29))))))), ((va 19), .inr (1, [.int (vz 18), .int (vz 19), .int (vz 20), .int (vz 21), .int (vz 22), .ref (va 20), .ref (va 21)])), ((va 20), .inl ((vk 9), (va 22), .inr (.inl (vG 3)))), ((va 21), .inl ((vk 10), (va 23), .inl (vF 5))), ((va 24), .inr (1, [.int (vz 23), .int (vz 24), .int (vz 25), .int (vz 26), .int (vz 27), .ref (va 25), .ref (va 26)])), ((va 25), .inl ((vk 11), (va 27), .inr (.inl (vG 4)))), ((va 26), .inl ((vk 12), (va 28), .inl (vF 6))), ((va 29), .inr (1, [.int (vz 28), .int (vz 29), .int (vz 30), .int (vz 31), .int (vz 32), .ref (va 30), .ref (va 31)])), ((va 30), .inl ((vk 13), (va 32), .inr (.inl (vG 5)))), ((va 31), .inl ((vk 14), (va 33), .inl (vF 7))), ((va 5), .inl ((vk 8), 3, .inl (vF 4))), ((va 6), .inl ((vk 15), 4, .inr (.inr (.inr (.inr (sf4 (va 34) (va 35) (va 36) (va 37))))))), ((va 34), .inr (2, [.int (vz 33), .int (vz 37), .ref (va 38)])), ((va 35), .inr (2, [.int (vz 34), .int (vz 38), .ref (va 39)])), ((va 36), .inr (2, [.int (vz 35), .int (vz 39), .ref (va 40)])), ((va 37), .inr (2, [.int (vz 36), .int (vz 40), .ref (va 41)])), ((va 38), .inl ((vk 16), 60, .inr (.inl (vG 6)))), ((va 39), .inl ((vk 17), 60, .inr (.inl (vG 7)))), ((va 40), .inl ((vk 18), 60, .inr (.inl (vG 8)))), ((va 41), .inl ((vk 19), 60, .inr (.inl (vG 9)))), ((va 7), .inr (4, [.ref (va 42), .ref (va 43), .ref (va 44)])), ((va 42), .inl ((vk 20), (va 45), .inl (vF 8))), ((va 43), .inl ((vk 21), (va 46), .inl (vF 9))), ((va 44), .inl ((vk 22), (va 47), .inl (vF 10))), ((va 8), .inr (5, [.ref (va 48)])), ((va 48), .inl ((vk 23), 181, .inr (.inl (vG 10)))), ((va 9), .inl ((vk 24), 16, .inl (vF 11)))] := va_Da hD rfl
  exact ⟨⟨r, (), ho, trivial, ⟨va, (up9 vz 0 o0_9), vk, (up9 vF 0 o1_9), vG, (show (0 : Int) ≤ o0_9.toInt ∧ o0_9.toInt ≤ 1200 from b_o0_9), b_sn, b_sb, b_si, b_sw, b_ss, b_xf, b_xp, b_xt, b_xa, b_xo, b_ln, b_bs, b_tk, b_lw, b_ln_0, b_bs_0, b_tk_0, b_lw_0, b_ln_1, b_bs_1, b_tk_1, b_lw_1, b_ln_2, b_bs_2, b_tk_2, b_lw_2, b_wd0, b_wd1, b_wd2, b_wd3, b_rz0, b_rz1, b_rz2, b_rz3, hrd, hnl, hnm, hge, hrk, hnl0, hnm0, hge0, hrk0, hnl1, hnm1, hge1, hrk1, hnl2, hnm2, hge2, hrk2, hnr, hq1, hq3, hg9_0, hg9_1, hg9_2, hg9_3, ha_en, (show tot t.heap + (2 * pot (va 17) + 2 * pot (va 22) + 2 * pot (va 27) + 2 * pot (va 32) + (2 * pot (va 45) + potg (va 47))) ≤ cc from by omega), hP3, hK3, hD3⟩, hN.warm hW, hX.mv (fun a h1 h2 => hF.2 a h1 (fun z => h2 (hAn a (hFc a h1 z)))) hW.alike (fun _ _ _ _ q => vk_R.warm hW q), Nat.le_trans hn0 hF.1, fun q h => hA q (Nat.le_trans hF.1 h)⟩, hF.1, fun q h1 h2 => hF.2 q h1 (fun z => h2 (hFc q h1 z))⟩
set_option maxHeartbeats 4000000 in
set_option maxRecDepth 100000 in
theorem wX9_end (l : Launch) (dC : Nat → ClassId) (dI : Nat → Nat → Nat) (gh : Nat → Int32) (AX : Nat → Prop) (cc nB h0 : Nat) (a1 : Int32) (hAn : ∀ q, AX q → nB ≤ q) : Met l yX9_end uX9_end ({ frames := 0, cells := 0, slots := 0, locals := 0 }) (va_Pc [.ref h0, .int a1] (PX dC dI gh AX cc nB h0)) (va_Qi (fun (r : Int32) (_ : Unit) => True) (fun (_ : Unit) t => PX dC dI gh AX cc nB h0 t) AX) 0 0 AX := by
  refine Met.via (fun a U hv => ?_)
  obtain ⟨rfl, hV⟩ := hv
  refine XI.elim hV.1 (fun va vz vk vF vG b_ts b_sn b_sb b_si b_sw b_ss b_xf b_xp b_xt b_xa b_xo b_ln b_bs b_tk b_lw b_ln_0 b_bs_0 b_tk_0 b_lw_0 b_ln_1 b_bs_1 b_tk_1 b_lw_1 b_ln_2 b_bs_2 b_tk_2 b_lw_2 b_wd0 b_wd1 b_wd2 b_wd3 b_rz0 b_rz1 b_rz2 b_rz3 hrd hnl hnm hge hrk hnl0 hnm0 hge0 hrk0 hnl1 hnm1 hge1 hrk1 hnl2 hnm2 hge2 hrk2 hnr hq1 hq3 hg9_0 hg9_1 hg9_2 hg9_3 ha_en htot hP hK hD => ?_)
  have hN := hV.2.1
  have hX := hV.2.2.1
  have hn0 := hV.2.2.2.1
  have hA := hV.2.2.2.2
  have hFc : ∀ q : Nat, q < U.heap.size → va_A [(h0, .inr (7, [.ref (va 0), .ref (va 1), .ref (va 2), .ref (va 3), .ref (va 4), .ref (va 5), .ref (va 6), .ref (va 7), .ref (va 8), .ref (va 9)])), ((va 0), .inr (6, [.ref (va 10), .int (vz 0)]))] U.heap.size q → AX q := fun q h1 h2 => va_Ain (hD.sub (ws' := [(h0, .inr (7, [.ref (va 0), .ref (va 1), .ref (va 2), .ref (va 3), .ref (va 4), .ref (va 5), .ref (va 6), .ref (va 7), .ref (va 8), .ref (va 9)])), ((va 0), .inr (6, [.ref (va 10), .int (vz 0)]))]) [0, 1] (by decide) rfl) h1 h2
  refine ⟨_, _, _, kX9_end l dC dI h0 (va 1) (va 2) (va 3) (va 4) (va 5) (va 6) (va 7) (va 8) (va 9) (va 0) (va 10) (vz 0) a1 U.heap.size b_ts, ⟨rfl, ⟨rfl, hP.sub [0, 1] rfl, hK.sub [] rfl, (hD.sub [0, 1] (by decide) rfl).weaken (fun _ _ _ _ => trivial), hN⟩⟩, fun o t hq hW hts => ?_, fun q h1 h2 => hFc q h1 h2⟩
  have hF := hq.2
  have h9_0 := hq.1
  clear hq
  refine Exists.elim h9_0 (fun r h9_1 => ?_)
  clear h9_0
  refine Exists.elim h9_1 (fun u h9_2 => ?_)
  clear h9_1
  refine and_el h9_2 (fun ho h9_3 => ?_)
  clear h9_2
  refine and_el h9_3 (fun hp h9_4 => ?_)
  clear h9_3
  refine Exists.elim h9_4 (fun o0_9 h9_5 => ?_)
  clear h9_4
  refine and_el h9_5 (fun b_o0_9 h9_6 => ?_)
  clear h9_5
  refine and_el h9_6 (fun hP1 h9_7 => ?_)
  clear h9_6
  refine and_el h9_7 (fun hK1 h9_8 => ?_)
  clear h9_7
  have hD1 := h9_8
  clear h9_8
  have hP2 := va_put9 [0, 1] hP hD (by rfl) hF.2 hP1 (by exact Nat.le_of_ble_eq_true rfl)
  have hP3 : va_P (dC, dI) vwCl [(h0, .inr (7, [.ref (va 0), .ref (va 1), .ref (va 2), .ref (va 3), .ref (va 4), .ref (va 5), .ref (va 6), .ref (va 7), .ref (va 8), .ref (va 9)])), ((va 0), .inr (6, [.ref (va 10), .int o0_9])), ((va 10), .inl ((vk 0), 1200, .inl (vF 0))), ((va 1), .inr (3, [.int (vz 1), .int (vz 2), .int (vz 3), .int (vz 4), .int (vz 5), .ref (va 11), .ref (va 12), .ref (va 13), .ref (va 14)])), ((va 11), .inl ((vk 1), 9, .inl (vF 1))), ((va 12), .inl ((vk 2), 600, .inl (vF 2))), ((va 13), .inl ((vk 3), 600, .inr (.inl (vG 0)))), ((va 14), .inl ((vk 4), 600, .inr (.inl (vG 1)))), ((va 2), .inr (0, [.ref (va 0), .ref (va 1), .int (vz 6), .int (vz 7), .int (vz 8), .int (vz 9), .int (vz 10), .int (vz 11), .int (vz 12)])), ((va 3), .inr (1, [.int (vz 13), .int (vz 14), .int (vz 15), .int (vz 16), .int (vz 17), .ref (va 15), .ref (va 16)])), ((va 15), .inl ((vk 5), (va 17), .inr (.inl (vG 2)))), ((va 16), .inl ((vk 6), (va 18), .inl (vF 3))), ((va 4), .inl ((vk 7), 3, .inr (.inr (.inr (.inr (sf3 (va 19) (va 24) (va 29))))))), ((va 19), .inr (1, [.int (vz 18), .int (vz 19), .int (vz 20), .int (vz 21), .int (vz 22), .ref (va 20), .ref (va 21)])), ((va 20), .inl ((vk 9), (va 22), .inr (.inl (vG 3)))), ((va 21), .inl ((vk 10), (va 23), .inl (vF 5))), ((va 24), .inr (1, [.int (vz 23), .int (vz 24), .int (vz 25), .int (vz 26), .int (vz 27), .ref (va 25), .ref (va 26)])), ((va 25), .inl ((vk 11), (va 27), .inr (.inl (vG 4)))), ((va 26), .inl ((vk 12), (va 28), .inl (vF 6))), ((va 29), .inr (1, [.int (vz 28), .int (vz 29), .int (vz 30), .int (vz 31), .int (vz 32), .ref (va 30), .ref (va 31)])), ((va 30), .inl ((vk 13), (va 32), .inr (.inl (vG 5)))), ((va 31), .inl ((vk 14), (va 33), .inl (vF 7))), ((va 5), .inl ((vk 8), 3, .inl (vF 4))), ((va 6), .inl ((vk 15), 4, .inr (.inr (.inr (.inr (sf4 (va 34) (va 35) (va 36) (va 37))))))), ((va 34), .inr (2, [.int (vz 33), .int (vz 37), .ref (va 38)])), ((va 35), .inr (2, [.int (vz 34), .int (vz 38), .ref (va 39)])), ((va 36), .inr (2, [.int (vz 35), .int (vz 39), .ref (va 40)])), ((va 37), .inr (2, [.int (vz 36), .int (vz 40), .ref (va 41)])), ((va 38), .inl ((vk 16), 60, .inr (.inl (vG 6)))), ((va 39), .inl ((vk 17), 60, .inr (.inl (vG 7)))), ((va 40), .inl ((vk 18), 60, .inr (.inl (vG 8)))), ((va 41), .inl ((vk 19), 60, .inr (.inl (vG 9)))), ((va 7), .inr (4, [.ref (va 42), .ref (va 43), .ref (va 44)])), ((va 42), .inl ((vk 20), (va 45), .inl (vF 8))), ((va 43), .inl ((vk 21), (va 46), .inl (vF 9))), ((va 44), .inl ((vk 22), (va 47), .inl (vF 10))), ((va 8), .inr (5, [.ref (va 48)])), ((va 48), .inl ((vk 23), 181, .inr (.inl (vG 10)))), ((va 9), .inl ((vk 24), 16, .inl (vF 11)))] t.heap := hP2
  have hK3 := va_K.moved hW.alike hK
  have hD3 : va_D AX [(h0, .inr (7, [.ref (va 0), .ref (va 1), .ref (va 2), .ref (va 3), .ref (va 4), .ref (va 5), .ref (va 6), .ref (va 7), .ref (va 8), .ref (va 9)])), ((va 0), .inr (6, [.ref (va 10), .int o0_9])), ((va 10), .inl ((vk 0), 1200, .inl (vF 0))), ((va 1), .inr (3, [.int (vz 1), .int (vz 2), .int (vz 3), .int (vz 4), .int (vz 5), .ref (va 11), .ref (va 12), .ref (va 13), .ref (va 14)])), ((va 11), .inl ((vk 1), 9, .inl (vF 1))), ((va 12), .inl ((vk 2), 600, .inl (vF 2))), ((va 13), .inl ((vk 3), 600, .inr (.inl (vG 0)))), ((va 14), .inl ((vk 4), 600, .inr (.inl (vG 1)))), ((va 2), .inr (0, [.ref (va 0), .ref (va 1), .int (vz 6), .int (vz 7), .int (vz 8), .int (vz 9), .int (vz 10), .int (vz 11), .int (vz 12)])), ((va 3), .inr (1, [.int (vz 13), .int (vz 14), .int (vz 15), .int (vz 16), .int (vz 17), .ref (va 15), .ref (va 16)])), ((va 15), .inl ((vk 5), (va 17), .inr (.inl (vG 2)))), ((va 16), .inl ((vk 6), (va 18), .inl (vF 3))), ((va 4), .inl ((vk 7), 3, .inr (.inr (.inr (.inr (sf3 (va 19) (va 24) (va 29))))))), ((va 19), .inr (1, [.int (vz 18), .int (vz 19), .int (vz 20), .int (vz 21), .int (vz 22), .ref (va 20), .ref (va 21)])), ((va 20), .inl ((vk 9), (va 22), .inr (.inl (vG 3)))), ((va 21), .inl ((vk 10), (va 23), .inl (vF 5))), ((va 24), .inr (1, [.int (vz 23), .int (vz 24), .int (vz 25), .int (vz 26), .int (vz 27), .ref (va 25), .ref (va 26)])), ((va 25), .inl ((vk 11), (va 27), .inr (.inl (vG 4)))), ((va 26), .inl ((vk 12), (va 28), .inl (vF 6))), ((va 29), .inr (1, [.int (vz 28), .int (vz 29), .int (vz 30), .int (vz 31), .int (vz 32), .ref (va 30), .ref (va 31)])), ((va 30), .inl ((vk 13), (va 32), .inr (.inl (vG 5)))), ((va 31), .inl ((vk 14), (va 33), .inl (vF 7))), ((va 5), .inl ((vk 8), 3, .inl (vF 4))), ((va 6), .inl ((vk 15), 4, .inr (.inr (.inr (.inr (sf4 (va 34) (va 35) (va 36) (va 37))))))), ((va 34), .inr (2, [.int (vz 33), .int (vz 37), .ref (va 38)])), ((va 35), .inr (2, [.int (vz 34), .int (vz 38), .ref (va 39)])), ((va 36), .inr (2, [.int (vz 35), .int (vz 39), .ref (va 40)])), ((va 37), .inr (2, [.int (vz 36), .int (vz 40), .ref (va 41)])), ((va 38), .inl ((vk 16), 60, .inr (.inl (vG 6)))), ((va 39), .inl ((vk 17), 60, .inr (.inl (vG 7)))), ((va 40), .inl ((vk 18), 60, .inr (.inl (vG 8)))), ((va 41), .inl ((vk 19), 60, .inr (.inl (vG 9)))), ((va 7), .inr (4, [.ref (va 42), .ref (va 43), .ref (va 44)])), ((va 42), .inl ((vk 20), (va 45), .inl (vF 8))), ((va 43), .inl ((vk 21), (va 46), .inl (vF 9))), ((va 44), .inl ((vk 22), (va 47), .inl (vF 10))), ((va 8), .inr (5, [.ref (va 48)])), ((va 48), .inl ((vk 23), 181, .inr (.inl (vG 10)))), ((va 9), .inl ((vk 24), 16, .inl (vF 11)))] := va_Da hD rfl
  exact ⟨⟨r, (), ho, trivial, ⟨va, (up9 vz 0 o0_9), vk, vF, vG, (show (0 : Int) ≤ o0_9.toInt ∧ o0_9.toInt ≤ 1200 from b_o0_9), b_sn, b_sb, b_si, b_sw, b_ss, b_xf, b_xp, b_xt, b_xa, b_xo, b_ln, b_bs, b_tk, b_lw, b_ln_0, b_bs_0, b_tk_0, b_lw_0, b_ln_1, b_bs_1, b_tk_1, b_lw_1, b_ln_2, b_bs_2, b_tk_2, b_lw_2, b_wd0, b_wd1, b_wd2, b_wd3, b_rz0, b_rz1, b_rz2, b_rz3, hrd, hnl, hnm, hge, hrk, hnl0, hnm0, hge0, hrk0, hnl1, hnm1, hge1, hrk1, hnl2, hnm2, hge2, hrk2, hnr, hq1, hq3, hg9_0, hg9_1, hg9_2, hg9_3, ha_en, (show tot t.heap + (2 * pot (va 17) + 2 * pot (va 22) + 2 * pot (va 27) + 2 * pot (va 32) + (2 * pot (va 45) + potg (va 47))) ≤ cc from by omega), hP3, hK3, hD3⟩, hN.warm hW, hX.mv (fun a h1 h2 => hF.2 a h1 (fun z => h2 (hAn a (hFc a h1 z)))) hW.alike (fun _ _ _ _ q => vk_R.warm hW q), Nat.le_trans hn0 hF.1, fun q h => hA q (Nat.le_trans hF.1 h)⟩, hF.1, fun q h1 h2 => hF.2 q h1 (fun z => h2 (hFc q h1 z))⟩
set_option maxHeartbeats 4000000 in
set_option maxRecDepth 100000 in
theorem wX9_roll (l : Launch) (dC : Nat → ClassId) (dI : Nat → Nat → Nat) (gh : Nat → Int32) (AX : Nat → Prop) (cc nB h0 : Nat) (hAn : ∀ q, AX q → nB ≤ q) : Met l yX9_roll uX9_roll ({ frames := 29, cells := 2, slots := 40000, locals := 654 }) (va_Pc [.ref h0] (PX dC dI gh AX cc nB h0)) (va_Qi (fun (r : Int32) (_ : Unit) => True) (fun (_ : Unit) t => PX dC dI gh AX cc nB h0 t) AX) 2 40000 AX := by
  refine Met.via (fun a U hv => ?_)
  obtain ⟨rfl, hV⟩ := hv
  refine XI.elim hV.1 (fun va vz vk vF vG b_ts b_sn b_sb b_si b_sw b_ss b_xf b_xp b_xt b_xa b_xo b_ln b_bs b_tk b_lw b_ln_0 b_bs_0 b_tk_0 b_lw_0 b_ln_1 b_bs_1 b_tk_1 b_lw_1 b_ln_2 b_bs_2 b_tk_2 b_lw_2 b_wd0 b_wd1 b_wd2 b_wd3 b_rz0 b_rz1 b_rz2 b_rz3 hrd hnl hnm hge hrk hnl0 hnm0 hge0 hrk0 hnl1 hnm1 hge1 hrk1 hnl2 hnm2 hge2 hrk2 hnr hq1 hq3 hg9_0 hg9_1 hg9_2 hg9_3 ha_en htot hP hK hD => ?_)
  have hN := hV.2.1
  have hX := hV.2.2.1
  have hn0 := hV.2.2.2.1
  have hA := hV.2.2.2.2
  have hFc : ∀ q : Nat, q < U.heap.size → va_A [(h0, .inr (7, [.ref (va 0), .ref (va 1), .ref (va 2), .ref (va 3), .ref (va 4), .ref (va 5), .ref (va 6), .ref (va 7), .ref (va 8), .ref (va 9)])), ((va 2), .inr (0, [.ref (va 0), .ref (va 1), .int (vz 6), .int (vz 7), .int (vz 8), .int (vz 9), .int (vz 10), .int (vz 11), .int (vz 12)])), ((va 0), .inr (6, [.ref (va 10), .int (vz 0)])), ((va 10), .inl ((vk 0), 1200, .inl (vF 0))), ((va 1), .inr (3, [.int (vz 1), .int (vz 2), .int (vz 3), .int (vz 4), .int (vz 5), .ref (va 11), .ref (va 12), .ref (va 13), .ref (va 14)])), ((va 12), .inl ((vk 2), 600, .inl (vF 2))), ((va 13), .inl ((vk 3), 600, .inr (.inl (vG 0)))), ((va 14), .inl ((vk 4), 600, .inr (.inl (vG 1)))), ((va 11), .inl ((vk 1), 9, .inl (vF 1))), ((va 3), .inr (1, [.int (vz 13), .int (vz 14), .int (vz 15), .int (vz 16), .int (vz 17), .ref (va 15), .ref (va 16)])), ((va 15), .inl ((vk 5), (va 17), .inr (.inl (vG 2)))), ((va 16), .inl ((vk 6), (va 18), .inl (vF 3)))] U.heap.size q → AX q := fun q h1 h2 => va_Ain (hD.sub (ws' := [(h0, .inr (7, [.ref (va 0), .ref (va 1), .ref (va 2), .ref (va 3), .ref (va 4), .ref (va 5), .ref (va 6), .ref (va 7), .ref (va 8), .ref (va 9)])), ((va 2), .inr (0, [.ref (va 0), .ref (va 1), .int (vz 6), .int (vz 7), .int (vz 8), .int (vz 9), .int (vz 10), .int (vz 11), .int (vz 12)])), ((va 0), .inr (6, [.ref (va 10), .int (vz 0)])), ((va 10), .inl ((vk 0), 1200, .inl (vF 0))), ((va 1), .inr (3, [.int (vz 1), .int (vz 2), .int (vz 3), .int (vz 4), .int (vz 5), .ref (va 11), .ref (va 12), .ref (va 13), .ref (va 14)])), ((va 12), .inl ((vk 2), 600, .inl (vF 2))), ((va 13), .inl ((vk 3), 600, .inr (.inl (vG 0)))), ((va 14), .inl ((vk 4), 600, .inr (.inl (vG 1)))), ((va 11), .inl ((vk 1), 9, .inl (vF 1))), ((va 3), .inr (1, [.int (vz 13), .int (vz 14), .int (vz 15), .int (vz 16), .int (vz 17), .ref (va 15), .ref (va 16)])), ((va 15), .inl ((vk 5), (va 17), .inr (.inl (vG 2)))), ((va 16), .inl ((vk 6), (va 18), .inl (vF 3)))]) [0, 8, 1, 2, 3, 5, 6, 7, 4, 9, 10, 11] (by decide) rfl) h1 h2
  refine ⟨_, _, _, kX9_roll l dC dI h0 (va 4) (va 5) (va 6) (va 7) (va 8) (va 9) (va 2) (vz 6) (vz 7) (vz 8) (vz 9) (vz 10) (vz 11) (vz 12) (va 0) (va 10) (vz 0) (vk 0) (vF 0) (va 1) (vz 1) (vz 2) (vz 3) (vz 4) (vz 5) (va 11) (va 12) (va 13) (va 14) (vk 2) (vF 2) (vk 3) (vG 0) (vk 4) (vG 1) (vk 1) (vF 1) (va 3) (vz 13) (vz 14) (vz 15) (vz 16) (vz 17) (va 15) (va 16) (vk 5) (va 17) (vG 2) (vk 6) (va 18) (vF 3) nB (cc - (2 * pot (va 22) + 2 * pot (va 27) + 2 * pot (va 32) + (2 * pot (va 45) + potg (va 47)))) U.heap.size b_xf b_xp b_xt b_xa b_xo b_ts b_sn b_sb b_si b_sw b_ss b_ln b_bs b_tk b_lw ha_en (by first | with_reducible assumption | omega) (by first | with_reducible assumption | omega) (by first | with_reducible assumption | omega) (by first | with_reducible assumption | omega) (by first | with_reducible assumption | omega), ⟨rfl, ⟨⟨⟨rfl, hP.sub [0, 8, 1, 2, 3, 5, 6, 7, 4, 9, 10, 11] rfl, hK.sub [0, 2, 3, 4, 1, 5, 6] rfl, (hD.sub [0, 8, 1, 2, 3, 5, 6, 7, 4, 9, 10, 11] (by decide) rfl).weaken (fun _ _ _ _ => trivial), hN⟩, hn0, (hD.sub [0, 8, 1, 2, 3, 5, 6, 7, 4, 9, 10, 11] (by decide) rfl).weaken (fun _ _ _ h => hAn _ h), hX, tts_0⟩, by omega⟩⟩, fun o t hq hW hts => ?_, fun q h1 h2 => hFc q h1 h2⟩
  have hF := hq.2
  have h9_0 := hq.1
  clear hq
  refine Exists.elim h9_0 (fun r h9_1 => ?_)
  clear h9_0
  refine Exists.elim h9_1 (fun u h9_2 => ?_)
  clear h9_1
  refine and_el h9_2 (fun ho h9_3 => ?_)
  clear h9_2
  refine and_el h9_3 (fun hp h9_4 => ?_)
  clear h9_3
  refine Exists.elim h9_4 (fun o0_9 h9_5 => ?_)
  clear h9_4
  refine Exists.elim h9_5 (fun o1_9 h9_6 => ?_)
  clear h9_5
  refine Exists.elim h9_6 (fun o2_9 h9_7 => ?_)
  clear h9_6
  refine Exists.elim h9_7 (fun o3_9 h9_8 => ?_)
  clear h9_7
  refine Exists.elim h9_8 (fun o4_9 h9_9 => ?_)
  clear h9_8
  refine Exists.elim h9_9 (fun o5_9 h9_10 => ?_)
  clear h9_9
  refine Exists.elim h9_10 (fun o6_9 h9_11 => ?_)
  clear h9_10
  refine Exists.elim h9_11 (fun o7_9 h9_12 => ?_)
  clear h9_11
  refine Exists.elim h9_12 (fun o8_9 h9_13 => ?_)
  clear h9_12
  refine Exists.elim h9_13 (fun o9_9 h9_14 => ?_)
  clear h9_13
  refine Exists.elim h9_14 (fun o10_9 h9_15 => ?_)
  clear h9_14
  refine Exists.elim h9_15 (fun o11_9 h9_16 => ?_)
  clear h9_15
  refine Exists.elim h9_16 (fun o12_9 h9_17 => ?_)
  clear h9_16
  refine Exists.elim h9_17 (fun o13_9 h9_18 => ?_)
  clear h9_17
  refine Exists.elim h9_18 (fun o14_9 h9_19 => ?_)
  clear h9_18
  refine Exists.elim h9_19 (fun o15_9 h9_20 => ?_)
  clear h9_19
  refine Exists.elim h9_20 (fun o16_9 h9_21 => ?_)
  clear h9_20
  refine Exists.elim h9_21 (fun o17_9 h9_22 => ?_)
  clear h9_21
  refine Exists.elim h9_22 (fun o18_9 h9_23 => ?_)
  clear h9_22
  refine Exists.elim h9_23 (fun o19_9 h9_24 => ?_)
  clear h9_23
  refine Exists.elim h9_24 (fun o20_9 h9_25 => ?_)
  clear h9_24
  refine Exists.elim h9_25 (fun o21_9 h9_26 => ?_)
  clear h9_25
  refine Exists.elim h9_26 (fun o22_9 h9_27 => ?_)
  clear h9_26
  refine Exists.elim h9_27 (fun o23_9 h9_28 => ?_)
  clear h9_27
  refine Exists.elim h9_28 (fun o24_9 h9_29 => ?_)
  clear h9_28
  refine Exists.elim h9_29 (fun o25_9 h9_30 => ?_)
  clear h9_29
  refine Exists.elim h9_30 (fun o26_9 h9_31 => ?_)
  clear h9_30
  refine Exists.elim h9_31 (fun o27_9 h9_32 => ?_)
  clear h9_31
  refine Exists.elim h9_32 (fun o28_9 h9_33 => ?_)
  clear h9_32
  refine Exists.elim h9_33 (fun o29_9 h9_34 => ?_)
  clear h9_33
  refine and_el h9_34 (fun b_o0_9 h9_35 => ?_)
  clear h9_34
  refine and_el h9_35 (fun b_o1_9 h9_36 => ?_)
  clear h9_35
  refine and_el h9_36 (fun b_o2_9 h9_37 => ?_)
  clear h9_36
  refine and_el h9_37 (fun b_o3_9 h9_38 => ?_)
  clear h9_37
  refine and_el h9_38 (fun b_o4_9 h9_39 => ?_)
  clear h9_38
  refine and_el h9_39 (fun b_o7_9 h9_40 => ?_)
  clear h9_39
  refine and_el h9_40 (fun b_o8_9 h9_41 => ?_)
  clear h9_40
  refine and_el h9_41 (fun b_o9_9 h9_42 => ?_)
  clear h9_41
  refine and_el h9_42 (fun b_o10_9 h9_43 => ?_)
  clear h9_42
  refine and_el h9_43 (fun b_o11_9 h9_44 => ?_)
  clear h9_43
  refine and_el h9_44 (fun b_o12_9 h9_45 => ?_)
  clear h9_44
  refine and_el h9_45 (fun b_o17_9 h9_46 => ?_)
  clear h9_45
  refine and_el h9_46 (fun b_o18_9 h9_47 => ?_)
  clear h9_46
  refine and_el h9_47 (fun b_o19_9 h9_48 => ?_)
  clear h9_47
  refine and_el h9_48 (fun b_o20_9 h9_49 => ?_)
  clear h9_48
  refine and_el h9_49 (fun hf15 h9_50 => ?_)
  clear h9_49
  refine and_el h9_50 (fun hf16 h9_51 => ?_)
  clear h9_50
  refine and_el h9_51 (fun hf17 h9_52 => ?_)
  clear h9_51
  refine and_el h9_52 (fun hf18 h9_53 => ?_)
  clear h9_52
  refine and_el h9_53 (fun hf19 h9_54 => ?_)
  clear h9_53
  refine and_el h9_54 (fun hf20 h9_55 => ?_)
  clear h9_54
  refine and_el h9_55 (fun htt h9_56 => ?_)
  clear h9_55
  refine and_el h9_56 (fun hP1 h9_57 => ?_)
  clear h9_56
  refine and_el h9_57 (fun hK1 h9_58 => ?_)
  clear h9_57
  have hD1 := h9_58
  clear h9_58
  have hC9 : [0, 8, 1, 2, 3, 5, 6, 7, 4, 9, 10, 11].map (fun i => ([(h0, .inr (7, [.ref (va 0), .ref (va 1), .ref (va 2), .ref (va 3), .ref (va 4), .ref (va 5), .ref (va 6), .ref (va 7), .ref (va 8), .ref (va 9)])), ((va 0), .inr (6, [.ref (va 10), .int (vz 0)])), ((va 10), .inl ((vk 0), 1200, .inl (vF 0))), ((va 1), .inr (3, [.int (vz 1), .int (vz 2), .int (vz 3), .int (vz 4), .int (vz 5), .ref (va 11), .ref (va 12), .ref (va 13), .ref (va 14)])), ((va 11), .inl ((vk 1), 9, .inl (vF 1))), ((va 12), .inl ((vk 2), 600, .inl (vF 2))), ((va 13), .inl ((vk 3), 600, .inr (.inl (vG 0)))), ((va 14), .inl ((vk 4), 600, .inr (.inl (vG 1)))), ((va 2), .inr (0, [.ref (va 0), .ref (va 1), .int (vz 6), .int (vz 7), .int (vz 8), .int (vz 9), .int (vz 10), .int (vz 11), .int (vz 12)])), ((va 3), .inr (1, [.int (vz 13), .int (vz 14), .int (vz 15), .int (vz 16), .int (vz 17), .ref (va 15), .ref (va 16)])), ((va 15), .inl ((vk 5), (va 17), .inr (.inl (vG 2)))), ((va 16), .inl ((vk 6), (va 18), .inl (vF 3))), ((va 4), .inl ((vk 7), 3, .inr (.inr (.inr (.inr (sf3 (va 19) (va 24) (va 29))))))), ((va 19), .inr (1, [.int (vz 18), .int (vz 19), .int (vz 20), .int (vz 21), .int (vz 22), .ref (va 20), .ref (va 21)])), ((va 20), .inl ((vk 9), (va 22), .inr (.inl (vG 3)))), ((va 21), .inl ((vk 10), (va 23), .inl (vF 5))), ((va 24), .inr (1, [.int (vz 23), .int (vz 24), .int (vz 25), .int (vz 26), .int (vz 27), .ref (va 25), .ref (va 26)])), ((va 25), .inl ((vk 11), (va 27), .inr (.inl (vG 4)))), ((va 26), .inl ((vk 12), (va 28), .inl (vF 6))), ((va 29), .inr (1, [.int (vz 28), .int (vz 29), .int (vz 30), .int (vz 31), .int (vz 32), .ref (va 30), .ref (va 31)])), ((va 30), .inl ((vk 13), (va 32), .inr (.inl (vG 5)))), ((va 31), .inl ((vk 14), (va 33), .inl (vF 7))), ((va 5), .inl ((vk 8), 3, .inl (vF 4))), ((va 6), .inl ((vk 15), 4, .inr (.inr (.inr (.inr (sf4 (va 34) (va 35) (va 36) (va 37))))))), ((va 34), .inr (2, [.int (vz 33), .int (vz 37), .ref (va 38)])), ((va 35), .inr (2, [.int (vz 34), .int (vz 38), .ref (va 39)])), ((va 36), .inr (2, [.int (vz 35), .int (vz 39), .ref (va 40)])), ((va 37), .inr (2, [.int (vz 36), .int (vz 40), .ref (va 41)])), ((va 38), .inl ((vk 16), 60, .inr (.inl (vG 6)))), ((va 39), .inl ((vk 17), 60, .inr (.inl (vG 7)))), ((va 40), .inl ((vk 18), 60, .inr (.inl (vG 8)))), ((va 41), .inl ((vk 19), 60, .inr (.inl (vG 9)))), ((va 7), .inr (4, [.ref (va 42), .ref (va 43), .ref (va 44)])), ((va 42), .inl ((vk 20), (va 45), .inl (vF 8))), ((va 43), .inl ((vk 21), (va 46), .inl (vF 9))), ((va 44), .inl ((vk 22), (va 47), .inl (vF 10))), ((va 8), .inr (5, [.ref (va 48)])), ((va 48), .inl ((vk 23), 181, .inr (.inl (vG 10)))), ((va 9), .inl ((vk 24), 16, .inl (vF 11)))] : va_W)[i]?) = ([(h0, .inr (7, [.ref (va 0), .ref (va 1), .ref (va 2), .ref (va 3), .ref (va 4), .ref (va 5), .ref (va 6), .ref (va 7), .ref (va 8), .ref (va 9)])), ((va 2), .inr (0, [.ref (va 0), .ref (va 1), .int (vz 6), .int (vz 7), .int (vz 8), .int (vz 9), .int (vz 10), .int (vz 11), .int (vz 12)])), ((va 0), .inr (6, [.ref (va 10), .int (vz 0)])), ((va 10), .inl ((vk 0), 1200, .inl (vF 0))), ((va 1), .inr (3, [.int (vz 1), .int (vz 2), .int (vz 3), .int (vz 4), .int (vz 5), .ref (va 11), .ref (va 12), .ref (va 13), .ref (va 14)])), ((va 12), .inl ((vk 2), 600, .inl (vF 2))), ((va 13), .inl ((vk 3), 600, .inr (.inl (vG 0)))), ((va 14), .inl ((vk 4), 600, .inr (.inl (vG 1)))), ((va 11), .inl ((vk 1), 9, .inl (vF 1))), ((va 3), .inr (1, [.int (vz 13), .int (vz 14), .int (vz 15), .int (vz 16), .int (vz 17), .ref (va 15), .ref (va 16)])), ((va 15), .inl ((vk 5), (va 17), .inr (.inl (vG 2)))), ((va 16), .inl ((vk 6), (va 18), .inl (vF 3)))] : va_W).map some := rfl
  have hP2 := va_put9 [0, 8, 1, 2, 3, 5, 6, 7, 4, 9, 10, 11] hP hD hC9 hF.2 hP1 (by exact Nat.le_of_ble_eq_true rfl)
  have hP3 : va_P (dC, dI) vwCl [(h0, .inr (7, [.ref (va 0), .ref (va 1), .ref (va 2), .ref (va 3), .ref (va 4), .ref (va 5), .ref (va 6), .ref (va 7), .ref (va 8), .ref (va 9)])), ((va 0), .inr (6, [.ref (va 10), .int o7_9])), ((va 10), .inl ((vk 0), 1200, .inl (vF 0))), ((va 1), .inr (3, [.int o8_9, .int o9_9, .int o10_9, .int o11_9, .int o12_9, .ref (va 11), .ref (va 12), .ref (va 13), .ref (va 14)])), ((va 11), .inl ((vk 1), 9, .inl o16_9)), ((va 12), .inl ((vk 2), 600, .inl o13_9)), ((va 13), .inl ((vk 3), 600, .inr (.inl o14_9))), ((va 14), .inl ((vk 4), 600, .inr (.inl o15_9))), ((va 2), .inr (0, [.ref (va 0), .ref (va 1), .int o0_9, .int o1_9, .int o2_9, .int o3_9, .int o4_9, .int o5_9, .int o6_9])), ((va 3), .inr (1, [.int o17_9, .int o18_9, .int o19_9, .int o20_9, .int o21_9, .ref o22_9, .ref o26_9])), (o22_9, .inl (o23_9, o24_9, .inr (.inl o25_9))), (o26_9, .inl (o27_9, o28_9, .inl o29_9)), ((va 4), .inl ((vk 7), 3, .inr (.inr (.inr (.inr (sf3 (va 19) (va 24) (va 29))))))), ((va 19), .inr (1, [.int (vz 18), .int (vz 19), .int (vz 20), .int (vz 21), .int (vz 22), .ref (va 20), .ref (va 21)])), ((va 20), .inl ((vk 9), (va 22), .inr (.inl (vG 3)))), ((va 21), .inl ((vk 10), (va 23), .inl (vF 5))), ((va 24), .inr (1, [.int (vz 23), .int (vz 24), .int (vz 25), .int (vz 26), .int (vz 27), .ref (va 25), .ref (va 26)])), ((va 25), .inl ((vk 11), (va 27), .inr (.inl (vG 4)))), ((va 26), .inl ((vk 12), (va 28), .inl (vF 6))), ((va 29), .inr (1, [.int (vz 28), .int (vz 29), .int (vz 30), .int (vz 31), .int (vz 32), .ref (va 30), .ref (va 31)])), ((va 30), .inl ((vk 13), (va 32), .inr (.inl (vG 5)))), ((va 31), .inl ((vk 14), (va 33), .inl (vF 7))), ((va 5), .inl ((vk 8), 3, .inl (vF 4))), ((va 6), .inl ((vk 15), 4, .inr (.inr (.inr (.inr (sf4 (va 34) (va 35) (va 36) (va 37))))))), ((va 34), .inr (2, [.int (vz 33), .int (vz 37), .ref (va 38)])), ((va 35), .inr (2, [.int (vz 34), .int (vz 38), .ref (va 39)])), ((va 36), .inr (2, [.int (vz 35), .int (vz 39), .ref (va 40)])), ((va 37), .inr (2, [.int (vz 36), .int (vz 40), .ref (va 41)])), ((va 38), .inl ((vk 16), 60, .inr (.inl (vG 6)))), ((va 39), .inl ((vk 17), 60, .inr (.inl (vG 7)))), ((va 40), .inl ((vk 18), 60, .inr (.inl (vG 8)))), ((va 41), .inl ((vk 19), 60, .inr (.inl (vG 9)))), ((va 7), .inr (4, [.ref (va 42), .ref (va 43), .ref (va 44)])), ((va 42), .inl ((vk 20), (va 45), .inl (vF 8))), ((va 43), .inl ((vk 21), (va 46), .inl (vF 9))), ((va 44), .inl ((vk 22), (va 47), .inl (vF 10))), ((va 8), .inr (5, [.ref (va 48)])), ((va 48), .inl ((vk 23), 181, .inr (.inl (vG 10)))), ((va 9), .inl ((vk 24), 16, .inl (vF 11)))] t.heap := hP2
  have hK2 := va_Kput [0, 2, 3, 4, 1, 5, 6] (va_K.moved hW.alike hK) hK1
  have hK3 : va_K (dC, dI) vwCl [((vk 0), .byte), ((vk 1), .int), ((vk 2), .int), ((vk 3), .long), ((vk 4), .long), (o23_9, .long), (o27_9, .int), ((vk 7), .object RX2), ((vk 9), .long), ((vk 10), .int), ((vk 11), .long), ((vk 12), .int), ((vk 13), .long), ((vk 14), .int), ((vk 8), .boolean), ((vk 15), .object RX3), ((vk 16), .long), ((vk 17), .long), ((vk 18), .long), ((vk 19), .long), ((vk 20), .int), ((vk 21), .int), ((vk 22), .byte), ((vk 23), .long), ((vk 24), .int)] t := hK2
  have hD2 := va_Dput (A' := AX) [0, 8, 1, 2, 3, 5, 6, 7, 4, 9, 10, 11] hP hD hC9 hD1 (by exact Nat.le_of_ble_eq_true rfl) (fun q h => h) (fun q h => (Nat.lt_or_ge q U.heap.size).elim (fun h1 => hFc q h1 h) (fun h1 => hA q h1))
  have hD3 : va_D AX [(h0, .inr (7, [.ref (va 0), .ref (va 1), .ref (va 2), .ref (va 3), .ref (va 4), .ref (va 5), .ref (va 6), .ref (va 7), .ref (va 8), .ref (va 9)])), ((va 0), .inr (6, [.ref (va 10), .int o7_9])), ((va 10), .inl ((vk 0), 1200, .inl (vF 0))), ((va 1), .inr (3, [.int o8_9, .int o9_9, .int o10_9, .int o11_9, .int o12_9, .ref (va 11), .ref (va 12), .ref (va 13), .ref (va 14)])), ((va 11), .inl ((vk 1), 9, .inl o16_9)), ((va 12), .inl ((vk 2), 600, .inl o13_9)), ((va 13), .inl ((vk 3), 600, .inr (.inl o14_9))), ((va 14), .inl ((vk 4), 600, .inr (.inl o15_9))), ((va 2), .inr (0, [.ref (va 0), .ref (va 1), .int o0_9, .int o1_9, .int o2_9, .int o3_9, .int o4_9, .int o5_9, .int o6_9])), ((va 3), .inr (1, [.int o17_9, .int o18_9, .int o19_9, .int o20_9, .int o21_9, .ref o22_9, .ref o26_9])), (o22_9, .inl (o23_9, o24_9, .inr (.inl o25_9))), (o26_9, .inl (o27_9, o28_9, .inl o29_9)), ((va 4), .inl ((vk 7), 3, .inr (.inr (.inr (.inr (sf3 (va 19) (va 24) (va 29))))))), ((va 19), .inr (1, [.int (vz 18), .int (vz 19), .int (vz 20), .int (vz 21), .int (vz 22), .ref (va 20), .ref (va 21)])), ((va 20), .inl ((vk 9), (va 22), .inr (.inl (vG 3)))), ((va 21), .inl ((vk 10), (va 23), .inl (vF 5))), ((va 24), .inr (1, [.int (vz 23), .int (vz 24), .int (vz 25), .int (vz 26), .int (vz 27), .ref (va 25), .ref (va 26)])), ((va 25), .inl ((vk 11), (va 27), .inr (.inl (vG 4)))), ((va 26), .inl ((vk 12), (va 28), .inl (vF 6))), ((va 29), .inr (1, [.int (vz 28), .int (vz 29), .int (vz 30), .int (vz 31), .int (vz 32), .ref (va 30), .ref (va 31)])), ((va 30), .inl ((vk 13), (va 32), .inr (.inl (vG 5)))), ((va 31), .inl ((vk 14), (va 33), .inl (vF 7))), ((va 5), .inl ((vk 8), 3, .inl (vF 4))), ((va 6), .inl ((vk 15), 4, .inr (.inr (.inr (.inr (sf4 (va 34) (va 35) (va 36) (va 37))))))), ((va 34), .inr (2, [.int (vz 33), .int (vz 37), .ref (va 38)])), ((va 35), .inr (2, [.int (vz 34), .int (vz 38), .ref (va 39)])), ((va 36), .inr (2, [.int (vz 35), .int (vz 39), .ref (va 40)])), ((va 37), .inr (2, [.int (vz 36), .int (vz 40), .ref (va 41)])), ((va 38), .inl ((vk 16), 60, .inr (.inl (vG 6)))), ((va 39), .inl ((vk 17), 60, .inr (.inl (vG 7)))), ((va 40), .inl ((vk 18), 60, .inr (.inl (vG 8)))), ((va 41), .inl ((vk 19), 60, .inr (.inl (vG 9)))), ((va 7), .inr (4, [.ref (va 42), .ref (va 43), .ref (va 44)])), ((va 42), .inl ((vk 20), (va 45), .inl (vF 8))), ((va 43), .inl ((vk 21), (va 46), .inl (vF 9))), ((va 44), .inl ((vk 22), (va 47), .inl (vF 10))), ((va 8), .inr (5, [.ref (va 48)])), ((va 48), .inl ((vk 23), 181, .inr (.inl (vG 10)))), ((va 9), .inl ((vk 24), 16, .inl (vF 11)))] := hD2
  exact ⟨⟨r, (), ho, trivial, ⟨(up9 (up9 (up9 (up9 va 15 o22_9) 17 o24_9) 16 o26_9) 18 o28_9), (up9 (up9 (up9 (up9 (up9 (up9 (up9 (up9 (up9 (up9 (up9 (up9 (up9 (up9 (up9 (up9 (up9 (up9 vz 0 o7_9) 1 o8_9) 2 o9_9) 3 o10_9) 4 o11_9) 5 o12_9) 6 o0_9) 7 o1_9) 8 o2_9) 9 o3_9) 10 o4_9) 11 o5_9) 12 o6_9) 13 o17_9) 14 o18_9) 15 o19_9) 16 o20_9) 17 o21_9), (up9 (up9 vk 5 o23_9) 6 o27_9), (up9 (up9 (up9 vF 1 o16_9) 2 o13_9) 3 o29_9), (up9 (up9 (up9 vG 0 o14_9) 1 o15_9) 2 o25_9), (show (0 : Int) ≤ o7_9.toInt ∧ o7_9.toInt ≤ 1200 from b_o7_9), (show (0 : Int) ≤ o8_9.toInt ∧ o8_9.toInt ≤ 12 from b_o8_9), (show (0 : Int) ≤ o9_9.toInt ∧ o9_9.toInt ≤ 16 from b_o9_9), (show (0 : Int) ≤ o10_9.toInt ∧ o10_9.toInt ≤ 1300 from (rg_w b_o10_9 (by decide) (by decide))), (show (0 : Int) ≤ o11_9.toInt ∧ o11_9.toInt ≤ 9 from b_o11_9), (show (0 : Int) ≤ o12_9.toInt ∧ o12_9.toInt ≤ 600 from b_o12_9), (show (0 : Int) ≤ o0_9.toInt ∧ o0_9.toInt ≤ 3 from b_o0_9), (show (-1 : Int) ≤ o1_9.toInt ∧ o1_9.toInt ≤ 1200 from b_o1_9), (show (0 : Int) ≤ o2_9.toInt ∧ o2_9.toInt ≤ 4 from b_o2_9), (show (0 : Int) ≤ o3_9.toInt ∧ o3_9.toInt ≤ 1200 from b_o3_9), (show (0 : Int) ≤ o4_9.toInt ∧ o4_9.toInt ≤ 1200 from b_o4_9), (show (0 : Int) ≤ o17_9.toInt ∧ o17_9.toInt ≤ 12 from b_o17_9), (show (0 : Int) ≤ o18_9.toInt ∧ o18_9.toInt ≤ 16 from b_o18_9), (show (0 : Int) ≤ o19_9.toInt ∧ o19_9.toInt ≤ 20000 from ⟨by omega, by omega⟩), (show (0 : Int) ≤ o20_9.toInt ∧ o20_9.toInt ≤ 9 from b_o20_9), b_ln_0, b_bs_0, b_tk_0, b_lw_0, b_ln_1, b_bs_1, b_tk_1, b_lw_1, b_ln_2, b_bs_2, b_tk_2, b_lw_2, b_wd0, b_wd1, b_wd2, b_wd3, b_rz0, b_rz1, b_rz2, b_rz3, (show o3_9.toInt ≤ o4_9.toInt from by first | with_reducible assumption | omega), (show o28_9 = o24_9 from by first | with_reducible assumption | omega), (show o24_9 ≤ 20000 from by first | with_reducible assumption | omega), (show o19_9.toInt ≤ (o24_9 : Int) from by first | with_reducible assumption | omega), (show RK o17_9 o18_9 o19_9 from by first | with_reducible assumption | omega), hnl0, hnm0, hge0, hrk0, hnl1, hnm1, hge1, hrk1, hnl2, hnm2, hge2, hrk2, hnr, hq1, hq3, hg9_0, hg9_1, hg9_2, hg9_3, (show rg o16_9 9 0 600 from by first | with_reducible assumption | assumption), (show tot t.heap + (2 * pot o24_9 + 2 * pot (va 22) + 2 * pot (va 27) + 2 * pot (va 32) + (2 * pot (va 45) + potg (va 47))) ≤ cc from by omega), hP3, hK3, hD3⟩, hN.warm hW, hX.mv (fun a h1 h2 => hF.2 a h1 (fun z => h2 (hAn a (hFc a h1 z)))) hW.alike (fun _ _ _ _ q => vk_R.warm hW q), Nat.le_trans hn0 hF.1, fun q h => hA q (Nat.le_trans hF.1 h)⟩, hF.1, fun q h1 h2 => hF.2 q h1 (fun z => h2 (hFc q h1 z))⟩
set_option maxHeartbeats 4000000 in
set_option maxRecDepth 100000 in
theorem wX9_fault (l : Launch) (dC : Nat → ClassId) (dI : Nat → Nat → Nat) (gh : Nat → Int32) (AX : Nat → Prop) (cc nB h0 : Nat) (a1 : Int32) (hAn : ∀ q, AX q → nB ≤ q) : Met l yX9_fault uX9_fault ({ frames := 0, cells := 0, slots := 0, locals := 0 }) (va_Pc [.ref h0, .int a1] (PX dC dI gh AX cc nB h0)) (va_Qi (fun (r : Int32) (_ : Unit) => True) (fun (_ : Unit) t => PX dC dI gh AX cc nB h0 t) AX) 0 0 AX := by
  refine Met.via (fun a U hv => ?_)
  obtain ⟨rfl, hV⟩ := hv
  refine XI.elim hV.1 (fun va vz vk vF vG b_ts b_sn b_sb b_si b_sw b_ss b_xf b_xp b_xt b_xa b_xo b_ln b_bs b_tk b_lw b_ln_0 b_bs_0 b_tk_0 b_lw_0 b_ln_1 b_bs_1 b_tk_1 b_lw_1 b_ln_2 b_bs_2 b_tk_2 b_lw_2 b_wd0 b_wd1 b_wd2 b_wd3 b_rz0 b_rz1 b_rz2 b_rz3 hrd hnl hnm hge hrk hnl0 hnm0 hge0 hrk0 hnl1 hnm1 hge1 hrk1 hnl2 hnm2 hge2 hrk2 hnr hq1 hq3 hg9_0 hg9_1 hg9_2 hg9_3 ha_en htot hP hK hD => ?_)
  have hN := hV.2.1
  have hX := hV.2.2.1
  have hn0 := hV.2.2.2.1
  have hA := hV.2.2.2.2
  refine ⟨_, _, _, kX9_fault l dC dI h0 (va 0) (va 1) (va 2) (va 3) (va 4) (va 5) (va 6) (va 7) (va 8) (va 9) (va 2) (vz 6) (vz 7) (vz 8) (vz 9) (vz 10) (vz 11) (vz 12) a1 b_xf b_xp b_xt b_xa b_xo, ⟨rfl, ⟨hP.sub [0, 8] rfl, hK.sub [] rfl, hN⟩⟩, fun o t hq hW _ => ?_, fun q _ hq => hq.elim⟩
  obtain ⟨r, ho, hp, hh⟩ := hq
  exact ⟨⟨r, (), ho, trivial, PX_same hV hh hW⟩, by rw [hh]; exact Nat.le_refl _, fun q _ _ => by rw [hh]⟩
set_option maxHeartbeats 4000000 in
set_option maxRecDepth 100000 in
theorem wX9_figure (l : Launch) (dC : Nat → ClassId) (dI : Nat → Nat → Nat) (gh : Nat → Int32) (AX : Nat → Prop) (cc nB h0 : Nat) (a1 : Int32) (a2 : Int32) (hAn : ∀ q, AX q → nB ≤ q) : Met l yX9_figure uX9_figure ({ frames := 2, cells := 0, slots := 0, locals := 42 }) (va_Pc [.ref h0, .int a1, .int a2] (PX dC dI gh AX cc nB h0)) (va_Qi (fun (r : Int32) (_ : Unit) => True) (fun (_ : Unit) t => PX dC dI gh AX cc nB h0 t) AX) 0 0 AX := by
  refine Met.via (fun a U hv => ?_)
  obtain ⟨rfl, hV⟩ := hv
  refine XI.elim hV.1 (fun va vz vk vF vG b_ts b_sn b_sb b_si b_sw b_ss b_xf b_xp b_xt b_xa b_xo b_ln b_bs b_tk b_lw b_ln_0 b_bs_0 b_tk_0 b_lw_0 b_ln_1 b_bs_1 b_tk_1 b_lw_1 b_ln_2 b_bs_2 b_tk_2 b_lw_2 b_wd0 b_wd1 b_wd2 b_wd3 b_rz0 b_rz1 b_rz2 b_rz3 hrd hnl hnm hge hrk hnl0 hnm0 hge0 hrk0 hnl1 hnm1 hge1 hrk1 hnl2 hnm2 hge2 hrk2 hnr hq1 hq3 hg9_0 hg9_1 hg9_2 hg9_3 ha_en htot hP hK hD => ?_)
  have hN := hV.2.1
  have hX := hV.2.2.1
  have hn0 := hV.2.2.2.1
  have hA := hV.2.2.2.2
  refine ⟨_, _, _, kX9_figure l dC dI h0 (va 0) (va 1) (va 2) (va 3) (va 4) (va 5) (va 6) (va 7) (va 8) (va 9) (vz 13) (vz 14) (vz 15) (vz 16) (vz 17) (va 15) (va 16) (vk 5) (va 17) (vG 2) a1 a2 b_ln b_bs b_tk b_lw (by first | with_reducible assumption | omega), ⟨rfl, ⟨hP.sub [0, 9, 10] rfl, hK.sub [5] rfl, hN⟩⟩, fun o t hq hW _ => ?_, fun q _ hq => hq.elim⟩
  obtain ⟨r, ho, hp, hh⟩ := hq
  exact ⟨⟨r, (), ho, trivial, PX_same hV hh hW⟩, by rw [hh]; exact Nat.le_refl _, fun q _ _ => by rw [hh]⟩
set_option maxHeartbeats 4000000 in
set_option maxRecDepth 100000 in
theorem wX9_sums (l : Launch) (dC : Nat → ClassId) (dI : Nat → Nat → Nat) (gh : Nat → Int32) (AX : Nat → Prop) (cc nB h0 : Nat) (a1 : Int32) (a2 : Int32) (hAn : ∀ q, AX q → nB ≤ q) : Met l yX9_sums uX9_sums ({ frames := 3, cells := 0, slots := 0, locals := 66 }) (va_Pc [.ref h0, .int a1, .int a2] (PX dC dI gh AX cc nB h0)) (va_Qi (fun (r : Int32) (_ : Unit) => True) (fun (_ : Unit) t => PX dC dI gh AX cc nB h0 t) AX) 0 0 AX := by
  refine Met.via (fun a U hv => ?_)
  obtain ⟨rfl, hV⟩ := hv
  refine XI.elim hV.1 (fun va vz vk vF vG b_ts b_sn b_sb b_si b_sw b_ss b_xf b_xp b_xt b_xa b_xo b_ln b_bs b_tk b_lw b_ln_0 b_bs_0 b_tk_0 b_lw_0 b_ln_1 b_bs_1 b_tk_1 b_lw_1 b_ln_2 b_bs_2 b_tk_2 b_lw_2 b_wd0 b_wd1 b_wd2 b_wd3 b_rz0 b_rz1 b_rz2 b_rz3 hrd hnl hnm hge hrk hnl0 hnm0 hge0 hrk0 hnl1 hnm1 hge1 hrk1 hnl2 hnm2 hge2 hrk2 hnr hq1 hq3 hg9_0 hg9_1 hg9_2 hg9_3 ha_en htot hP hK hD => ?_)
  have hN := hV.2.1
  have hX := hV.2.2.1
  have hn0 := hV.2.2.2.1
  have hA := hV.2.2.2.2
  refine ⟨_, _, _, kX9_sums l dC dI h0 (va 0) (va 1) (va 2) (va 3) (va 4) (va 5) (va 6) (va 7) (va 8) (va 9) (vz 13) (vz 14) (vz 15) (vz 16) (vz 17) (va 15) (va 16) (vk 5) (va 17) (vG 2) a1 a2 b_ln b_bs b_tk b_lw (by first | with_reducible assumption | omega), ⟨rfl, ⟨hP.sub [0, 9, 10] rfl, hK.sub [5] rfl, hN⟩⟩, fun o t hq hW _ => ?_, fun q _ hq => hq.elim⟩
  obtain ⟨r, ho, hp, hh⟩ := hq
  exact ⟨⟨r, (), ho, trivial, PX_same hV hh hW⟩, by rw [hh]; exact Nat.le_refl _, fun q _ _ => by rw [hh]⟩
set_option maxHeartbeats 4000000 in
set_option maxRecDepth 100000 in
theorem wX9_lucky (l : Launch) (dC : Nat → ClassId) (dI : Nat → Nat → Nat) (gh : Nat → Int32) (AX : Nat → Prop) (cc nB h0 : Nat) (a1 : Int32) (a2 : Int32) (hAn : ∀ q, AX q → nB ≤ q) : Met l yX9_lucky uX9_lucky ({ frames := 2, cells := 0, slots := 0, locals := 43 }) (va_Pc [.ref h0, .int a1, .int a2] (PX dC dI gh AX cc nB h0)) (va_Qi (fun (r : Int32) (_ : Unit) => True) (fun (_ : Unit) t => PX dC dI gh AX cc nB h0 t) AX) 0 0 AX := by
  refine Met.via (fun a U hv => ?_)
  obtain ⟨rfl, hV⟩ := hv
  refine XI.elim hV.1 (fun va vz vk vF vG b_ts b_sn b_sb b_si b_sw b_ss b_xf b_xp b_xt b_xa b_xo b_ln b_bs b_tk b_lw b_ln_0 b_bs_0 b_tk_0 b_lw_0 b_ln_1 b_bs_1 b_tk_1 b_lw_1 b_ln_2 b_bs_2 b_tk_2 b_lw_2 b_wd0 b_wd1 b_wd2 b_wd3 b_rz0 b_rz1 b_rz2 b_rz3 hrd hnl hnm hge hrk hnl0 hnm0 hge0 hrk0 hnl1 hnm1 hge1 hrk1 hnl2 hnm2 hge2 hrk2 hnr hq1 hq3 hg9_0 hg9_1 hg9_2 hg9_3 ha_en htot hP hK hD => ?_)
  have hN := hV.2.1
  have hX := hV.2.2.1
  have hn0 := hV.2.2.2.1
  have hA := hV.2.2.2.2
  refine ⟨_, _, _, kX9_lucky l dC dI h0 (va 0) (va 1) (va 2) (va 3) (va 4) (va 5) (va 6) (va 7) (va 8) (va 9) (vz 13) (vz 14) (vz 15) (vz 16) (vz 17) (va 15) (va 16) (vk 6) (va 18) (vF 3) a1 a2 b_ln b_bs b_tk b_lw (by first | with_reducible assumption | omega), ⟨rfl, ⟨hP.sub [0, 9, 11] rfl, hK.sub [6] rfl, hN⟩⟩, fun o t hq hW _ => ?_, fun q _ hq => hq.elim⟩
  obtain ⟨r, ho, hp, hh⟩ := hq
  exact ⟨⟨r, (), ho, trivial, PX_same hV hh hW⟩, by rw [hh]; exact Nat.le_refl _, fun q _ _ => by rw [hh]⟩
set_option maxHeartbeats 4000000 in
set_option maxRecDepth 100000 in
theorem wX9_laws (l : Launch) (dC : Nat → ClassId) (dI : Nat → Nat → Nat) (gh : Nat → Int32) (AX : Nat → Prop) (cc nB h0 : Nat) (a1 : Int32) (hAn : ∀ q, AX q → nB ≤ q) : Met l yX9_laws uX9_laws ({ frames := 2, cells := 0, slots := 0, locals := 42 }) (va_Pc [.ref h0, .int a1] (PX dC dI gh AX cc nB h0)) (va_Qi (fun (r : Int32) (_ : Unit) => True) (fun (_ : Unit) t => PX dC dI gh AX cc nB h0 t) AX) 0 0 AX := by
  refine Met.via (fun a U hv => ?_)
  obtain ⟨rfl, hV⟩ := hv
  refine XI.elim hV.1 (fun va vz vk vF vG b_ts b_sn b_sb b_si b_sw b_ss b_xf b_xp b_xt b_xa b_xo b_ln b_bs b_tk b_lw b_ln_0 b_bs_0 b_tk_0 b_lw_0 b_ln_1 b_bs_1 b_tk_1 b_lw_1 b_ln_2 b_bs_2 b_tk_2 b_lw_2 b_wd0 b_wd1 b_wd2 b_wd3 b_rz0 b_rz1 b_rz2 b_rz3 hrd hnl hnm hge hrk hnl0 hnm0 hge0 hrk0 hnl1 hnm1 hge1 hrk1 hnl2 hnm2 hge2 hrk2 hnr hq1 hq3 hg9_0 hg9_1 hg9_2 hg9_3 ha_en htot hP hK hD => ?_)
  have hN := hV.2.1
  have hX := hV.2.2.1
  have hn0 := hV.2.2.2.1
  have hA := hV.2.2.2.2
  refine ⟨_, _, _, kX9_laws l dC dI h0 (va 0) (va 1) (va 2) (va 3) (va 4) (va 5) (va 6) (va 7) (va 8) (va 9) (vz 13) (vz 14) (vz 15) (vz 16) (vz 17) (va 15) (va 16) (vk 6) (va 18) (vF 3) a1 b_ln b_bs b_tk b_lw (by first | with_reducible assumption | omega), ⟨rfl, ⟨hP.sub [0, 9, 11] rfl, hK.sub [6] rfl, hN⟩⟩, fun o t hq hW _ => ?_, fun q _ hq => hq.elim⟩
  obtain ⟨r, ho, hp, hh⟩ := hq
  exact ⟨⟨r, (), ho, trivial, PX_same hV hh hW⟩, by rw [hh]; exact Nat.le_refl _, fun q _ _ => by rw [hh]⟩
