set_option maxHeartbeats 4000000 in
set_option maxRecDepth 100000 in
theorem wX9_image (l : Launch) (dC : Nat → ClassId) (dI : Nat → Nat → Nat) (gh : Nat → Int32) (AX : Nat → Prop) (cc nB h0 : Nat) (a1 : Int32) (hAn : ∀ q, AX q → nB ≤ q) : Met l yX9_image uX9_image ({ frames := 2, cells := 2, slots := 40000, locals := 85 }) (va_Pc [.ref h0, .int a1] (PX dC dI gh AX cc nB h0)) (va_Qi (fun (r : Int32) (_ : Unit) => True) (fun (_ : Unit) t => PX dC dI gh AX cc nB h0 t) AX) 2 40000 AX := by
  refine Met.via (fun a U hv => ?_)
  obtain ⟨rfl, hV⟩ := hv
  refine XI.elim hV.1 (fun va vz vk vF vG b_ts b_sn b_sb b_si b_sw b_ss b_xf b_xp b_xt b_xa b_xo b_ln b_bs b_tk b_lw b_ln_0 b_bs_0 b_tk_0 b_lw_0 b_ln_1 b_bs_1 b_tk_1 b_lw_1 b_ln_2 b_bs_2 b_tk_2 b_lw_2 b_wd0 b_wd1 b_wd2 b_wd3 b_rz0 b_rz1 b_rz2 b_rz3 hrd hnl hnm hge hrk hnl0 hnm0 hge0 hrk0 hnl1 hnm1 hge1 hrk1 hnl2 hnm2 hge2 hrk2 hnr hq1 hq3 hg9_0 hg9_1 hg9_2 hg9_3 ha_en htot hP hK hD => ?_)
  have hN := hV.2.1
  have hX := hV.2.2.1
  have hn0 := hV.2.2.2.1
  have hA := hV.2.2.2.2
  have hFc : ∀ q : Nat, q < U.heap.size → va_A [(h0, .inr (7, [.ref (va 0), .ref (va 1), .ref (va 2), .ref (va 3), .ref (va 4), .ref (va 5), .ref (va 6), .ref (va 7), .ref (va 8), .ref (va 9)])), ((va 3), .inr (1, [.int (vz 13), .int (vz 14), .int (vz 15), .int (vz 16), .int (vz 17), .ref (va 15), .ref (va 16)])), ((va 15), .inl ((vk 5), (va 17), .inr (.inl (vG 2)))), ((va 16), .inl ((vk 6), (va 18), .inl (vF 3))), ((va 4), .inl ((vk 7), 3, .inr (.inr (.inr (.inr (sf3 (va 19) (va 24) (va 29))))))), ((va 19), .inr (1, [.int (vz 18), .int (vz 19), .int (vz 20), .int (vz 21), .int (vz 22), .ref (va 20), .ref (va 21)])), ((va 20), .inl ((vk 9), (va 22), .inr (.inl (vG 3)))), ((va 21), .inl ((vk 10), (va 23), .inl (vF 5))), ((va 24), .inr (1, [.int (vz 23), .int (vz 24), .int (vz 25), .int (vz 26), .int (vz 27), .ref (va 25), .ref (va 26)])), ((va 25), .inl ((vk 11), (va 27), .inr (.inl (vG 4)))), ((va 26), .inl ((vk 12), (va 28), .inl (vF 6))), ((va 29), .inr (1, [.int (vz 28), .int (vz 29), .int (vz 30), .int (vz 31), .int (vz 32), .ref (va 30), .ref (va 31)])), ((va 30), .inl ((vk 13), (va 32), .inr (.inl (vG 5)))), ((va 31), .inl ((vk 14), (va 33), .inl (vF 7))), ((va 5), .inl ((vk 8), 3, .inl (vF 4)))] U.heap.size q → AX q := fun q h1 h2 => va_Ain (hD.sub (ws' := [(h0, .inr (7, [.ref (va 0), .ref (va 1), .ref (va 2), .ref (va 3), .ref (va 4), .ref (va 5), .ref (va 6), .ref (va 7), .ref (va 8), .ref (va 9)])), ((va 3), .inr (1, [.int (vz 13), .int (vz 14), .int (vz 15), .int (vz 16), .int (vz 17), .ref (va 15), .ref (va 16)])), ((va 15), .inl ((vk 5), (va 17), .inr (.inl (vG 2)))), ((va 16), .inl ((vk 6), (va 18), .inl (vF 3))), ((va 4), .inl ((vk 7), 3, .inr (.inr (.inr (.inr (sf3 (va 19) (va 24) (va 29))))))), ((va 19), .inr (1, [.int (vz 18), .int (vz 19), .int (vz 20), .int (vz 21), .int (vz 22), .ref (va 20), .ref (va 21)])), ((va 20), .inl ((vk 9), (va 22), .inr (.inl (vG 3)))), ((va 21), .inl ((vk 10), (va 23), .inl (vF 5))), ((va 24), .inr (1, [.int (vz 23), .int (vz 24), .int (vz 25), .int (vz 26), .int (vz 27), .ref (va 25), .ref (va 26)])), ((va 25), .inl ((vk 11), (va 27), .inr (.inl (vG 4)))), ((va 26), .inl ((vk 12), (va 28), .inl (vF 6))), ((va 29), .inr (1, [.int (vz 28), .int (vz 29), .int (vz 30), .int (vz 31), .int (vz 32), .ref (va 30), .ref (va 31)])), ((va 30), .inl ((vk 13), (va 32), .inr (.inl (vG 5)))), ((va 31), .inl ((vk 14), (va 33), .inl (vF 7))), ((va 5), .inl ((vk 8), 3, .inl (vF 4)))]) [0, 9, 10, 11, 12, 13, 14, 15, 16, 17, 18, 19, 20, 21, 22] (by decide) rfl) h1 h2
  refine ⟨_, _, _, kX9_image l dC dI h0 (va 0) (va 1) (va 2) (va 3) (va 4) (va 5) (va 6) (va 7) (va 8) (va 9) (vz 13) (vz 14) (vz 15) (vz 16) (vz 17) (va 15) (va 16) (vk 5) (va 17) (vG 2) (vk 6) (va 18) (vF 3) (vk 7) (vk 8) (vF 4) (va 19) (vz 18) (vz 19) (vz 20) (vz 21) (vz 22) (va 20) (va 21) (vk 9) (va 22) (vG 3) (vk 10) (va 23) (vF 5) (va 24) (vz 23) (vz 24) (vz 25) (vz 26) (vz 27) (va 25) (va 26) (vk 11) (va 27) (vG 4) (vk 12) (va 28) (vF 6) (va 29) (vz 28) (vz 29) (vz 30) (vz 31) (vz 32) (va 30) (va 31) (vk 13) (va 32) (vG 5) (vk 14) (va 33) (vF 7) a1 (cc - (2 * pot (va 17) + (2 * pot (va 45) + potg (va 47)))) U.heap.size b_ln b_bs b_tk b_lw b_ln_0 b_bs_0 b_tk_0 b_lw_0 b_ln_1 b_bs_1 b_tk_1 b_lw_1 b_ln_2 b_bs_2 b_tk_2 b_lw_2 (by first | with_reducible assumption | omega) (by first | with_reducible assumption | omega) (by first | with_reducible assumption | omega) (by first | with_reducible assumption | omega) (by first | with_reducible assumption | omega) (by first | with_reducible assumption | omega) (by first | with_reducible assumption | omega) (by first | with_reducible assumption | omega) (by first | with_reducible assumption | omega) (by first | with_reducible assumption | omega) (by first | with_reducible assumption | omega) (by first | with_reducible assumption | omega) (by first | with_reducible assumption | omega) (by first | with_reducible assumption | omega) (by first | with_reducible assumption | omega) (by first | with_reducible assumption | omega), ⟨rfl, ⟨⟨rfl, hP.sub [0, 9, 10, 11, 12, 13, 14, 15, 16, 17, 18, 19, 20, 21, 22] rfl, hK.sub [5, 6, 7, 8, 9, 10, 11, 12, 13, 14] rfl, (hD.sub [0, 9, 10, 11, 12, 13, 14, 15, 16, 17, 18, 19, 20, 21, 22] (by decide) rfl).weaken (fun _ _ _ _ => trivial), hN⟩, by omega⟩⟩, fun o t hq hW hts => ?_, fun q h1 h2 => hFc q h1 h2⟩
  have hF := hq.2
  have h9_0 := hq.1
  clear hq
  refine Exists.elim h9_0 (fun r h9_1 => ?_)
  clear h9_0
  refine Exists.elim h9_1 (fun u h9_2 => ?_)
  clear h9_1
  refine and_el h9_2 (fun ho h9_3 => ?_)
  clear h9_2
  refine and_el h9_3 (fun hp h9_4 => ?_)
  clear h9_3
  refine Exists.elim h9_4 (fun o0_9 h9_5 => ?_)
  clear h9_4
  refine Exists.elim h9_5 (fun o1_9 h9_6 => ?_)
  clear h9_5
  refine Exists.elim h9_6 (fun o2_9 h9_7 => ?_)
  clear h9_6
  refine Exists.elim h9_7 (fun o3_9 h9_8 => ?_)
  clear h9_7
  refine Exists.elim h9_8 (fun o4_9 h9_9 => ?_)
  clear h9_8
  refine Exists.elim h9_9 (fun o5_9 h9_10 => ?_)
  clear h9_9
  refine Exists.elim h9_10 (fun o6_9 h9_11 => ?_)
  clear h9_10
  refine Exists.elim h9_11 (fun o7_9 h9_12 => ?_)
  clear h9_11
  refine Exists.elim h9_12 (fun o8_9 h9_13 => ?_)
  clear h9_12
  refine Exists.elim h9_13 (fun o9_9 h9_14 => ?_)
  clear h9_13
  refine Exists.elim h9_14 (fun o10_9 h9_15 => ?_)
  clear h9_14
  refine Exists.elim h9_15 (fun o11_9 h9_16 => ?_)
  clear h9_15
  refine Exists.elim h9_16 (fun o12_9 h9_17 => ?_)
  clear h9_16
  refine Exists.elim h9_17 (fun o13_9 h9_18 => ?_)
  clear h9_17
  refine Exists.elim h9_18 (fun o14_9 h9_19 => ?_)
  clear h9_18
  refine Exists.elim h9_19 (fun o15_9 h9_20 => ?_)
  clear h9_19
  refine Exists.elim h9_20 (fun o16_9 h9_21 => ?_)
  clear h9_20
  refine Exists.elim h9_21 (fun o17_9 h9_22 => ?_)
  clear h9_21
  refine Exists.elim h9_22 (fun o18_9 h9_23 => ?_)
  clear h9_22
  refine Exists.elim h9_23 (fun o19_9 h9_24 => ?_)
  clear h9_23
  refine Exists.elim h9_24 (fun o20_9 h9_25 => ?_)
  clear h9_24
  refine Exists.elim h9_25 (fun o21_9 h9_26 => ?_)
  clear h9_25
  refine Exists.elim h9_26 (fun o22_9 h9_27 => ?_)
  clear h9_26
  refine Exists.elim h9_27 (fun o23_9 h9_28 => ?_)
  clear h9_27
  refine Exists.elim h9_28 (fun o24_9 h9_29 => ?_)
  clear h9_28
  refine Exists.elim h9_29 (fun o25_9 h9_30 => ?_)
  clear h9_29
  refine Exists.elim h9_30 (fun o26_9 h9_31 => ?_)
  clear h9_30
  refine Exists.elim h9_31 (fun o27_9 h9_32 => ?_)
  clear h9_31
  refine Exists.elim h9_32 (fun o28_9 h9_33 => ?_)
  clear h9_32
  refine Exists.elim h9_33 (fun o29_9 h9_34 => ?_)
  clear h9_33
  refine Exists.elim h9_34 (fun o30_9 h9_35 => ?_)
  clear h9_34
  refine Exists.elim h9_35 (fun o31_9 h9_36 => ?_)
  clear h9_35
  refine Exists.elim h9_36 (fun o32_9 h9_37 => ?_)
  clear h9_36
  refine Exists.elim h9_37 (fun o33_9 h9_38 => ?_)
  clear h9_37
  refine Exists.elim h9_38 (fun o34_9 h9_39 => ?_)
  clear h9_38
  refine Exists.elim h9_39 (fun o35_9 h9_40 => ?_)
  clear h9_39
  refine Exists.elim h9_40 (fun o36_9 h9_41 => ?_)
  clear h9_40
  refine Exists.elim h9_41 (fun o37_9 h9_42 => ?_)
  clear h9_41
  refine Exists.elim h9_42 (fun o38_9 h9_43 => ?_)
  clear h9_42
  refine Exists.elim h9_43 (fun o39_9 h9_44 => ?_)
  clear h9_43
  refine and_el h9_44 (fun b_o0_9 h9_45 => ?_)
  clear h9_44
  refine and_el h9_45 (fun b_o1_9 h9_46 => ?_)
  clear h9_45
  refine and_el h9_46 (fun b_o2_9 h9_47 => ?_)
  clear h9_46
  refine and_el h9_47 (fun b_o3_9 h9_48 => ?_)
  clear h9_47
  refine and_el h9_48 (fun b_o13_9 h9_49 => ?_)
  clear h9_48
  refine and_el h9_49 (fun b_o14_9 h9_50 => ?_)
  clear h9_49
  refine and_el h9_50 (fun b_o15_9 h9_51 => ?_)
  clear h9_50
  refine and_el h9_51 (fun b_o16_9 h9_52 => ?_)
  clear h9_51
  refine and_el h9_52 (fun b_o26_9 h9_53 => ?_)
  clear h9_52
  refine and_el h9_53 (fun b_o27_9 h9_54 => ?_)
  clear h9_53
  refine and_el h9_54 (fun b_o28_9 h9_55 => ?_)
  clear h9_54
  refine and_el h9_55 (fun b_o29_9 h9_56 => ?_)
  clear h9_55
  refine and_el h9_56 (fun hf12 h9_57 => ?_)
  clear h9_56
  refine and_el h9_57 (fun hf13 h9_58 => ?_)
  clear h9_57
  refine and_el h9_58 (fun hf14 h9_59 => ?_)
  clear h9_58
  refine and_el h9_59 (fun hf15 h9_60 => ?_)
  clear h9_59
  refine and_el h9_60 (fun hf16 h9_61 => ?_)
  clear h9_60
  refine and_el h9_61 (fun hf17 h9_62 => ?_)
  clear h9_61
  refine and_el h9_62 (fun hf18 h9_63 => ?_)
  clear h9_62
  refine and_el h9_63 (fun hf19 h9_64 => ?_)
  clear h9_63
  refine and_el h9_64 (fun hf20 h9_65 => ?_)
  clear h9_64
  refine and_el h9_65 (fun hf21 h9_66 => ?_)
  clear h9_65
  refine and_el h9_66 (fun hf22 h9_67 => ?_)
  clear h9_66
  refine and_el h9_67 (fun hf23 h9_68 => ?_)
  clear h9_67
  refine and_el h9_68 (fun htt h9_69 => ?_)
  clear h9_68
  refine and_el h9_69 (fun hP1 h9_70 => ?_)
  clear h9_69
  refine and_el h9_70 (fun hK1 h9_71 => ?_)
  clear h9_70
  have hD1 := h9_71
  clear h9_71
  have hC9 : [0, 9, 10, 11, 12, 13, 14, 15, 16, 17, 18, 19, 20, 21, 22].map (fun i => ([(h0, .inr (7, [.ref (va 0), .ref (va 1), .ref (va 2), .ref (va 3), .ref (va 4), .ref (va 5), .ref (va 6), .ref (va 7), .ref (va 8), .ref (va 9)])), ((va 0), .inr (6, [.ref (va 10), .int (vz 0)])), ((va 10), .inl ((vk 0), 1200, .inl (vF 0))), ((va 1), .inr (3, [.int (vz 1), .int (vz 2), .int (vz 3), .int (vz 4), .int (vz 5), .ref (va 11), .ref (va 12), .ref (va 13), .ref (va 14)])), ((va 11), .inl ((vk 1), 9, .inl (vF 1))), ((va 12), .inl ((vk 2), 600, .inl (vF 2))), ((va 13), .inl ((vk 3), 600, .inr (.inl (vG 0)))), ((va 14), .inl ((vk 4), 600, .inr (.inl (vG 1)))), ((va 2), .inr (0, [.ref (va 0), .ref (va 1), .int (vz 6), .int (vz 7), .int (vz 8), .int (vz 9), .int (vz 10), .int (vz 11), .int (vz 12)])), ((va 3), .inr (1, [.int (vz 13), .int (vz 14), .int (vz 15), .int (vz 16), .int (vz 17), .ref (va 15), .ref (va 16)])), ((va 15), .inl ((vk 5), (va 17), .inr (.inl (vG 2)))), ((va 16), .inl ((vk 6), (va 18), .inl (vF 3))), ((va 4), .inl ((vk 7), 3, .inr (.inr (.inr (.inr (sf3 (va 19) (va 24) (va 29))))))), ((va 19), .inr (1, [.int (vz 18), .int (vz 19), .int (vz 20), .int (vz 21), .int (vz 22), .ref (va 20), .ref (va 21)])), ((va 20), .inl ((vk 9), (va 22), .inr (.inl (vG 3)))), ((va 21), .inl ((vk 10), (va 23), .inl (vF 5))), ((va 24), .inr (1, [.int (vz 23), .int (vz 24), .int (vz 25), .int (vz 26), .int (vz 27), .ref (va 25), .ref (va 26)])), ((va 25), .inl ((vk 11), (va 27), .inr (.inl (vG 4)))), ((va 26), .inl ((vk 12), (va 28), .inl (vF 6))), ((va 29), .inr (1, [.int (vz 28), .int (vz 29), .int (vz 30), .int (vz 31), .int (vz 32), .ref (va 30), .ref (va 31)])), ((va 30), .inl ((vk 13), (va 32), .inr (.inl (vG 5)))), ((va 31), .inl ((vk 14), (va 33), .inl (vF 7))), ((va 5), .inl ((vk 8), 3, .inl (vF 4))), ((va 6), .inl ((vk 15), 4, .inr (.inr (.inr (.inr (sf4 (va 34) (va 35) (va 36) (va 37))))))), ((va 34), .inr (2, [.int (vz 33), .int (vz 37), .ref (va 38)])), ((va 35), .inr (2, [.int (vz 34), .int (vz 38), .ref (va 39)])), ((va 36), .inr (2, [.int (vz 35), .int (vz 39), .ref (va 40)])), ((va 37), .inr (2, [.int (vz 36), .int (vz 40), .ref (va 41)])), ((va 38), .inl ((vk 16), 60, .inr (.inl (vG 6)))), ((va 39), .inl ((vk 17), 60, .inr (.inl (vG 7)))), ((va 40), .inl ((vk 18), 60, .inr (.inl (vG 8)))), ((va 41), .inl ((vk 19), 60, .inr (.inl (vG 9)))), ((va 7), .inr (4, [.ref (va 42), .ref (va 43), .ref (va 44)])), ((va 42), .inl ((vk 20), (va 45), .inl (vF 8))), ((va 43), .inl ((vk 21), (va 46), .inl (vF 9))), ((va 44), .inl ((vk 22), (va 47), .inl (vF 10))), ((va 8), .inr (5, [.ref (va 48)])), ((va 48), .inl ((vk 23), 181, .inr (.inl (vG 10)))), ((va 9), .inl ((vk 24), 16, .inl (vF 11)))] : va_W)[i]?) = ([(h0, .inr (7, [.ref (va 0), .ref (va 1), .ref (va 2), .ref (va 3), .ref (va 4), .ref (va 5), .ref (va 6), .ref (va 7), .ref (va 8), .ref (va 9)])), ((va 3), .inr (1, [.int (vz 13), .int (vz 14), .int (vz 15), .int (vz 16), .int (vz 17), .ref (va 15), .ref (va 16)])), ((va 15), .inl ((vk 5), (va 17), .inr (.inl (vG 2)))), ((va 16), .inl ((vk 6), (va 18), .inl (vF 3))), ((va 4), .inl ((vk 7), 3, .inr (.inr (.inr (.inr (sf3 (va 19) (va 24) (va 29))))))), ((va 19), .inr (1, [.int (vz 18), .int (vz 19), .int (vz 20), .int (vz 21), .int (vz 22), .ref (va 20), .ref (va 21)])), ((va 20), .inl ((vk 9), (va 22), .inr (.inl (vG 3)))), ((va 21), .inl ((vk 10), (va 23), .inl (vF 5))), ((va 24), .inr (1, [.int (vz 23), .int (vz 24), .int (vz 25), .int (vz 26), .int (vz 27), .ref (va 25), .ref (va 26)])), ((va 25), .inl ((vk 11), (va 27), .inr (.inl (vG 4)))), ((va 26), .inl ((vk 12), (va 28), .inl (vF 6))), ((va 29), .inr (1, [.int (vz 28), .int (vz 29), .int (vz 30), .int (vz 31), .int (vz 32), .ref (va 30), .ref (va 31)])), ((va 30), .inl ((vk 13), (va 32), .inr (.inl (vG 5)))), ((va 31), .inl ((vk 14), (va 33), .inl (vF 7))), ((va 5), .inl ((vk 8), 3, .inl (vF 4)))] : va_W).map some := rfl
  have hP2 := va_put9 [0, 9, 10, 11, 12, 13, 14, 15, 16, 17, 18, 19, 20, 21, 22] hP hD hC9 hF.2 hP1 (by exact Nat.le_of_ble_eq_true rfl)
  have hP3 : va_P (dC, dI) vwCl [(h0, .inr (7, [.ref (va 0), .ref (va 1), .ref (va 2), .ref (va 3), .ref (va 4), .ref (va 5), .ref (va 6), .ref (va 7), .ref (va 8), .ref (va 9)])), ((va 0), .inr (6, [.ref (va 10), .int (vz 0)])), ((va 10), .inl ((vk 0), 1200, .inl (vF 0))), ((va 1), .inr (3, [.int (vz 1), .int (vz 2), .int (vz 3), .int (vz 4), .int (vz 5), .ref (va 11), .ref (va 12), .ref (va 13), .ref (va 14)])), ((va 11), .inl ((vk 1), 9, .inl (vF 1))), ((va 12), .inl ((vk 2), 600, .inl (vF 2))), ((va 13), .inl ((vk 3), 600, .inr (.inl (vG 0)))), ((va 14), .inl ((vk 4), 600, .inr (.inl (vG 1)))), ((va 2), .inr (0, [.ref (va 0), .ref (va 1), .int (vz 6), .int (vz 7), .int (vz 8), .int (vz 9), .int (vz 10), .int (vz 11), .int (vz 12)])), ((va 3), .inr (1, [.int (vz 13), .int (vz 14), .int (vz 15), .int (vz 16), .int (vz 17), .ref (va 15), .ref (va 16)])), ((va 15), .inl ((vk 5), (va 17), .inr (.inl (vG 2)))), ((va 16), .inl ((vk 6), (va 18), .inl (vF 3))), ((va 4), .inl ((vk 7), 3, .inr (.inr (.inr (.inr (sf3 (va 19) (va 24) (va 29))))))), ((va 19), .inr (1, [.int o0_9, .int o1_9, .int o2_9, .int o3_9, .int o4_9, .ref o5_9, .ref o9_9])), (o5_9, .inl (o6_9, o7_9, .inr (.inl o8_9))), (o9_9, .inl (o10_9, o11_9, .inl o12_9)), ((va 24), .inr (1, [.int o13_9, .int o14_9, .int o15_9, .int o16_9, .int o17_9, .ref o18_9, .ref o22_9])), (o18_9, .inl (o19_9, o20_9, .inr (.inl o21_9))), (o22_9, .inl (o23_9, o24_9, .inl o25_9)), ((va 29), .inr (1, [.int o26_9, .int o27_9, .int o28_9, .int o29_9, .int o30_9, .ref o31_9, .ref o35_9])), (o31_9, .inl (o32_9, o33_9, .inr (.inl o34_9))), (o35_9, .inl (o36_9, o37_9, .inl o38_9)), ((va 5), .inl ((vk 8), 3, .inl o39_9)), ((va 6), .inl ((vk 15), 4, .inr (.inr (.inr (.inr (sf4 (va 34) (va 35) (va 36) (va 37))))))), ((va 34), .inr (2, [.int (vz 33), .int (vz 37), .ref (va 38)])), ((va 35), .inr (2, [.int (vz 34), .int (vz 38), .ref (va 39)])), ((va 36), .inr (2, [.int (vz 35), .int (vz 39), .ref (va 40)])), ((va 37), .inr (2, [.int (vz 36), .int (vz 40), .ref (va 41)])), ((va 38), .inl ((vk 16), 60, .inr (.inl (vG 6)))), ((va 39), .inl ((vk 17), 60, .inr (.inl (vG 7)))), ((va 40), .inl ((vk 18), 60, .inr (.inl (vG 8)))), ((va 41), .inl ((vk 19), 60, .inr (.inl (vG 9)))), ((va 7), .inr (4, [.ref (va 42), .ref (va 43), .ref (va 44)])), ((va 42), .inl ((vk 20), (va 45), .inl (vF 8))), ((va 43), .inl ((vk 21), (va 46), .inl (vF 9))), ((va 44), .inl ((vk 22), (va 47), .inl (vF 10))), ((va 8), .inr (5, [.ref (va 48)])), ((va 48), .inl ((vk 23), 181, .inr (.inl (vG 10)))), ((va 9), .inl ((vk 24), 16, .inl (vF 11)))] t.heap := hP2
  have hK2 := va_Kput [5, 6, 7, 8, 9, 10, 11, 12, 13, 14] (va_K.moved hW.alike hK) hK1
  have hK3 : va_K (dC, dI) vwCl [((vk 0), .byte), ((vk 1), .int), ((vk 2), .int), ((vk 3), .long), ((vk 4), .long), ((vk 5), .long), ((vk 6), .int), ((vk 7), .object RX2), (o6_9, .long), (o10_9, .int), (o19_9, .long), (o23_9, .int), (o32_9, .long), (o36_9, .int), ((vk 8), .boolean), ((vk 15), .object RX3), ((vk 16), .long), ((vk 17), .long), ((vk 18), .long), ((vk 19), .long), ((vk 20), .int), ((vk 21), .int), ((vk 22), .byte), ((vk 23), .long), ((vk 24), .int)] t := hK2
  have hD2 := va_Dput (A' := AX) [0, 9, 10, 11, 12, 13, 14, 15, 16, 17, 18, 19, 20, 21, 22] hP hD hC9 hD1 (by exact Nat.le_of_ble_eq_true rfl) (fun q h => h) (fun q h => (Nat.lt_or_ge q U.heap.size).elim (fun h1 => hFc q h1 h) (fun h1 => hA q h1))
  have hD3 : va_D AX [(h0, .inr (7, [.ref (va 0), .ref (va 1), .ref (va 2), .ref (va 3), .ref (va 4), .ref (va 5), .ref (va 6), .ref (va 7), .ref (va 8), .ref (va 9)])), ((va 0), .inr (6, [.ref (va 10), .int (vz 0)])), ((va 10), .inl ((vk 0), 1200, .inl (vF 0))), ((va 1), .inr (3, [.int (vz 1), .int (vz 2), .int (vz 3), .int (vz 4), .int (vz 5), .ref (va 11), .ref (va 12), .ref (va 13), .ref (va 14)])), ((va 11), .inl ((vk 1), 9, .inl (vF 1))), ((va 12), .inl ((vk 2), 600, .inl (vF 2))), ((va 13), .inl ((vk 3), 600, .inr (.inl (vG 0)))), ((va 14), .inl ((vk 4), 600, .inr (.inl (vG 1)))), ((va 2), .inr (0, [.ref (va 0), .ref (va 1), .int (vz 6), .int (vz 7), .int (vz 8), .int (vz 9), .int (vz 10), .int (vz 11), .int (vz 12)])), ((va 3), .inr (1, [.int (vz 13), .int (vz 14), .int (vz 15), .int (vz 16), .int (vz 17), .ref (va 15), .ref (va 16)])), ((va 15), .inl ((vk 5), (va 17), .inr (.inl (vG 2)))), ((va 16), .inl ((vk 6), (va 18), .inl (vF 3))), ((va 4), .inl ((vk 7), 3, .inr (.inr (.inr (.inr (sf3 (va 19) (va 24) (va 29))))))), ((va 19), .inr (1, [.int o0_9, .int o1_9, .int o2_9, .int o3_9, .int o4_9, .ref o5_9, .ref o9_9])), (o5_9, .inl (o6_9, o7_9, .inr (.inl o8_9))), (o9_9, .inl (o10_9, o11_9, .inl o12_9)), ((va 24), .inr (1, [.int o13_9, .int o14_9, .int o15_9, .int o16_9, .int o17_9, .ref o18_9, .ref o22_9])), (o18_9, .inl (o19_9, o20_9, .inr (.inl o21_9))), (o22_9, .inl (o23_9, o24_9, .inl o25_9)), ((va 29), .inr (1, [.int o26_9, .int o27_9, .int o28_9, .int o29_9, .int o30_9, .ref o31_9, .ref o35_9])), (o31_9, .inl (o32_9, o33_9, .inr (.inl o34_9))), (o35_9, .inl (o36_9, o37_9, .inl o38_9)), ((va 5), .inl ((vk 8), 3, .inl o39_9)), ((va 6), .inl ((vk 15), 4, .inr (.inr (.inr (.inr (sf4 (va 34) (va 35) (va 36) (va 37))))))), ((va 34), .inr (2, [.int (vz 33), .int (vz 37), .ref (va 38)])), ((va 35), .inr (2, [.int (vz 34), .int (vz 38), .ref (va 39)])), ((va 36), .inr (2, [.int (vz 35), .int (vz 39), .ref (va 40)])), ((va 37), .inr (2, [.int (vz 36), .int (vz 40), .ref (va 41)])), ((va 38), .inl ((vk 16), 60, .inr (.inl (vG 6)))), ((va 39), .inl ((vk 17), 60, .inr (.inl (vG 7)))), ((va 40), .inl ((vk 18), 60, .inr (.inl (vG 8)))), ((va 41), .inl ((vk 19), 60, .inr (.inl (vG 9)))), ((va 7), .inr (4, [.ref (va 42), .ref (va 43), .ref (va 44)])), ((va 42), .inl ((vk 20), (va 45), .inl (vF 8))), ((va 43), .inl ((vk 21), (va 46), .inl (vF 9))), ((va 44), .inl ((vk 22), (va 47), .inl (vF 10))), ((va 8), .inr (5, [.ref (va 48)])), ((va 48), .inl ((vk 23), 181, .inr (.inl (vG 10)))), ((va 9), .inl ((vk 24), 16, .inl (vF 11)))] := hD2
  exact ⟨⟨r, (), ho, trivial, ⟨(up9 (up9 (up9 (up9 (up9 (up9 (up9 (up9 (up9 (up9 (up9 (up9 va 20 o5_9) 22 o7_9) 21 o9_9) 23 o11_9) 25 o18_9) 27 o20_9) 26 o22_9) 28 o24_9) 30 o31_9) 32 o33_9) 31 o35_9) 33 o37_9), (up9 (up9 (up9 (up9 (up9 (up9 (up9 (up9 (up9 (up9 (up9 (up9 (up9 (up9 (up9 vz 18 o0_9) 19 o1_9) 20 o2_9) 21 o3_9) 22 o4_9) 23 o13_9) 24 o14_9) 25 o15_9) 26 o16_9) 27 o17_9) 28 o26_9) 29 o27_9) 30 o28_9) 31 o29_9) 32 o30_9), (up9 (up9 (up9 (up9 (up9 (up9 vk 9 o6_9) 10 o10_9) 11 o19_9) 12 o23_9) 13 o32_9) 14 o36_9), (up9 (up9 (up9 (up9 vF 5 o12_9) 6 o25_9) 7 o38_9) 4 o39_9), (up9 (up9 (up9 vG 3 o8_9) 4 o21_9) 5 o34_9), b_ts, b_sn, b_sb, b_si, b_sw, b_ss, b_xf, b_xp, b_xt, b_xa, b_xo, b_ln, b_bs, b_tk, b_lw, (show (0 : Int) ≤ o0_9.toInt ∧ o0_9.toInt ≤ 12 from b_o0_9), (show (0 : Int) ≤ o1_9.toInt ∧ o1_9.toInt ≤ 16 from b_o1_9), (show (0 : Int) ≤ o2_9.toInt ∧ o2_9.toInt ≤ 20000 from b_o2_9), (show (0 : Int) ≤ o3_9.toInt ∧ o3_9.toInt ≤ 9 from b_o3_9), (show (0 : Int) ≤ o13_9.toInt ∧ o13_9.toInt ≤ 12 from b_o13_9), (show (0 : Int) ≤ o14_9.toInt ∧ o14_9.toInt ≤ 16 from b_o14_9), (show (0 : Int) ≤ o15_9.toInt ∧ o15_9.toInt ≤ 20000 from b_o15_9), (show (0 : Int) ≤ o16_9.toInt ∧ o16_9.toInt ≤ 9 from b_o16_9), (show (0 : Int) ≤ o26_9.toInt ∧ o26_9.toInt ≤ 12 from b_o26_9), (show (0 : Int) ≤ o27_9.toInt ∧ o27_9.toInt ≤ 16 from b_o27_9), (show (0 : Int) ≤ o28_9.toInt ∧ o28_9.toInt ≤ 20000 from b_o28_9), (show (0 : Int) ≤ o29_9.toInt ∧ o29_9.toInt ≤ 9 from b_o29_9), b_wd0, b_wd1, b_wd2, b_wd3, b_rz0, b_rz1, b_rz2, b_rz3, hrd, hnl, hnm, hge, hrk, (show o11_9 = o7_9 from by first | with_reducible assumption | omega), (show o7_9 ≤ 20000 from by first | with_reducible assumption | omega), (show o2_9.toInt ≤ (o7_9 : Int) from by first | with_reducible assumption | omega), (show RK o0_9 o1_9 o2_9 from by first | with_reducible assumption | omega), (show o24_9 = o20_9 from by first | with_reducible assumption | omega), (show o20_9 ≤ 20000 from by first | with_reducible assumption | omega), (show o15_9.toInt ≤ (o20_9 : Int) from by first | with_reducible assumption | omega), (show RK o13_9 o14_9 o15_9 from by first | with_reducible assumption | omega), (show o37_9 = o33_9 from by first | with_reducible assumption | omega), (show o33_9 ≤ 20000 from by first | with_reducible assumption | omega), (show o28_9.toInt ≤ (o33_9 : Int) from by first | with_reducible assumption | omega), (show RK o26_9 o27_9 o28_9 from by first | with_reducible assumption | omega), hnr, hq1, hq3, hg9_0, hg9_1, hg9_2, hg9_3, ha_en, (show tot t.heap + (2 * pot (va 17) + 2 * pot o7_9 + 2 * pot o20_9 + 2 * pot o33_9 + (2 * pot (va 45) + potg (va 47))) ≤ cc from by omega), hP3, hK3, hD3⟩, hN.warm hW, hX.mv (fun a h1 h2 => hF.2 a h1 (fun z => h2 (hAn a (hFc a h1 z)))) hW.alike (fun _ _ _ _ q => vk_R.warm hW q), Nat.le_trans hn0 hF.1, fun q h => hA q (Nat.le_trans hF.1 h)⟩, hF.1, fun q h1 h2 => hF.2 q h1 (fun z => h2 (hFc q h1 z))⟩
set_option maxHeartbeats 4000000 in
set_option maxRecDepth 100000 in
theorem wX9_back (l : Launch) (dC : Nat → ClassId) (dI : Nat → Nat → Nat) (gh : Nat → Int32) (AX : Nat → Prop) (cc nB h0 : Nat) (a1 : Int32) (hAn : ∀ q, AX q → nB ≤ q) : Met l yX9_back uX9_back ({ frames := 2, cells := 2, slots := 40000, locals := 85 }) (va_Pc [.ref h0, .int a1] (PX dC dI gh AX cc nB h0)) (va_Qi (fun (r : Int32) (_ : Unit) => True) (fun (_ : Unit) t => PX dC dI gh AX cc nB h0 t) AX) 2 40000 AX := by
  refine Met.via (fun a U hv => ?_)
  obtain ⟨rfl, hV⟩ := hv
  refine XI.elim hV.1 (fun va vz vk vF vG b_ts b_sn b_sb b_si b_sw b_ss b_xf b_xp b_xt b_xa b_xo b_ln b_bs b_tk b_lw b_ln_0 b_bs_0 b_tk_0 b_lw_0 b_ln_1 b_bs_1 b_tk_1 b_lw_1 b_ln_2 b_bs_2 b_tk_2 b_lw_2 b_wd0 b_wd1 b_wd2 b_wd3 b_rz0 b_rz1 b_rz2 b_rz3 hrd hnl hnm hge hrk hnl0 hnm0 hge0 hrk0 hnl1 hnm1 hge1 hrk1 hnl2 hnm2 hge2 hrk2 hnr hq1 hq3 hg9_0 hg9_1 hg9_2 hg9_3 ha_en htot hP hK hD => ?_)
  have hN := hV.2.1
  have hX := hV.2.2.1
  have hn0 := hV.2.2.2.1
  have hA := hV.2.2.2.2
  have hFc : ∀ q : Nat, q < U.heap.size → va_A [(h0, .inr (7, [.ref (va 0), .ref (va 1), .ref (va 2), .ref (va 3), .ref (va 4), .ref (va 5), .ref (va 6), .ref (va 7), .ref (va 8), .ref (va 9)])), ((va 3), .inr (1, [.int (vz 13), .int (vz 14), .int (vz 15), .int (vz 16), .int (vz 17), .ref (va 15), .ref (va 16)])), ((va 15), .inl ((vk 5), (va 17), .inr (.inl (vG 2)))), ((va 16), .inl ((vk 6), (va 18), .inl (vF 3))), ((va 4), .inl ((vk 7), 3, .inr (.inr (.inr (.inr (sf3 (va 19) (va 24) (va 29))))))), ((va 19), .inr (1, [.int (vz 18), .int (vz 19), .int (vz 20), .int (vz 21), .int (vz 22), .ref (va 20), .ref (va 21)])), ((va 20), .inl ((vk 9), (va 22), .inr (.inl (vG 3)))), ((va 21), .inl ((vk 10), (va 23), .inl (vF 5))), ((va 24), .inr (1, [.int (vz 23), .int (vz 24), .int (vz 25), .int (vz 26), .int (vz 27), .ref (va 25), .ref (va 26)])), ((va 25), .inl ((vk 11), (va 27), .inr (.inl (vG 4)))), ((va 26), .inl ((vk 12), (va 28), .inl (vF 6))), ((va 29), .inr (1, [.int (vz 28), .int (vz 29), .int (vz 30), .int (vz 31), .int (vz 32), .ref (va 30), .ref (va 31)])), ((va 30), .inl ((vk 13), (va 32), .inr (.inl (vG 5)))), ((va 31), .inl ((vk 14), (va 33), .inl (vF 7))), ((va 5), .inl ((vk 8), 3, .inl (vF 4)))] U.heap.size q → AX q := fun q h1 h2 => va_Ain (hD.sub (ws' := [(h0, .inr (7, [.ref (va 0), .ref (va 1), .ref (va 2), .ref (va 3), .ref (va 4), .ref (va 5), .ref (va 6), .ref (va 7), .ref (va 8), .ref (va 9)])), ((va 3), .inr (1, [.int (vz 13), .int (vz 14), .int (vz 15), .int (vz 16), .int (vz 17), .ref (va 15), .ref (va 16)])), ((va 15), .inl ((vk 5), (va 17), .inr (.inl (vG 2)))), ((va 16), .inl ((vk 6), (va 18), .inl (vF 3))), ((va 4), .inl ((vk 7), 3, .inr (.inr (.inr (.inr (sf3 (va 19) (va 24) (va 29))))))), ((va 19), .inr (1, [.int (vz 18), .int (vz 19), .int (vz 20), .int (vz 21), .int (vz 22), .ref (va 20), .ref (va 21)])), ((va 20), .inl ((vk 9), (va 22), .inr (.inl (vG 3)))), ((va 21), .inl ((vk 10), (va 23), .inl (vF 5))), ((va 24), .inr (1, [.int (vz 23), .int (vz 24), .int (vz 25), .int (vz 26), .int (vz 27), .ref (va 25), .ref (va 26)])), ((va 25), .inl ((vk 11), (va 27), .inr (.inl (vG 4)))), ((va 26), .inl ((vk 12), (va 28), .inl (vF 6))), ((va 29), .inr (1, [.int (vz 28), .int (vz 29), .int (vz 30), .int (vz 31), .int (vz 32), .ref (va 30), .ref (va 31)])), ((va 30), .inl ((vk 13), (va 32), .inr (.inl (vG 5)))), ((va 31), .inl ((vk 14), (va 33), .inl (vF 7))), ((va 5), .inl ((vk 8), 3, .inl (vF 4)))]) [0, 9, 10, 11, 12, 13, 14, 15, 16, 17, 18, 19, 20, 21, 22] (by decide) rfl) h1 h2
  refine ⟨_, _, _, kX9_back l dC dI h0 (va 0) (va 1) (va 2) (va 3) (va 4) (va 5) (va 6) (va 7) (va 8) (va 9) (vz 13) (vz 14) (vz 15) (vz 16) (vz 17) (va 15) (va 16) (vk 5) (va 17) (vG 2) (vk 6) (va 18) (vF 3) (vk 7) (vk 8) (vF 4) (va 19) (vz 18) (vz 19) (vz 20) (vz 21) (vz 22) (va 20) (va 21) (vk 9) (va 22) (vG 3) (vk 10) (va 23) (vF 5) (va 24) (vz 23) (vz 24) (vz 25) (vz 26) (vz 27) (va 25) (va 26) (vk 11) (va 27) (vG 4) (vk 12) (va 28) (vF 6) (va 29) (vz 28) (vz 29) (vz 30) (vz 31) (vz 32) (va 30) (va 31) (vk 13) (va 32) (vG 5) (vk 14) (va 33) (vF 7) a1 (cc - (2 * pot (va 22) + 2 * pot (va 27) + 2 * pot (va 32) + (2 * pot (va 45) + potg (va 47)))) U.heap.size b_ln b_bs b_tk b_lw b_ln_0 b_bs_0 b_tk_0 b_lw_0 b_ln_1 b_bs_1 b_tk_1 b_lw_1 b_ln_2 b_bs_2 b_tk_2 b_lw_2 (by first | with_reducible assumption | omega) (by first | with_reducible assumption | omega) (by first | with_reducible assumption | omega) (by first | with_reducible assumption | omega) (by first | with_reducible assumption | omega) (by first | with_reducible assumption | omega) (by first | with_reducible assumption | omega) (by first | with_reducible assumption | omega) (by first | with_reducible assumption | omega) (by first | with_reducible assumption | omega) (by first | with_reducible assumption | omega) (by first | with_reducible assumption | omega) (by first | with_reducible assumption | omega) (by first | with_reducible assumption | omega) (by first | with_reducible assumption | omega) (by first | with_reducible assumption | omega), ⟨rfl, ⟨⟨rfl, hP.sub [0, 9, 10, 11, 12, 13, 14, 15, 16, 17, 18, 19, 20, 21, 22] rfl, hK.sub [5, 6, 7, 8, 9, 10, 11, 12, 13, 14] rfl, (hD.sub [0, 9, 10, 11, 12, 13, 14, 15, 16, 17, 18, 19, 20, 21, 22] (by decide) rfl).weaken (fun _ _ _ _ => trivial), hN⟩, by omega⟩⟩, fun o t hq hW hts => ?_, fun q h1 h2 => hFc q h1 h2⟩
  have hF := hq.2
  have h9_0 := hq.1
  clear hq
  refine Exists.elim h9_0 (fun r h9_1 => ?_)
  clear h9_0
  refine Exists.elim h9_1 (fun u h9_2 => ?_)
  clear h9_1
  refine and_el h9_2 (fun ho h9_3 => ?_)
  clear h9_2
  refine and_el h9_3 (fun hp h9_4 => ?_)
  clear h9_3
  refine Exists.elim h9_4 (fun o0_9 h9_5 => ?_)
  clear h9_4
  refine Exists.elim h9_5 (fun o1_9 h9_6 => ?_)
  clear h9_5
  refine Exists.elim h9_6 (fun o2_9 h9_7 => ?_)
  clear h9_6
  refine Exists.elim h9_7 (fun o3_9 h9_8 => ?_)
  clear h9_7
  refine Exists.elim h9_8 (fun o4_9 h9_9 => ?_)
  clear h9_8
  refine Exists.elim h9_9 (fun o5_9 h9_10 => ?_)
  clear h9_9
  refine Exists.elim h9_10 (fun o6_9 h9_11 => ?_)
  clear h9_10
  refine Exists.elim h9_11 (fun o7_9 h9_12 => ?_)
  clear h9_11
  refine Exists.elim h9_12 (fun o8_9 h9_13 => ?_)
  clear h9_12
  refine Exists.elim h9_13 (fun o9_9 h9_14 => ?_)
  clear h9_13
  refine Exists.elim h9_14 (fun o10_9 h9_15 => ?_)
  clear h9_14
  refine Exists.elim h9_15 (fun o11_9 h9_16 => ?_)
  clear h9_15
  refine Exists.elim h9_16 (fun o12_9 h9_17 => ?_)
  clear h9_16
  refine and_el h9_17 (fun b_o0_9 h9_18 => ?_)
  clear h9_17
  refine and_el h9_18 (fun b_o1_9 h9_19 => ?_)
  clear h9_18
  refine and_el h9_19 (fun b_o2_9 h9_20 => ?_)
  clear h9_19
  refine and_el h9_20 (fun b_o3_9 h9_21 => ?_)
  clear h9_20
  refine and_el h9_21 (fun hf4 h9_22 => ?_)
  clear h9_21
  refine and_el h9_22 (fun hf5 h9_23 => ?_)
  clear h9_22
  refine and_el h9_23 (fun hf6 h9_24 => ?_)
  clear h9_23
  refine and_el h9_24 (fun hf7 h9_25 => ?_)
  clear h9_24
  refine and_el h9_25 (fun htt h9_26 => ?_)
  clear h9_25
  refine and_el h9_26 (fun hP1 h9_27 => ?_)
  clear h9_26
  refine and_el h9_27 (fun hK1 h9_28 => ?_)
  clear h9_27
  have hD1 := h9_28
  clear h9_28
  have hC9 : [0, 9, 10, 11, 12, 13, 14, 15, 16, 17, 18, 19, 20, 21, 22].map (fun i => ([(h0, .inr (7, [.ref (va 0), .ref (va 1), .ref (va 2), .ref (va 3), .ref (va 4), .ref (va 5), .ref (va 6), .ref (va 7), .ref (va 8), .ref (va 9)])), ((va 0), .inr (6, [.ref (va 10), .int (vz 0)])), ((va 10), .inl ((vk 0), 1200, .inl (vF 0))), ((va 1), .inr (3, [.int (vz 1), .int (vz 2), .int (vz 3), .int (vz 4), .int (vz 5), .ref (va 11), .ref (va 12), .ref (va 13), .ref (va 14)])), ((va 11), .inl ((vk 1), 9, .inl (vF 1))), ((va 12), .inl ((vk 2), 600, .inl (vF 2))), ((va 13), .inl ((vk 3), 600, .inr (.inl (vG 0)))), ((va 14), .inl ((vk 4), 600, .inr (.inl (vG 1)))), ((va 2), .inr (0, [.ref (va 0), .ref (va 1), .int (vz 6), .int (vz 7), .int (vz 8), .int (vz 9), .int (vz 10), .int (vz 11), .int (vz 12)])), ((va 3), .inr (1, [.int (vz 13), .int (vz 14), .int (vz 15), .int (vz 16), .int (vz 17), .ref (va 15), .ref (va 16)])), ((va 15), .inl ((vk 5), (va 17), .inr (.inl (vG 2)))), ((va 16), .inl ((vk 6), (va 18), .inl (vF 3))), ((va 4), .inl ((vk 7), 3, .inr (.inr (.inr (.inr (sf3 (va 19) (va 24) (va 29))))))), ((va 19), .inr (1, [.int (vz 18), .int (vz 19), .int (vz 20), .int (vz 21), .int (vz 22), .ref (va 20), .ref (va 21)])), ((va 20), .inl ((vk 9), (va 22), .inr (.inl (vG 3)))), ((va 21), .inl ((vk 10), (va 23), .inl (vF 5))), ((va 24), .inr (1, [.int (vz 23), .int (vz 24), .int (vz 25), .int (vz 26), .int (vz 27), .ref (va 25), .ref (va 26)])), ((va 25), .inl ((vk 11), (va 27), .inr (.inl (vG 4)))), ((va 26), .inl ((vk 12), (va 28), .inl (vF 6))), ((va 29), .inr (1, [.int (vz 28), .int (vz 29), .int (vz 30), .int (vz 31), .int (vz 32), .ref (va 30), .ref (va 31)])), ((va 30), .inl ((vk 13), (va 32), .inr (.inl (vG 5)))), ((va 31), .inl ((vk 14), (va 33), .inl (vF 7))), ((va 5), .inl ((vk 8), 3, .inl (vF 4))), ((va 6), .inl ((vk 15), 4, .inr (.inr (.inr (.inr (sf4 (va 34) (va 35) (va 36) (va 37))))))), ((va 34), .inr (2, [.int (vz 33), .int (vz 37), .ref (va 38)])), ((va 35), .inr (2, [.int (vz 34), .int (vz 38), .ref (va 39)])), ((va 36), .inr (2, [.int (vz 35), .int (vz 39), .ref (va 40)])), ((va 37), .inr (2, [.int (vz 36), .int (vz 40), .ref (va 41)])), ((va 38), .inl ((vk 16), 60, .inr (.inl (vG 6)))), ((va 39), .inl ((vk 17), 60, .inr (.inl (vG 7)))), ((va 40), .inl ((vk 18), 60, .inr (.inl (vG 8)))), ((va 41), .inl ((vk 19), 60, .inr (.inl (vG 9)))), ((va 7), .inr (4, [.ref (va 42), .ref (va 43), .ref (va 44)])), ((va 42), .inl ((vk 20), (va 45), .inl (vF 8))), ((va 43), .inl ((vk 21), (va 46), .inl (vF 9))), ((va 44), .inl ((vk 22), (va 47), .inl (vF 10))), ((va 8), .inr (5, [.ref (va 48)])), ((va 48), .inl ((vk 23), 181, .inr (.inl (vG 10)))), ((va 9), .inl ((vk 24), 16, .inl (vF 11)))] : va_W)[i]?) = ([(h0, .inr (7, [.ref (va 0), .ref (va 1), .ref (va 2), .ref (va 3), .ref (va 4), .ref (va 5), .ref (va 6), .ref (va 7), .ref (va 8), .ref (va 9)])), ((va 3), .inr (1, [.int (vz 13), .int (vz 14), .int (vz 15), .int (vz 16), .int (vz 17), .ref (va 15), .ref (va 16)])), ((va 15), .inl ((vk 5), (va 17), .inr (.inl (vG 2)))), ((va 16), .inl ((vk 6), (va 18), .inl (vF 3))), ((va 4), .inl ((vk 7), 3, .inr (.inr (.inr (.inr (sf3 (va 19) (va 24) (va 29))))))), ((va 19), .inr (1, [.int (vz 18), .int (vz 19), .int (vz 20), .int (vz 21), .int (vz 22), .ref (va 20), .ref (va 21)])), ((va 20), .inl ((vk 9), (va 22), .inr (.inl (vG 3)))), ((va 21), .inl ((vk 10), (va 23), .inl (vF 5))), ((va 24), .inr (1, [.int (vz 23), .int (vz 24), .int (vz 25), .int (vz 26), .int (vz 27), .ref (va 25), .ref (va 26)])), ((va 25), .inl ((vk 11), (va 27), .inr (.inl (vG 4)))), ((va 26), .inl ((vk 12), (va 28), .inl (vF 6))), ((va 29), .inr (1, [.int (vz 28), .int (vz 29), .int (vz 30), .int (vz 31), .int (vz 32), .ref (va 30), .ref (va 31)])), ((va 30), .inl ((vk 13), (va 32), .inr (.inl (vG 5)))), ((va 31), .inl ((vk 14), (va 33), .inl (vF 7))), ((va 5), .inl ((vk 8), 3, .inl (vF 4)))] : va_W).map some := rfl
  have hP2 := va_put9 [0, 9, 10, 11, 12, 13, 14, 15, 16, 17, 18, 19, 20, 21, 22] hP hD hC9 hF.2 hP1 (by exact Nat.le_of_ble_eq_true rfl)
  have hP3 : va_P (dC, dI) vwCl [(h0, .inr (7, [.ref (va 0), .ref (va 1), .ref (va 2), .ref (va 3), .ref (va 4), .ref (va 5), .ref (va 6), .ref (va 7), .ref (va 8), .ref (va 9)])), ((va 0), .inr (6, [.ref (va 10), .int (vz 0)])), ((va 10), .inl ((vk 0), 1200, .inl (vF 0))), ((va 1), .inr (3, [.int (vz 1), .int (vz 2), .int (vz 3), .int (vz 4), .int (vz 5), .ref (va 11), .ref (va 12), .ref (va 13), .ref (va 14)])), ((va 11), .inl ((vk 1), 9, .inl (vF 1))), ((va 12), .inl ((vk 2), 600, .inl (vF 2))), ((va 13), .inl ((vk 3), 600, .inr (.inl (vG 0)))), ((va 14), .inl ((vk 4), 600, .inr (.inl (vG 1)))), ((va 2), .inr (0, [.ref (va 0), .ref (va 1), .int (vz 6), .int (vz 7), .int (vz 8), .int (vz 9), .int (vz 10), .int (vz 11), .int (vz 12)])), ((va 3), .inr (1, [.int o0_9, .int o1_9, .int o2_9, .int o3_9, .int o4_9, .ref o5_9, .ref o9_9])), (o5_9, .inl (o6_9, o7_9, .inr (.inl o8_9))), (o9_9, .inl (o10_9, o11_9, .inl o12_9)), ((va 4), .inl ((vk 7), 3, .inr (.inr (.inr (.inr (sf3 (va 19) (va 24) (va 29))))))), ((va 19), .inr (1, [.int (vz 18), .int (vz 19), .int (vz 20), .int (vz 21), .int (vz 22), .ref (va 20), .ref (va 21)])), ((va 20), .inl ((vk 9), (va 22), .inr (.inl (vG 3)))), ((va 21), .inl ((vk 10), (va 23), .inl (vF 5))), ((va 24), .inr (1, [.int (vz 23), .int (vz 24), .int (vz 25), .int (vz 26), .int (vz 27), .ref (va 25), .ref (va 26)])), ((va 25), .inl ((vk 11), (va 27), .inr (.inl (vG 4)))), ((va 26), .inl ((vk 12), (va 28), .inl (vF 6))), ((va 29), .inr (1, [.int (vz 28), .int (vz 29), .int (vz 30), .int (vz 31), .int (vz 32), .ref (va 30), .ref (va 31)])), ((va 30), .inl ((vk 13), (va 32), .inr (.inl (vG 5)))), ((va 31), .inl ((vk 14), (va 33), .inl (vF 7))), ((va 5), .inl ((vk 8), 3, .inl (vF 4))), ((va 6), .inl ((vk 15), 4, .inr (.inr (.inr (.inr (sf4 (va 34) (va 35) (va 36) (va 37))))))), ((va 34), .inr (2, [.int (vz 33), .int (vz 37), .ref (va 38)])), ((va 35), .inr (2, [.int (vz 34), .int (vz 38), .ref (va 39)])), ((va 36), .inr (2, [.int (vz 35), .int (vz 39), .ref (va 40)])), ((va 37), .inr (2, [.int (vz 36), .int (vz 40), .ref (va 41)])), ((va 38), .inl ((vk 16), 60, .inr (.inl (vG 6)))), ((va 39), .inl ((vk 17), 60, .inr (.inl (vG 7)))), ((va 40), .inl ((vk 18), 60, .inr (.inl (vG 8)))), ((va 41), .inl ((vk 19), 60, .inr (.inl (vG 9)))), ((va 7), .inr (4, [.ref (va 42), .ref (va 43), .ref (va 44)])), ((va 42), .inl ((vk 20), (va 45), .inl (vF 8))), ((va 43), .inl ((vk 21), (va 46), .inl (vF 9))), ((va 44), .inl ((vk 22), (va 47), .inl (vF 10))), ((va 8), .inr (5, [.ref (va 48)])), ((va 48), .inl ((vk 23), 181, .inr (.inl (vG 10)))), ((va 9), .inl ((vk 24), 16, .inl (vF 11)))] t.heap := hP2
  have hK2 := va_Kput [5, 6, 7, 8, 9, 10, 11, 12, 13, 14] (va_K.moved hW.alike hK) hK1
  have hK3 : va_K (dC, dI) vwCl [((vk 0), .byte), ((vk 1), .int), ((vk 2), .int), ((vk 3), .long), ((vk 4), .long), (o6_9, .long), (o10_9, .int), ((vk 7), .object RX2), ((vk 9), .long), ((vk 10), .int), ((vk 11), .long), ((vk 12), .int), ((vk 13), .long), ((vk 14), .int), ((vk 8), .boolean), ((vk 15), .object RX3), ((vk 16), .long), ((vk 17), .long), ((vk 18), .long), ((vk 19), .long), ((vk 20), .int), ((vk 21), .int), ((vk 22), .byte), ((vk 23), .long), ((vk 24), .int)] t := hK2
  have hD2 := va_Dput (A' := AX) [0, 9, 10, 11, 12, 13, 14, 15, 16, 17, 18, 19, 20, 21, 22] hP hD hC9 hD1 (by exact Nat.le_of_ble_eq_true rfl) (fun q h => h) (fun q h => (Nat.lt_or_ge q U.heap.size).elim (fun h1 => hFc q h1 h) (fun h1 => hA q h1))
  have hD3 : va_D AX [(h0, .inr (7, [.ref (va 0), .ref (va 1), .ref (va 2), .ref (va 3), .ref (va 4), .ref (va 5), .ref (va 6), .ref (va 7), .ref (va 8), .ref (va 9)])), ((va 0), .inr (6, [.ref (va 10), .int (vz 0)])), ((va 10), .inl ((vk 0), 1200, .inl (vF 0))), ((va 1), .inr (3, [.int (vz 1), .int (vz 2), .int (vz 3), .int (vz 4), .int (vz 5), .ref (va 11), .ref (va 12), .ref (va 13), .ref (va 14)])), ((va 11), .inl ((vk 1), 9, .inl (vF 1))), ((va 12), .inl ((vk 2), 600, .inl (vF 2))), ((va 13), .inl ((vk 3), 600, .inr (.inl (vG 0)))), ((va 14), .inl ((vk 4), 600, .inr (.inl (vG 1)))), ((va 2), .inr (0, [.ref (va 0), .ref (va 1), .int (vz 6), .int (vz 7), .int (vz 8), .int (vz 9), .int (vz 10), .int (vz 11), .int (vz 12)])), ((va 3), .inr (1, [.int o0_9, .int o1_9, .int o2_9, .int o3_9, .int o4_9, .ref o5_9, .ref o9_9])), (o5_9, .inl (o6_9, o7_9, .inr (.inl o8_9))), (o9_9, .inl (o10_9, o11_9, .inl o12_9)), ((va 4), .inl ((vk 7), 3, .inr (.inr (.inr (.inr (sf3 (va 19) (va 24) (va 29))))))), ((va 19), .inr (1, [.int (vz 18), .int (vz 19), .int (vz 20), .int (vz 21), .int (vz 22), .ref (va 20), .ref (va 21)])), ((va 20), .inl ((vk 9), (va 22), .inr (.inl (vG 3)))), ((va 21), .inl ((vk 10), (va 23), .inl (vF 5))), ((va 24), .inr (1, [.int (vz 23), .int (vz 24), .int (vz 25), .int (vz 26), .int (vz 27), .ref (va 25), .ref (va 26)])), ((va 25), .inl ((vk 11), (va 27), .inr (.inl (vG 4)))), ((va 26), .inl ((vk 12), (va 28), .inl (vF 6))), ((va 29), .inr (1, [.int (vz 28), .int (vz 29), .int (vz 30), .int (vz 31), .int (vz 32), .ref (va 30), .ref (va 31)])), ((va 30), .inl ((vk 13), (va 32), .inr (.inl (vG 5)))), ((va 31), .inl ((vk 14), (va 33), .inl (vF 7))), ((va 5), .inl ((vk 8), 3, .inl (vF 4))), ((va 6), .inl ((vk 15), 4, .inr (.inr (.inr (.inr (sf4 (va 34) (va 35) (va 36) (va 37))))))), ((va 34), .inr (2, [.int (vz 33), .int (vz 37), .ref (va 38)])), ((va 35), .inr (2, [.int (vz 34), .int (vz 38), .ref (va 39)])), ((va 36), .inr (2, [.int (vz 35), .int (vz 39), .ref (va 40)])), ((va 37), .inr (2, [.int (vz 36), .int (vz 40), .ref (va 41)])), ((va 38), .inl ((vk 16), 60, .inr (.inl (vG 6)))), ((va 39), .inl ((vk 17), 60, .inr (.inl (vG 7)))), ((va 40), .inl ((vk 18), 60, .inr (.inl (vG 8)))), ((va 41), .inl ((vk 19), 60, .inr (.inl (vG 9)))), ((va 7), .inr (4, [.ref (va 42), .ref (va 43), .ref (va 44)])), ((va 42), .inl ((vk 20), (va 45), .inl (vF 8))), ((va 43), .inl ((vk 21), (va 46), .inl (vF 9))), ((va 44), .inl ((vk 22), (va 47), .inl (vF 10))), ((va 8), .inr (5, [.ref (va 48)])), ((va 48), .inl ((vk 23), 181, .inr (.inl (vG 10)))), ((va 9), .inl ((vk 24), 16, .inl (vF 11)))] := hD2
  exact ⟨⟨r, (), ho, trivial, ⟨(up9 (up9 (up9 (up9 va 15 o5_9) 17 o7_9) 16 o9_9) 18 o11_9), (up9 (up9 (up9 (up9 (up9 vz 13 o0_9) 14 o1_9) 15 o2_9) 16 o3_9) 17 o4_9), (up9 (up9 vk 5 o6_9) 6 o10_9), (up9 vF 3 o12_9), (up9 vG 2 o8_9), b_ts, b_sn, b_sb, b_si, b_sw, b_ss, b_xf, b_xp, b_xt, b_xa, b_xo, (show (0 : Int) ≤ o0_9.toInt ∧ o0_9.toInt ≤ 12 from b_o0_9), (show (0 : Int) ≤ o1_9.toInt ∧ o1_9.toInt ≤ 16 from b_o1_9), (show (0 : Int) ≤ o2_9.toInt ∧ o2_9.toInt ≤ 20000 from b_o2_9), (show (0 : Int) ≤ o3_9.toInt ∧ o3_9.toInt ≤ 9 from b_o3_9), b_ln_0, b_bs_0, b_tk_0, b_lw_0, b_ln_1, b_bs_1, b_tk_1, b_lw_1, b_ln_2, b_bs_2, b_tk_2, b_lw_2, b_wd0, b_wd1, b_wd2, b_wd3, b_rz0, b_rz1, b_rz2, b_rz3, hrd, (show o11_9 = o7_9 from by first | with_reducible assumption | omega), (show o7_9 ≤ 20000 from by first | with_reducible assumption | omega), (show o2_9.toInt ≤ (o7_9 : Int) from by first | with_reducible assumption | omega), (show RK o0_9 o1_9 o2_9 from by first | with_reducible assumption | omega), hnl0, hnm0, hge0, hrk0, hnl1, hnm1, hge1, hrk1, hnl2, hnm2, hge2, hrk2, hnr, hq1, hq3, hg9_0, hg9_1, hg9_2, hg9_3, ha_en, (show tot t.heap + (2 * pot o7_9 + 2 * pot (va 22) + 2 * pot (va 27) + 2 * pot (va 32) + (2 * pot (va 45) + potg (va 47))) ≤ cc from by omega), hP3, hK3, hD3⟩, hN.warm hW, hX.mv (fun a h1 h2 => hF.2 a h1 (fun z => h2 (hAn a (hFc a h1 z)))) hW.alike (fun _ _ _ _ q => vk_R.warm hW q), Nat.le_trans hn0 hF.1, fun q h => hA q (Nat.le_trans hF.1 h)⟩, hF.1, fun q h1 h2 => hF.2 q h1 (fun z => h2 (hFc q h1 z))⟩
set_option maxHeartbeats 4000000 in
set_option maxRecDepth 100000 in
theorem wX9_row (l : Launch) (dC : Nat → ClassId) (dI : Nat → Nat → Nat) (gh : Nat → Int32) (AX : Nat → Prop) (cc nB h0 : Nat) (a1 : Int32) (a2 : Int32) (a3 : Int32) (hAn : ∀ q, AX q → nB ≤ q) : Met l yX9_row uX9_rowG ({ frames := 2, cells := 0, slots := 0, locals := 46 }) (va_Pc [.ref h0, .int a1, .int a2, .int a3] (PX dC dI gh AX cc nB h0)) (va_Qi (fun (r : Int32) (_ : Unit) => True) (fun (_ : Unit) t => PX dC dI (rwG gh a1 a2 a3) AX cc nB h0 t) AX) 0 0 AX := by
  refine Met.via (fun a U hv => ?_)
  obtain ⟨rfl, hV⟩ := hv
  refine XI.elim hV.1 (fun va vz vk vF vG b_ts b_sn b_sb b_si b_sw b_ss b_xf b_xp b_xt b_xa b_xo b_ln b_bs b_tk b_lw b_ln_0 b_bs_0 b_tk_0 b_lw_0 b_ln_1 b_bs_1 b_tk_1 b_lw_1 b_ln_2 b_bs_2 b_tk_2 b_lw_2 b_wd0 b_wd1 b_wd2 b_wd3 b_rz0 b_rz1 b_rz2 b_rz3 hrd hnl hnm hge hrk hnl0 hnm0 hge0 hrk0 hnl1 hnm1 hge1 hrk1 hnl2 hnm2 hge2 hrk2 hnr hq1 hq3 hg9_0 hg9_1 hg9_2 hg9_3 ha_en htot hP hK hD => ?_)
  have hN := hV.2.1
  have hX := hV.2.2.1
  have hn0 := hV.2.2.2.1
  have hA := hV.2.2.2.2
  have hFc : ∀ q : Nat, q < U.heap.size → va_A [(h0, .inr (7, [.ref (va 0), .ref (va 1), .ref (va 2), .ref (va 3), .ref (va 4), .ref (va 5), .ref (va 6), .ref (va 7), .ref (va 8), .ref (va 9)])), ((va 6), .inl ((vk 15), 4, .inr (.inr (.inr (.inr (sf4 (va 34) (va 35) (va 36) (va 37))))))), ((va 34), .inr (2, [.int (vz 33), .int (vz 37), .ref (va 38)])), ((va 35), .inr (2, [.int (vz 34), .int (vz 38), .ref (va 39)])), ((va 36), .inr (2, [.int (vz 35), .int (vz 39), .ref (va 40)])), ((va 37), .inr (2, [.int (vz 36), .int (vz 40), .ref (va 41)])), ((va 38), .inl ((vk 16), 60, .inr (.inl (vG 6)))), ((va 39), .inl ((vk 17), 60, .inr (.inl (vG 7)))), ((va 40), .inl ((vk 18), 60, .inr (.inl (vG 8)))), ((va 41), .inl ((vk 19), 60, .inr (.inl (vG 9))))] U.heap.size q → AX q := fun q h1 h2 => va_Ain (hD.sub (ws' := [(h0, .inr (7, [.ref (va 0), .ref (va 1), .ref (va 2), .ref (va 3), .ref (va 4), .ref (va 5), .ref (va 6), .ref (va 7), .ref (va 8), .ref (va 9)])), ((va 6), .inl ((vk 15), 4, .inr (.inr (.inr (.inr (sf4 (va 34) (va 35) (va 36) (va 37))))))), ((va 34), .inr (2, [.int (vz 33), .int (vz 37), .ref (va 38)])), ((va 35), .inr (2, [.int (vz 34), .int (vz 38), .ref (va 39)])), ((va 36), .inr (2, [.int (vz 35), .int (vz 39), .ref (va 40)])), ((va 37), .inr (2, [.int (vz 36), .int (vz 40), .ref (va 41)])), ((va 38), .inl ((vk 16), 60, .inr (.inl (vG 6)))), ((va 39), .inl ((vk 17), 60, .inr (.inl (vG 7)))), ((va 40), .inl ((vk 18), 60, .inr (.inl (vG 8)))), ((va 41), .inl ((vk 19), 60, .inr (.inl (vG 9))))]) [0, 23, 24, 25, 26, 27, 28, 29, 30, 31] (by decide) rfl) h1 h2
  refine ⟨_, _, _, kX9_rowG l dC dI h0 (va 0) (va 1) (va 2) (va 3) (va 4) (va 5) (va 6) (va 7) (va 8) (va 9) (vk 15) (va 34) (va 35) (va 36) (va 37) (va 38) (va 39) (va 40) (va 41) (vz 33) (vz 34) (vz 35) (vz 36) (vz 37) (vz 38) (vz 39) (vz 40) (vk 16) (vk 17) (vk 18) (vk 19) (vG 6) (vG 7) (vG 8) (vG 9) gh a1 a2 a3 U.heap.size b_wd0 b_wd1 b_wd2 b_wd3 b_rz0 b_rz1 b_rz2 b_rz3 (by first | with_reducible assumption | omega) (by first | with_reducible assumption | omega) (by first | with_reducible assumption | omega) (by first | with_reducible assumption | omega), ⟨rfl, ⟨rfl, hP.sub [0, 23, 24, 25, 26, 27, 28, 29, 30, 31] rfl, hK.sub [15, 16, 17, 18, 19] rfl, (hD.sub [0, 23, 24, 25, 26, 27, 28, 29, 30, 31] (by decide) rfl).weaken (fun _ _ _ _ => trivial), hN⟩⟩, fun o t hq hW hts => ?_, fun q h1 h2 => hFc q h1 h2⟩
  have hF := hq.2
  have h9_0 := hq.1
  clear hq
  refine Exists.elim h9_0 (fun r h9_1 => ?_)
  clear h9_0
  refine Exists.elim h9_1 (fun u h9_2 => ?_)
  clear h9_1
  refine and_el h9_2 (fun ho h9_3 => ?_)
  clear h9_2
  refine and_el h9_3 (fun hp h9_4 => ?_)
  clear h9_3
  refine Exists.elim h9_4 (fun o0_9 h9_5 => ?_)
  clear h9_4
  refine Exists.elim h9_5 (fun o1_9 h9_6 => ?_)
  clear h9_5
  refine Exists.elim h9_6 (fun o2_9 h9_7 => ?_)
  clear h9_6
  refine Exists.elim h9_7 (fun o3_9 h9_8 => ?_)
  clear h9_7
  refine Exists.elim h9_8 (fun o4_9 h9_9 => ?_)
  clear h9_8
  refine Exists.elim h9_9 (fun o5_9 h9_10 => ?_)
  clear h9_9
  refine Exists.elim h9_10 (fun o6_9 h9_11 => ?_)
  clear h9_10
  refine Exists.elim h9_11 (fun o7_9 h9_12 => ?_)
  clear h9_11
  refine Exists.elim h9_12 (fun o8_9 h9_13 => ?_)
  clear h9_12
  refine Exists.elim h9_13 (fun o9_9 h9_14 => ?_)
  clear h9_13
  refine Exists.elim h9_14 (fun o10_9 h9_15 => ?_)
  clear h9_14
  refine Exists.elim h9_15 (fun o11_9 h9_16 => ?_)
  clear h9_15
  refine and_el h9_16 (fun b_o0_9 h9_17 => ?_)
  clear h9_16
  refine and_el h9_17 (fun b_o1_9 h9_18 => ?_)
  clear h9_17
  refine and_el h9_18 (fun b_o2_9 h9_19 => ?_)
  clear h9_18
  refine and_el h9_19 (fun b_o3_9 h9_20 => ?_)
  clear h9_19
  refine and_el h9_20 (fun b_o4_9 h9_21 => ?_)
  clear h9_20
  refine and_el h9_21 (fun b_o5_9 h9_22 => ?_)
  clear h9_21
  refine and_el h9_22 (fun b_o6_9 h9_23 => ?_)
  clear h9_22
  refine and_el h9_23 (fun b_o7_9 h9_24 => ?_)
  clear h9_23
  refine and_el h9_24 (fun hf8 h9_25 => ?_)
  clear h9_24
  refine and_el h9_25 (fun hf9 h9_26 => ?_)
  clear h9_25
  refine and_el h9_26 (fun hf10 h9_27 => ?_)
  clear h9_26
  refine and_el h9_27 (fun hf11 h9_28 => ?_)
  clear h9_27
  refine and_el h9_28 (fun hP1 h9_29 => ?_)
  clear h9_28
  refine and_el h9_29 (fun hK1 h9_30 => ?_)
  clear h9_29
  have hD1 := h9_30
  clear h9_30
  have hP2 := va_put9 [0, 23, 24, 25, 26, 27, 28, 29, 30, 31] hP hD (by rfl) hF.2 hP1 (by exact Nat.le_of_ble_eq_true rfl)
  have hP3 : va_P (dC, dI) vwCl [(h0, .inr (7, [.ref (va 0), .ref (va 1), .ref (va 2), .ref (va 3), .ref (va 4), .ref (va 5), .ref (va 6), .ref (va 7), .ref (va 8), .ref (va 9)])), ((va 0), .inr (6, [.ref (va 10), .int (vz 0)])), ((va 10), .inl ((vk 0), 1200, .inl (vF 0))), ((va 1), .inr (3, [.int (vz 1), .int (vz 2), .int (vz 3), .int (vz 4), .int (vz 5), .ref (va 11), .ref (va 12), .ref (va 13), .ref (va 14)])), ((va 11), .inl ((vk 1), 9, .inl (vF 1))), ((va 12), .inl ((vk 2), 600, .inl (vF 2))), ((va 13), .inl ((vk 3), 600, .inr (.inl (vG 0)))), ((va 14), .inl ((vk 4), 600, .inr (.inl (vG 1)))), ((va 2), .inr (0, [.ref (va 0), .ref (va 1), .int (vz 6), .int (vz 7), .int (vz 8), .int (vz 9), .int (vz 10), .int (vz 11), .int (vz 12)])), ((va 3), .inr (1, [.int (vz 13), .int (vz 14), .int (vz 15), .int (vz 16), .int (vz 17), .ref (va 15), .ref (va 16)])), ((va 15), .inl ((vk 5), (va 17), .inr (.inl (vG 2)))), ((va 16), .inl ((vk 6), (va 18), .inl (vF 3))), ((va 4), .inl ((vk 7), 3, .inr (.inr (.inr (.inr (sf3 (va 19) (va 24) (va 29))))))), ((va 19), .inr (1, [.int (vz 18), .int (vz 19), .int (vz 20), .int (vz 21), .int (vz 22), .ref (va 20), .ref (va 21)])), ((va 20), .inl ((vk 9), (va 22), .inr (.inl (vG 3)))), ((va 21), .inl ((vk 10), (va 23), .inl (vF 5))), ((va 24), .inr (1, [.int (vz 23), .int (vz 24), .int (vz 25), .int (vz 26), .int (vz 27), .ref (va 25), .ref (va 26)])), ((va 25), .inl ((vk 11), (va 27), .inr (.inl (vG 4)))), ((va 26), .inl ((vk 12), (va 28), .inl (vF 6))), ((va 29), .inr (1, [.int (vz 28), .int (vz 29), .int (vz 30), .int (vz 31), .int (vz 32), .ref (va 30), .ref (va 31)])), ((va 30), .inl ((vk 13), (va 32), .inr (.inl (vG 5)))), ((va 31), .inl ((vk 14), (va 33), .inl (vF 7))), ((va 5), .inl ((vk 8), 3, .inl (vF 4))), ((va 6), .inl ((vk 15), 4, .inr (.inr (.inr (.inr (sf4 (va 34) (va 35) (va 36) (va 37))))))), ((va 34), .inr (2, [.int o0_9, .int o1_9, .ref (va 38)])), ((va 35), .inr (2, [.int o2_9, .int o3_9, .ref (va 39)])), ((va 36), .inr (2, [.int o4_9, .int o5_9, .ref (va 40)])), ((va 37), .inr (2, [.int o6_9, .int o7_9, .ref (va 41)])), ((va 38), .inl ((vk 16), 60, .inr (.inl o8_9))), ((va 39), .inl ((vk 17), 60, .inr (.inl o9_9))), ((va 40), .inl ((vk 18), 60, .inr (.inl o10_9))), ((va 41), .inl ((vk 19), 60, .inr (.inl o11_9))), ((va 7), .inr (4, [.ref (va 42), .ref (va 43), .ref (va 44)])), ((va 42), .inl ((vk 20), (va 45), .inl (vF 8))), ((va 43), .inl ((vk 21), (va 46), .inl (vF 9))), ((va 44), .inl ((vk 22), (va 47), .inl (vF 10))), ((va 8), .inr (5, [.ref (va 48)])), ((va 48), .inl ((vk 23), 181, .inr (.inl (vG 10)))), ((va 9), .inl ((vk 24), 16, .inl (vF 11)))] t.heap := hP2
  have hK3 := va_K.moved hW.alike hK
  have hD3 : va_D AX [(h0, .inr (7, [.ref (va 0), .ref (va 1), .ref (va 2), .ref (va 3), .ref (va 4), .ref (va 5), .ref (va 6), .ref (va 7), .ref (va 8), .ref (va 9)])), ((va 0), .inr (6, [.ref (va 10), .int (vz 0)])), ((va 10), .inl ((vk 0), 1200, .inl (vF 0))), ((va 1), .inr (3, [.int (vz 1), .int (vz 2), .int (vz 3), .int (vz 4), .int (vz 5), .ref (va 11), .ref (va 12), .ref (va 13), .ref (va 14)])), ((va 11), .inl ((vk 1), 9, .inl (vF 1))), ((va 12), .inl ((vk 2), 600, .inl (vF 2))), ((va 13), .inl ((vk 3), 600, .inr (.inl (vG 0)))), ((va 14), .inl ((vk 4), 600, .inr (.inl (vG 1)))), ((va 2), .inr (0, [.ref (va 0), .ref (va 1), .int (vz 6), .int (vz 7), .int (vz 8), .int (vz 9), .int (vz 10), .int (vz 11), .int (vz 12)])), ((va 3), .inr (1, [.int (vz 13), .int (vz 14), .int (vz 15), .int (vz 16), .int (vz 17), .ref (va 15), .ref (va 16)])), ((va 15), .inl ((vk 5), (va 17), .inr (.inl (vG 2)))), ((va 16), .inl ((vk 6), (va 18), .inl (vF 3))), ((va 4), .inl ((vk 7), 3, .inr (.inr (.inr (.inr (sf3 (va 19) (va 24) (va 29))))))), ((va 19), .inr (1, [.int (vz 18), .int (vz 19), .int (vz 20), .int (vz 21), .int (vz 22), .ref (va 20), .ref (va 21)])), ((va 20), .inl ((vk 9), (va 22), .inr (.inl (vG 3)))), ((va 21), .inl ((vk 10), (va 23), .inl (vF 5))), ((va 24), .inr (1, [.int (vz 23), .int (vz 24), .int (vz 25), .int (vz 26), .int (vz 27), .ref (va 25), .ref (va 26)])), ((va 25), .inl ((vk 11), (va 27), .inr (.inl (vG 4)))), ((va 26), .inl ((vk 12), (va 28), .inl (vF 6))), ((va 29), .inr (1, [.int (vz 28), .int (vz 29), .int (vz 30), .int (vz 31), .int (vz 32), .ref (va 30), .ref (va 31)])), ((va 30), .inl ((vk 13), (va 32), .inr (.inl (vG 5)))), ((va 31), .inl ((vk 14), (va 33), .inl (vF 7))), ((va 5), .inl ((vk 8), 3, .inl (vF 4))), ((va 6), .inl ((vk 15), 4, .inr (.inr (.inr (.inr (sf4 (va 34) (va 35) (va 36) (va 37))))))), ((va 34), .inr (2, [.int o0_9, .int o1_9, .ref (va 38)])), ((va 35), .inr (2, [.int o2_9, .int o3_9, .ref (va 39)])), ((va 36), .inr (2, [.int o4_9, .int o5_9, .ref (va 40)])), ((va 37), .inr (2, [.int o6_9, .int o7_9, .ref (va 41)])), ((va 38), .inl ((vk 16), 60, .inr (.inl o8_9))), ((va 39), .inl ((vk 17), 60, .inr (.inl o9_9))), ((va 40), .inl ((vk 18), 60, .inr (.inl o10_9))), ((va 41), .inl ((vk 19), 60, .inr (.inl o11_9))), ((va 7), .inr (4, [.ref (va 42), .ref (va 43), .ref (va 44)])), ((va 42), .inl ((vk 20), (va 45), .inl (vF 8))), ((va 43), .inl ((vk 21), (va 46), .inl (vF 9))), ((va 44), .inl ((vk 22), (va 47), .inl (vF 10))), ((va 8), .inr (5, [.ref (va 48)])), ((va 48), .inl ((vk 23), 181, .inr (.inl (vG 10)))), ((va 9), .inl ((vk 24), 16, .inl (vF 11)))] := va_Da hD rfl
  exact ⟨⟨r, (), ho, trivial, ⟨va, (up9 (up9 (up9 (up9 (up9 (up9 (up9 (up9 vz 33 o0_9) 37 o1_9) 34 o2_9) 38 o3_9) 35 o4_9) 39 o5_9) 36 o6_9) 40 o7_9), vk, vF, (up9 (up9 (up9 (up9 vG 6 o8_9) 7 o9_9) 8 o10_9) 9 o11_9), b_ts, b_sn, b_sb, b_si, b_sw, b_ss, b_xf, b_xp, b_xt, b_xa, b_xo, b_ln, b_bs, b_tk, b_lw, b_ln_0, b_bs_0, b_tk_0, b_lw_0, b_ln_1, b_bs_1, b_tk_1, b_lw_1, b_ln_2, b_bs_2, b_tk_2, b_lw_2, (show (-1 : Int) ≤ o0_9.toInt ∧ o0_9.toInt ≤ 3 from b_o0_9), (show (-1 : Int) ≤ o2_9.toInt ∧ o2_9.toInt ≤ 3 from b_o2_9), (show (-1 : Int) ≤ o4_9.toInt ∧ o4_9.toInt ≤ 3 from b_o4_9), (show (-1 : Int) ≤ o6_9.toInt ∧ o6_9.toInt ≤ 3 from b_o6_9), (show (0 : Int) ≤ o1_9.toInt ∧ o1_9.toInt ≤ 60 from b_o1_9), (show (0 : Int) ≤ o3_9.toInt ∧ o3_9.toInt ≤ 60 from b_o3_9), (show (0 : Int) ≤ o5_9.toInt ∧ o5_9.toInt ≤ 60 from b_o5_9), (show (0 : Int) ≤ o7_9.toInt ∧ o7_9.toInt ≤ 60 from b_o7_9), hrd, hnl, hnm, hge, hrk, hnl0, hnm0, hge0, hrk0, hnl1, hnm1, hge1, hrk1, hnl2, hnm2, hge2, hrk2, hnr, hq1, hq3, (show RG (rwG gh a1 a2 a3) 0 o0_9 o1_9 from by first | with_reducible assumption | omega), (show RG (rwG gh a1 a2 a3) 1 o2_9 o3_9 from by first | with_reducible assumption | omega), (show RG (rwG gh a1 a2 a3) 2 o4_9 o5_9 from by first | with_reducible assumption | omega), (show RG (rwG gh a1 a2 a3) 3 o6_9 o7_9 from by first | with_reducible assumption | omega), ha_en, (show tot t.heap + (2 * pot (va 17) + 2 * pot (va 22) + 2 * pot (va 27) + 2 * pot (va 32) + (2 * pot (va 45) + potg (va 47))) ≤ cc from by omega), hP3, hK3, hD3⟩, hN.warm hW, hX.mv (fun a h1 h2 => hF.2 a h1 (fun z => h2 (hAn a (hFc a h1 z)))) hW.alike (fun _ _ _ _ q => vk_R.warm hW q), Nat.le_trans hn0 hF.1, fun q h => hA q (Nat.le_trans hF.1 h)⟩, hF.1, fun q h1 h2 => hF.2 q h1 (fun z => h2 (hFc q h1 z))⟩
set_option maxHeartbeats 4000000 in
set_option maxRecDepth 100000 in
theorem wX9_write (l : Launch) (dC : Nat → ClassId) (dI : Nat → Nat → Nat) (gh : Nat → Int32) (AX : Nat → Prop) (cc nB h0 : Nat) (a1 : Int32) (a2 : Int32) (a3 : Int64) (hAn : ∀ q, AX q → nB ≤ q) : Met l yX9_write uX9_write ({ frames := 2, cells := 0, slots := 0, locals := 45 }) (va_Pc [.ref h0, .int a1, .int a2, .long a3] (PX dC dI gh AX cc nB h0)) (va_Qi (fun (r : Int32) (_ : Unit) => True) (fun (_ : Unit) t => PX dC dI gh AX cc nB h0 t) AX) 0 0 AX := by
  refine Met.via (fun a U hv => ?_)
  obtain ⟨rfl, hV⟩ := hv
  refine XI.elim hV.1 (fun va vz vk vF vG b_ts b_sn b_sb b_si b_sw b_ss b_xf b_xp b_xt b_xa b_xo b_ln b_bs b_tk b_lw b_ln_0 b_bs_0 b_tk_0 b_lw_0 b_ln_1 b_bs_1 b_tk_1 b_lw_1 b_ln_2 b_bs_2 b_tk_2 b_lw_2 b_wd0 b_wd1 b_wd2 b_wd3 b_rz0 b_rz1 b_rz2 b_rz3 hrd hnl hnm hge hrk hnl0 hnm0 hge0 hrk0 hnl1 hnm1 hge1 hrk1 hnl2 hnm2 hge2 hrk2 hnr hq1 hq3 hg9_0 hg9_1 hg9_2 hg9_3 ha_en htot hP hK hD => ?_)
  have hN := hV.2.1
  have hX := hV.2.2.1
  have hn0 := hV.2.2.2.1
  have hA := hV.2.2.2.2
  have hFc : ∀ q : Nat, q < U.heap.size → va_A [(h0, .inr (7, [.ref (va 0), .ref (va 1), .ref (va 2), .ref (va 3), .ref (va 4), .ref (va 5), .ref (va 6), .ref (va 7), .ref (va 8), .ref (va 9)])), ((va 6), .inl ((vk 15), 4, .inr (.inr (.inr (.inr (sf4 (va 34) (va 35) (va 36) (va 37))))))), ((va 34), .inr (2, [.int (vz 33), .int (vz 37), .ref (va 38)])), ((va 35), .inr (2, [.int (vz 34), .int (vz 38), .ref (va 39)])), ((va 36), .inr (2, [.int (vz 35), .int (vz 39), .ref (va 40)])), ((va 37), .inr (2, [.int (vz 36), .int (vz 40), .ref (va 41)])), ((va 38), .inl ((vk 16), 60, .inr (.inl (vG 6)))), ((va 39), .inl ((vk 17), 60, .inr (.inl (vG 7)))), ((va 40), .inl ((vk 18), 60, .inr (.inl (vG 8)))), ((va 41), .inl ((vk 19), 60, .inr (.inl (vG 9))))] U.heap.size q → AX q := fun q h1 h2 => va_Ain (hD.sub (ws' := [(h0, .inr (7, [.ref (va 0), .ref (va 1), .ref (va 2), .ref (va 3), .ref (va 4), .ref (va 5), .ref (va 6), .ref (va 7), .ref (va 8), .ref (va 9)])), ((va 6), .inl ((vk 15), 4, .inr (.inr (.inr (.inr (sf4 (va 34) (va 35) (va 36) (va 37))))))), ((va 34), .inr (2, [.int (vz 33), .int (vz 37), .ref (va 38)])), ((va 35), .inr (2, [.int (vz 34), .int (vz 38), .ref (va 39)])), ((va 36), .inr (2, [.int (vz 35), .int (vz 39), .ref (va 40)])), ((va 37), .inr (2, [.int (vz 36), .int (vz 40), .ref (va 41)])), ((va 38), .inl ((vk 16), 60, .inr (.inl (vG 6)))), ((va 39), .inl ((vk 17), 60, .inr (.inl (vG 7)))), ((va 40), .inl ((vk 18), 60, .inr (.inl (vG 8)))), ((va 41), .inl ((vk 19), 60, .inr (.inl (vG 9))))]) [0, 23, 24, 25, 26, 27, 28, 29, 30, 31] (by decide) rfl) h1 h2
  refine ⟨_, _, _, kX9_write l dC dI h0 (va 0) (va 1) (va 2) (va 3) (va 4) (va 5) (va 6) (va 7) (va 8) (va 9) (vk 15) (va 34) (va 35) (va 36) (va 37) (va 38) (va 39) (va 40) (va 41) (vz 33) (vz 34) (vz 35) (vz 36) (vz 37) (vz 38) (vz 39) (vz 40) (vk 16) (vk 17) (vk 18) (vk 19) (vG 6) (vG 7) (vG 8) (vG 9) a1 a2 a3 U.heap.size b_wd0 b_wd1 b_wd2 b_wd3 b_rz0 b_rz1 b_rz2 b_rz3, ⟨rfl, ⟨rfl, hP.sub [0, 23, 24, 25, 26, 27, 28, 29, 30, 31] rfl, hK.sub [15, 16, 17, 18, 19] rfl, (hD.sub [0, 23, 24, 25, 26, 27, 28, 29, 30, 31] (by decide) rfl).weaken (fun _ _ _ _ => trivial), hN⟩⟩, fun o t hq hW hts => ?_, fun q h1 h2 => hFc q h1 h2⟩
  have hF := hq.2
  have h9_0 := hq.1
  clear hq
  refine Exists.elim h9_0 (fun r h9_1 => ?_)
  clear h9_0
  refine Exists.elim h9_1 (fun u h9_2 => ?_)
  clear h9_1
  refine and_el h9_2 (fun ho h9_3 => ?_)
  clear h9_2
  refine and_el h9_3 (fun hp h9_4 => ?_)
  clear h9_3
  refine Exists.elim h9_4 (fun o0_9 h9_5 => ?_)
  clear h9_4
  refine Exists.elim h9_5 (fun o1_9 h9_6 => ?_)
  clear h9_5
  refine Exists.elim h9_6 (fun o2_9 h9_7 => ?_)
  clear h9_6
  refine Exists.elim h9_7 (fun o3_9 h9_8 => ?_)
  clear h9_7
  refine and_el h9_8 (fun hP1 h9_9 => ?_)
  clear h9_8
  refine and_el h9_9 (fun hK1 h9_10 => ?_)
  clear h9_9
  have hD1 := h9_10
  clear h9_10
  have hP2 := va_put9 [0, 23, 24, 25, 26, 27, 28, 29, 30, 31] hP hD (by rfl) hF.2 hP1 (by exact Nat.le_of_ble_eq_true rfl)
  have hP3 : va_P (dC, dI) vwCl [(h0, .inr (7, [.ref (va 0), .ref (va 1), .ref (va 2), .ref (va 3), .ref (va 4), .ref (va 5), .ref (va 6), .ref (va 7), .ref (va 8), .ref (va 9)])), ((va 0), .inr (6, [.ref (va 10), .int (vz 0)])), ((va 10), .inl ((vk 0), 1200, .inl (vF 0))), ((va 1), .inr (3, [.int (vz 1), .int (vz 2), .int (vz 3), .int (vz 4), .int (vz 5), .ref (va 11), .ref (va 12), .ref (va 13), .ref (va 14)])), ((va 11), .inl ((vk 1), 9, .inl (vF 1))), ((va 12), .inl ((vk 2), 600, .inl (vF 2))), ((va 13), .inl ((vk 3), 600, .inr (.inl (vG 0)))), ((va 14), .inl ((vk 4), 600, .inr (.inl (vG 1)))), ((va 2), .inr (0, [.ref (va 0), .ref (va 1), .int (vz 6), .int (vz 7), .int (vz 8), .int (vz 9), .int (vz 10), .int (vz 11), .int (vz 12)])), ((va 3), .inr (1, [.int (vz 13), .int (vz 14), .int (vz 15), .int (vz 16), .int (vz 17), .ref (va 15), .ref (va 16)])), ((va 15), .inl ((vk 5), (va 17), .inr (.inl (vG 2)))), ((va 16), .inl ((vk 6), (va 18), .inl (vF 3))), ((va 4), .inl ((vk 7), 3, .inr (.inr (.inr (.inr (sf3 (va 19) (va 24) (va 29))))))), ((va 19), .inr (1, [.int (vz 18), .int (vz 19), .int (vz 20), .int (vz 21), .int (vz 22), .ref (va 20), .ref (va 21)])), ((va 20), .inl ((vk 9), (va 22), .inr (.inl (vG 3)))), ((va 21), .inl ((vk 10), (va 23), .inl (vF 5))), ((va 24), .inr (1, [.int (vz 23), .int (vz 24), .int (vz 25), .int (vz 26), .int (vz 27), .ref (va 25), .ref (va 26)])), ((va 25), .inl ((vk 11), (va 27), .inr (.inl (vG 4)))), ((va 26), .inl ((vk 12), (va 28), .inl (vF 6))), ((va 29), .inr (1, [.int (vz 28), .int (vz 29), .int (vz 30), .int (vz 31), .int (vz 32), .ref (va 30), .ref (va 31)])), ((va 30), .inl ((vk 13), (va 32), .inr (.inl (vG 5)))), ((va 31), .inl ((vk 14), (va 33), .inl (vF 7))), ((va 5), .inl ((vk 8), 3, .inl (vF 4))), ((va 6), .inl ((vk 15), 4, .inr (.inr (.inr (.inr (sf4 (va 34) (va 35) (va 36) (va 37))))))), ((va 34), .inr (2, [.int (vz 33), .int (vz 37), .ref (va 38)])), ((va 35), .inr (2, [.int (vz 34), .int (vz 38), .ref (va 39)])), ((va 36), .inr (2, [.int (vz 35), .int (vz 39), .ref (va 40)])), ((va 37), .inr (2, [.int (vz 36), .int (vz 40), .ref (va 41)])), ((va 38), .inl ((vk 16), 60, .inr (.inl o0_9))), ((va 39), .inl ((vk 17), 60, .inr (.inl o1_9))), ((va 40), .inl ((vk 18), 60, .inr (.inl o2_9))), ((va 41), .inl ((vk 19), 60, .inr (.inl o3_9))), ((va 7), .inr (4, [.ref (va 42), .ref (va 43), .ref (va 44)])), ((va 42), .inl ((vk 20), (va 45), .inl (vF 8))), ((va 43), .inl ((vk 21), (va 46), .inl (vF 9))), ((va 44), .inl ((vk 22), (va 47), .inl (vF 10))), ((va 8), .inr (5, [.ref (va 48)])), ((va 48), .inl ((vk 23), 181, .inr (.inl (vG 10)))), ((va 9), .inl ((vk 24), 16, .inl (vF 11)))] t.heap := hP2
  have hK3 := va_K.moved hW.alike hK
  have hD3 : va_D AX [(h0, .inr (7, [.ref (va 0), .ref (va 1), .ref (va 2), .ref (va 3), .ref (va 4), .ref (va 5), .ref (va 6), .ref (va 7), .ref (va 8), .ref (va 9)])), ((va 0), .inr (6, [.ref (va 10), .int (vz 0)])), ((va 10), .inl ((vk 0), 1200, .inl (vF 0))), ((va 1), .inr (3, [.int (vz 1), .int (vz 2), .int (vz 3), .int (vz 4), .int (vz 5), .ref (va 11), .ref (va 12), .ref (va 13), .ref (va 14)])), ((va 11), .inl ((vk 1), 9, .inl (vF 1))), ((va 12), .inl ((vk 2), 600, .inl (vF 2))), ((va 13), .inl ((vk 3), 600, .inr (.inl (vG 0)))), ((va 14), .inl ((vk 4), 600, .inr (.inl (vG 1)))), ((va 2), .inr (0, [.ref (va 0), .ref (va 1), .int (vz 6), .int (vz 7), .int (vz 8), .int (vz 9), .int (vz 10), .int (vz 11), .int (vz 12)])), ((va 3), .inr (1, [.int (vz 13), .int (vz 14), .int (vz 15), .int (vz 16), .int (vz 17), .ref (va 15), .ref (va 16)])), ((va 15), .inl ((vk 5), (va 17), .inr (.inl (vG 2)))), ((va 16), .inl ((vk 6), (va 18), .inl (vF 3))), ((va 4), .inl ((vk 7), 3, .inr (.inr (.inr (.inr (sf3 (va 19) (va 24) (va 29))))))), ((va 19), .inr (1, [.int (vz 18), .int (vz 19), .int (vz 20), .int (vz 21), .int (vz 22), .ref (va 20), .ref (va 21)])), ((va 20), .inl ((vk 9), (va 22), .inr (.inl (vG 3)))), ((va 21), .inl ((vk 10), (va 23), .inl (vF 5))), ((va 24), .inr (1, [.int (vz 23), .int (vz 24), .int (vz 25), .int (vz 26), .int (vz 27), .ref (va 25), .ref (va 26)])), ((va 25), .inl ((vk 11), (va 27), .inr (.inl (vG 4)))), ((va 26), .inl ((vk 12), (va 28), .inl (vF 6))), ((va 29), .inr (1, [.int (vz 28), .int (vz 29), .int (vz 30), .int (vz 31), .int (vz 32), .ref (va 30), .ref (va 31)])), ((va 30), .inl ((vk 13), (va 32), .inr (.inl (vG 5)))), ((va 31), .inl ((vk 14), (va 33), .inl (vF 7))), ((va 5), .inl ((vk 8), 3, .inl (vF 4))), ((va 6), .inl ((vk 15), 4, .inr (.inr (.inr (.inr (sf4 (va 34) (va 35) (va 36) (va 37))))))), ((va 34), .inr (2, [.int (vz 33), .int (vz 37), .ref (va 38)])), ((va 35), .inr (2, [.int (vz 34), .int (vz 38), .ref (va 39)])), ((va 36), .inr (2, [.int (vz 35), .int (vz 39), .ref (va 40)])), ((va 37), .inr (2, [.int (vz 36), .int (vz 40), .ref (va 41)])), ((va 38), .inl ((vk 16), 60, .inr (.inl o0_9))), ((va 39), .inl ((vk 17), 60, .inr (.inl o1_9))), ((va 40), .inl ((vk 18), 60, .inr (.inl o2_9))), ((va 41), .inl ((vk 19), 60, .inr (.inl o3_9))), ((va 7), .inr (4, [.ref (va 42), .ref (va 43), .ref (va 44)])), ((va 42), .inl ((vk 20), (va 45), .inl (vF 8))), ((va 43), .inl ((vk 21), (va 46), .inl (vF 9))), ((va 44), .inl ((vk 22), (va 47), .inl (vF 10))), ((va 8), .inr (5, [.ref (va 48)])), ((va 48), .inl ((vk 23), 181, .inr (.inl (vG 10)))), ((va 9), .inl ((vk 24), 16, .inl (vF 11)))] := va_Da hD rfl
  exact ⟨⟨r, (), ho, trivial, ⟨va, vz, vk, vF, (up9 (up9 (up9 (up9 vG 6 o0_9) 7 o1_9) 8 o2_9) 9 o3_9), b_ts, b_sn, b_sb, b_si, b_sw, b_ss, b_xf, b_xp, b_xt, b_xa, b_xo, b_ln, b_bs, b_tk, b_lw, b_ln_0, b_bs_0, b_tk_0, b_lw_0, b_ln_1, b_bs_1, b_tk_1, b_lw_1, b_ln_2, b_bs_2, b_tk_2, b_lw_2, b_wd0, b_wd1, b_wd2, b_wd3, b_rz0, b_rz1, b_rz2, b_rz3, hrd, hnl, hnm, hge, hrk, hnl0, hnm0, hge0, hrk0, hnl1, hnm1, hge1, hrk1, hnl2, hnm2, hge2, hrk2, hnr, hq1, hq3, hg9_0, hg9_1, hg9_2, hg9_3, ha_en, (show tot t.heap + (2 * pot (va 17) + 2 * pot (va 22) + 2 * pot (va 27) + 2 * pot (va 32) + (2 * pot (va 45) + potg (va 47))) ≤ cc from by omega), hP3, hK3, hD3⟩, hN.warm hW, hX.mv (fun a h1 h2 => hF.2 a h1 (fun z => h2 (hAn a (hFc a h1 z)))) hW.alike (fun _ _ _ _ q => vk_R.warm hW q), Nat.le_trans hn0 hF.1, fun q h => hA q (Nat.le_trans hF.1 h)⟩, hF.1, fun q h1 h2 => hF.2 q h1 (fun z => h2 (hFc q h1 z))⟩
set_option maxHeartbeats 4000000 in
set_option maxRecDepth 100000 in
theorem wX9_paste (l : Launch) (dC : Nat → ClassId) (dI : Nat → Nat → Nat) (gh : Nat → Int32) (AX : Nat → Prop) (cc nB h0 : Nat) (a1 : Int32) (a2 : Int32) (a3 : Int32) (a4 : Int32) (a5 : Int32) (hAn : ∀ q, AX q → nB ≤ q) : Met l yX9_paste uX9_pasteF ({ frames := 2, cells := 0, slots := 0, locals := 88 }) (va_Pc [.ref h0, .int a1, .int a2, .int a3, .int a4, .int a5] (PX dC dI gh AX cc nB h0)) (va_Qi (fun (r : Int32) (_ : Unit) => r = psA gh a1 a2 a3 a4 a5) (fun (_ : Unit) t => PX dC dI gh AX cc nB h0 t) AX) 0 0 AX := by
  refine Met.via (fun a U hv => ?_)
  obtain ⟨rfl, hV⟩ := hv
  refine XI.elim hV.1 (fun va vz vk vF vG b_ts b_sn b_sb b_si b_sw b_ss b_xf b_xp b_xt b_xa b_xo b_ln b_bs b_tk b_lw b_ln_0 b_bs_0 b_tk_0 b_lw_0 b_ln_1 b_bs_1 b_tk_1 b_lw_1 b_ln_2 b_bs_2 b_tk_2 b_lw_2 b_wd0 b_wd1 b_wd2 b_wd3 b_rz0 b_rz1 b_rz2 b_rz3 hrd hnl hnm hge hrk hnl0 hnm0 hge0 hrk0 hnl1 hnm1 hge1 hrk1 hnl2 hnm2 hge2 hrk2 hnr hq1 hq3 hg9_0 hg9_1 hg9_2 hg9_3 ha_en htot hP hK hD => ?_)
  have hN := hV.2.1
  have hX := hV.2.2.1
  have hn0 := hV.2.2.2.1
  have hA := hV.2.2.2.2
  have hFc : ∀ q : Nat, q < U.heap.size → va_A [(h0, .inr (7, [.ref (va 0), .ref (va 1), .ref (va 2), .ref (va 3), .ref (va 4), .ref (va 5), .ref (va 6), .ref (va 7), .ref (va 8), .ref (va 9)])), ((va 6), .inl ((vk 15), 4, .inr (.inr (.inr (.inr (sf4 (va 34) (va 35) (va 36) (va 37))))))), ((va 34), .inr (2, [.int (vz 33), .int (vz 37), .ref (va 38)])), ((va 35), .inr (2, [.int (vz 34), .int (vz 38), .ref (va 39)])), ((va 36), .inr (2, [.int (vz 35), .int (vz 39), .ref (va 40)])), ((va 37), .inr (2, [.int (vz 36), .int (vz 40), .ref (va 41)])), ((va 38), .inl ((vk 16), 60, .inr (.inl (vG 6)))), ((va 39), .inl ((vk 17), 60, .inr (.inl (vG 7)))), ((va 40), .inl ((vk 18), 60, .inr (.inl (vG 8)))), ((va 41), .inl ((vk 19), 60, .inr (.inl (vG 9))))] U.heap.size q → AX q := fun q h1 h2 => va_Ain (hD.sub (ws' := [(h0, .inr (7, [.ref (va 0), .ref (va 1), .ref (va 2), .ref (va 3), .ref (va 4), .ref (va 5), .ref (va 6), .ref (va 7), .ref (va 8), .ref (va 9)])), ((va 6), .inl ((vk 15), 4, .inr (.inr (.inr (.inr (sf4 (va 34) (va 35) (va 36) (va 37))))))), ((va 34), .inr (2, [.int (vz 33), .int (vz 37), .ref (va 38)])), ((va 35), .inr (2, [.int (vz 34), .int (vz 38), .ref (va 39)])), ((va 36), .inr (2, [.int (vz 35), .int (vz 39), .ref (va 40)])), ((va 37), .inr (2, [.int (vz 36), .int (vz 40), .ref (va 41)])), ((va 38), .inl ((vk 16), 60, .inr (.inl (vG 6)))), ((va 39), .inl ((vk 17), 60, .inr (.inl (vG 7)))), ((va 40), .inl ((vk 18), 60, .inr (.inl (vG 8)))), ((va 41), .inl ((vk 19), 60, .inr (.inl (vG 9))))]) [0, 23, 24, 25, 26, 27, 28, 29, 30, 31] (by decide) rfl) h1 h2
  refine ⟨_, _, _, kX9_pasteF l dC dI h0 (va 0) (va 1) (va 2) (va 3) (va 4) (va 5) (va 6) (va 7) (va 8) (va 9) (vk 15) (va 34) (va 35) (va 36) (va 37) (va 38) (va 39) (va 40) (va 41) (vz 33) (vz 34) (vz 35) (vz 36) (vz 37) (vz 38) (vz 39) (vz 40) (vk 16) (vk 17) (vk 18) (vk 19) (vG 6) (vG 7) (vG 8) (vG 9) gh a1 a2 a3 a4 a5 U.heap.size b_wd0 b_wd1 b_wd2 b_wd3 b_rz0 b_rz1 b_rz2 b_rz3 (by first | with_reducible assumption | omega) (by first | with_reducible assumption | omega) (by first | with_reducible assumption | omega) (by first | with_reducible assumption | omega), ⟨rfl, ⟨rfl, hP.sub [0, 23, 24, 25, 26, 27, 28, 29, 30, 31] rfl, hK.sub [15, 16, 17, 18, 19] rfl, (hD.sub [0, 23, 24, 25, 26, 27, 28, 29, 30, 31] (by decide) rfl).weaken (fun _ _ _ _ => trivial), hN⟩⟩, fun o t hq hW hts => ?_, fun q h1 h2 => hFc q h1 h2⟩
  have hF := hq.2
  have h9_0 := hq.1
  clear hq
  refine Exists.elim h9_0 (fun r h9_1 => ?_)
  clear h9_0
  refine Exists.elim h9_1 (fun u h9_2 => ?_)
  clear h9_1
  refine and_el h9_2 (fun ho h9_3 => ?_)
  clear h9_2
  refine and_el h9_3 (fun hp h9_4 => ?_)
  clear h9_3
  refine Exists.elim h9_4 (fun o0_9 h9_5 => ?_)
  clear h9_4
  refine Exists.elim h9_5 (fun o1_9 h9_6 => ?_)
  clear h9_5
  refine Exists.elim h9_6 (fun o2_9 h9_7 => ?_)
  clear h9_6
  refine Exists.elim h9_7 (fun o3_9 h9_8 => ?_)
  clear h9_7
  refine and_el h9_8 (fun hP1 h9_9 => ?_)
  clear h9_8
  refine and_el h9_9 (fun hK1 h9_10 => ?_)
  clear h9_9
  have hD1 := h9_10
  clear h9_10
  have hP2 := va_put9 [0, 23, 24, 25, 26, 27, 28, 29, 30, 31] hP hD (by rfl) hF.2 hP1 (by exact Nat.le_of_ble_eq_true rfl)
  have hP3 : va_P (dC, dI) vwCl [(h0, .inr (7, [.ref (va 0), .ref (va 1), .ref (va 2), .ref (va 3), .ref (va 4), .ref (va 5), .ref (va 6), .ref (va 7), .ref (va 8), .ref (va 9)])), ((va 0), .inr (6, [.ref (va 10), .int (vz 0)])), ((va 10), .inl ((vk 0), 1200, .inl (vF 0))), ((va 1), .inr (3, [.int (vz 1), .int (vz 2), .int (vz 3), .int (vz 4), .int (vz 5), .ref (va 11), .ref (va 12), .ref (va 13), .ref (va 14)])), ((va 11), .inl ((vk 1), 9, .inl (vF 1))), ((va 12), .inl ((vk 2), 600, .inl (vF 2))), ((va 13), .inl ((vk 3), 600, .inr (.inl (vG 0)))), ((va 14), .inl ((vk 4), 600, .inr (.inl (vG 1)))), ((va 2), .inr (0, [.ref (va 0), .ref (va 1), .int (vz 6), .int (vz 7), .int (vz 8), .int (vz 9), .int (vz 10), .int (vz 11), .int (vz 12)])), ((va 3), .inr (1, [.int (vz 13), .int (vz 14), .int (vz 15), .int (vz 16), .int (vz 17), .ref (va 15), .ref (va 16)])), ((va 15), .inl ((vk 5), (va 17), .inr (.inl (vG 2)))), ((va 16), .inl ((vk 6), (va 18), .inl (vF 3))), ((va 4), .inl ((vk 7), 3, .inr (.inr (.inr (.inr (sf3 (va 19) (va 24) (va 29))))))), ((va 19), .inr (1, [.int (vz 18), .int (vz 19), .int (vz 20), .int (vz 21), .int (vz 22), .ref (va 20), .ref (va 21)])), ((va 20), .inl ((vk 9), (va 22), .inr (.inl (vG 3)))), ((va 21), .inl ((vk 10), (va 23), .inl (vF 5))), ((va 24), .inr (1, [.int (vz 23), .int (vz 24), .int (vz 25), .int (vz 26), .int (vz 27), .ref (va 25), .ref (va 26)])), ((va 25), .inl ((vk 11), (va 27), .inr (.inl (vG 4)))), ((va 26), .inl ((vk 12), (va 28), .inl (vF 6))), ((va 29), .inr (1, [.int (vz 28), .int (vz 29), .int (vz 30), .int (vz 31), .int (vz 32), .ref (va 30), .ref (va 31)])), ((va 30), .inl ((vk 13), (va 32), .inr (.inl (vG 5)))), ((va 31), .inl ((vk 14), (va 33), .inl (vF 7))), ((va 5), .inl ((vk 8), 3, .inl (vF 4))), ((va 6), .inl ((vk 15), 4, .inr (.inr (.inr (.inr (sf4 (va 34) (va 35) (va 36) (va 37))))))), ((va 34), .inr (2, [.int (vz 33), .int (vz 37), .ref (va 38)])), ((va 35), .inr (2, [.int (vz 34), .int (vz 38), .ref (va 39)])), ((va 36), .inr (2, [.int (vz 35), .int (vz 39), .ref (va 40)])), ((va 37), .inr (2, [.int (vz 36), .int (vz 40), .ref (va 41)])), ((va 38), .inl ((vk 16), 60, .inr (.inl o0_9))), ((va 39), .inl ((vk 17), 60, .inr (.inl o1_9))), ((va 40), .inl ((vk 18), 60, .inr (.inl o2_9))), ((va 41), .inl ((vk 19), 60, .inr (.inl o3_9))), ((va 7), .inr (4, [.ref (va 42), .ref (va 43), .ref (va 44)])), ((va 42), .inl ((vk 20), (va 45), .inl (vF 8))), ((va 43), .inl ((vk 21), (va 46), .inl (vF 9))), ((va 44), .inl ((vk 22), (va 47), .inl (vF 10))), ((va 8), .inr (5, [.ref (va 48)])), ((va 48), .inl ((vk 23), 181, .inr (.inl (vG 10)))), ((va 9), .inl ((vk 24), 16, .inl (vF 11)))] t.heap := hP2
  have hK3 := va_K.moved hW.alike hK
  have hD3 : va_D AX [(h0, .inr (7, [.ref (va 0), .ref (va 1), .ref (va 2), .ref (va 3), .ref (va 4), .ref (va 5), .ref (va 6), .ref (va 7), .ref (va 8), .ref (va 9)])), ((va 0), .inr (6, [.ref (va 10), .int (vz 0)])), ((va 10), .inl ((vk 0), 1200, .inl (vF 0))), ((va 1), .inr (3, [.int (vz 1), .int (vz 2), .int (vz 3), .int (vz 4), .int (vz 5), .ref (va 11), .ref (va 12), .ref (va 13), .ref (va 14)])), ((va 11), .inl ((vk 1), 9, .inl (vF 1))), ((va 12), .inl ((vk 2), 600, .inl (vF 2))), ((va 13), .inl ((vk 3), 600, .inr (.inl (vG 0)))), ((va 14), .inl ((vk 4), 600, .inr (.inl (vG 1)))), ((va 2), .inr (0, [.ref (va 0), .ref (va 1), .int (vz 6), .int (vz 7), .int (vz 8), .int (vz 9), .int (vz 10), .int (vz 11), .int (vz 12)])), ((va 3), .inr (1, [.int (vz 13), .int (vz 14), .int (vz 15), .int (vz 16), .int (vz 17), .ref (va 15), .ref (va 16)])), ((va 15), .inl ((vk 5), (va 17), .inr (.inl (vG 2)))), ((va 16), .inl ((vk 6), (va 18), .inl (vF 3))), ((va 4), .inl ((vk 7), 3, .inr (.inr (.inr (.inr (sf3 (va 19) (va 24) (va 29))))))), ((va 19), .inr (1, [.int (vz 18), .int (vz 19), .int (vz 20), .int (vz 21), .int (vz 22), .ref (va 20), .ref (va 21)])), ((va 20), .inl ((vk 9), (va 22), .inr (.inl (vG 3)))), ((va 21), .inl ((vk 10), (va 23), .inl (vF 5))), ((va 24), .inr (1, [.int (vz 23), .int (vz 24), .int (vz 25), .int (vz 26), .int (vz 27), .ref (va 25), .ref (va 26)])), ((va 25), .inl ((vk 11), (va 27), .inr (.inl (vG 4)))), ((va 26), .inl ((vk 12), (va 28), .inl (vF 6))), ((va 29), .inr (1, [.int (vz 28), .int (vz 29), .int (vz 30), .int (vz 31), .int (vz 32), .ref (va 30), .ref (va 31)])), ((va 30), .inl ((vk 13), (va 32), .inr (.inl (vG 5)))), ((va 31), .inl ((vk 14), (va 33), .inl (vF 7))), ((va 5), .inl ((vk 8), 3, .inl (vF 4))), ((va 6), .inl ((vk 15), 4, .inr (.inr (.inr (.inr (sf4 (va 34) (va 35) (va 36) (va 37))))))), ((va 34), .inr (2, [.int (vz 33), .int (vz 37), .ref (va 38)])), ((va 35), .inr (2, [.int (vz 34), .int (vz 38), .ref (va 39)])), ((va 36), .inr (2, [.int (vz 35), .int (vz 39), .ref (va 40)])), ((va 37), .inr (2, [.int (vz 36), .int (vz 40), .ref (va 41)])), ((va 38), .inl ((vk 16), 60, .inr (.inl o0_9))), ((va 39), .inl ((vk 17), 60, .inr (.inl o1_9))), ((va 40), .inl ((vk 18), 60, .inr (.inl o2_9))), ((va 41), .inl ((vk 19), 60, .inr (.inl o3_9))), ((va 7), .inr (4, [.ref (va 42), .ref (va 43), .ref (va 44)])), ((va 42), .inl ((vk 20), (va 45), .inl (vF 8))), ((va 43), .inl ((vk 21), (va 46), .inl (vF 9))), ((va 44), .inl ((vk 22), (va 47), .inl (vF 10))), ((va 8), .inr (5, [.ref (va 48)])), ((va 48), .inl ((vk 23), 181, .inr (.inl (vG 10)))), ((va 9), .inl ((vk 24), 16, .inl (vF 11)))] := va_Da hD rfl
  exact ⟨⟨r, (), ho, hp.2, ⟨va, vz, vk, vF, (up9 (up9 (up9 (up9 vG 6 o0_9) 7 o1_9) 8 o2_9) 9 o3_9), b_ts, b_sn, b_sb, b_si, b_sw, b_ss, b_xf, b_xp, b_xt, b_xa, b_xo, b_ln, b_bs, b_tk, b_lw, b_ln_0, b_bs_0, b_tk_0, b_lw_0, b_ln_1, b_bs_1, b_tk_1, b_lw_1, b_ln_2, b_bs_2, b_tk_2, b_lw_2, b_wd0, b_wd1, b_wd2, b_wd3, b_rz0, b_rz1, b_rz2, b_rz3, hrd, hnl, hnm, hge, hrk, hnl0, hnm0, hge0, hrk0, hnl1, hnm1, hge1, hrk1, hnl2, hnm2, hge2, hrk2, hnr, hq1, hq3, hg9_0, hg9_1, hg9_2, hg9_3, ha_en, (show tot t.heap + (2 * pot (va 17) + 2 * pot (va 22) + 2 * pot (va 27) + 2 * pot (va 32) + (2 * pot (va 45) + potg (va 47))) ≤ cc from by omega), hP3, hK3, hD3⟩, hN.warm hW, hX.mv (fun a h1 h2 => hF.2 a h1 (fun z => h2 (hAn a (hFc a h1 z)))) hW.alike (fun _ _ _ _ q => vk_R.warm hW q), Nat.le_trans hn0 hF.1, fun q h => hA q (Nat.le_trans hF.1 h)⟩, hF.1, fun q h1 h2 => hF.2 q h1 (fun z => h2 (hFc q h1 z))⟩
