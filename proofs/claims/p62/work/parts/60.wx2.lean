set_option maxHeartbeats 4000000 in
set_option maxRecDepth 100000 in
theorem wX9_steps (l : Launch) (dC : Nat → ClassId) (dI : Nat → Nat → Nat) (gh : Nat → Int32) (AX : Nat → Prop) (cc nB h0 : Nat) (a1 : Int32) (a2 : Int32) (a3 : Int32) (a4 : Int32) (hAn : ∀ q, AX q → nB ≤ q) : Met l yX9_steps uX9_steps ({ frames := 2, cells := 0, slots := 0, locals := 49 }) (va_Pc [.ref h0, .int a1, .int a2, .int a3, .int a4] (PX dC dI gh AX cc nB h0)) (va_Qi (fun (r : Int32) (_ : Unit) => True) (fun (_ : Unit) t => PX dC dI gh AX cc nB h0 t) AX) 0 0 AX := by
  refine Met.via (fun a U hv => ?_)
  obtain ⟨rfl, hV⟩ := hv
  refine XI.elim hV.1 (fun va vz vk vF vG b_ts b_sn b_sb b_si b_sw b_ss b_xf b_xp b_xt b_xa b_xo b_ln b_bs b_tk b_lw b_ln_0 b_bs_0 b_tk_0 b_lw_0 b_ln_1 b_bs_1 b_tk_1 b_lw_1 b_ln_2 b_bs_2 b_tk_2 b_lw_2 b_wd0 b_wd1 b_wd2 b_wd3 b_rz0 b_rz1 b_rz2 b_rz3 hrd hnl hnm hge hrk hnl0 hnm0 hge0 hrk0 hnl1 hnm1 hge1 hrk1 hnl2 hnm2 hge2 hrk2 hnr hq1 hq3 hg9_0 hg9_1 hg9_2 hg9_3 ha_en htot hP hK hD => ?_)
  have hN := hV.2.1
  have hX := hV.2.2.1
  have hn0 := hV.2.2.2.1
  have hA := hV.2.2.2.2
  refine ⟨_, _, _, kX9_steps l dC dI h0 (va 0) (va 1) (va 2) (va 3) (va 4) (va 5) (va 6) (va 7) (va 8) (va 9) (vz 13) (vz 14) (vz 15) (vz 16) (vz 17) (va 15) (va 16) (vk 6) (va 18) (vF 3) a1 a2 a3 a4 b_ln b_bs b_tk b_lw (by first | with_reducible assumption | omega), ⟨rfl, ⟨hP.sub [0, 9, 11] rfl, hK.sub [6] rfl, hN⟩⟩, fun o t hq hW _ => ?_, fun q _ hq => hq.elim⟩
  obtain ⟨r, ho, hp, hh⟩ := hq
  exact ⟨⟨r, (), ho, trivial, PX_same hV hh hW⟩, by rw [hh]; exact Nat.le_refl _, fun q _ _ => by rw [hh]⟩
set_option maxHeartbeats 4000000 in
set_option maxRecDepth 100000 in
theorem wX9_chance (l : Launch) (dC : Nat → ClassId) (dI : Nat → Nat → Nat) (gh : Nat → Int32) (AX : Nat → Prop) (cc nB h0 : Nat) (a1 : Int32) (a2 : Int32) (hAn : ∀ q, AX q → nB ≤ q) : Met l yX9_chance uX9_chance ({ frames := 3, cells := 0, slots := 0, locals := 60 }) (va_Pc [.ref h0, .int a1, .int a2] (PX dC dI gh AX cc nB h0)) (va_Qi (fun (r : Int32) (_ : Unit) => True) (fun (_ : Unit) t => PX dC dI gh AX cc nB h0 t) AX) 0 0 AX := by
  refine Met.via (fun a U hv => ?_)
  obtain ⟨rfl, hV⟩ := hv
  refine XI.elim hV.1 (fun va vz vk vF vG b_ts b_sn b_sb b_si b_sw b_ss b_xf b_xp b_xt b_xa b_xo b_ln b_bs b_tk b_lw b_ln_0 b_bs_0 b_tk_0 b_lw_0 b_ln_1 b_bs_1 b_tk_1 b_lw_1 b_ln_2 b_bs_2 b_tk_2 b_lw_2 b_wd0 b_wd1 b_wd2 b_wd3 b_rz0 b_rz1 b_rz2 b_rz3 hrd hnl hnm hge hrk hnl0 hnm0 hge0 hrk0 hnl1 hnm1 hge1 hrk1 hnl2 hnm2 hge2 hrk2 hnr hq1 hq3 hg9_0 hg9_1 hg9_2 hg9_3 ha_en htot hP hK hD => ?_)
  have hN := hV.2.1
  have hX := hV.2.2.1
  have hn0 := hV.2.2.2.1
  have hA := hV.2.2.2.2
  refine ⟨_, _, _, kX9_chance l dC dI h0 (va 0) (va 1) (va 2) (va 3) (va 4) (va 5) (va 6) (va 7) (va 8) (va 9) (vz 13) (vz 14) (vz 15) (vz 16) (vz 17) (va 15) (va 16) (vk 6) (va 18) (vF 3) a1 a2 b_ln b_bs b_tk b_lw (by first | with_reducible assumption | omega), ⟨rfl, ⟨hP.sub [0, 9, 11] rfl, hK.sub [6] rfl, hN⟩⟩, fun o t hq hW _ => ?_, fun q _ hq => hq.elim⟩
  obtain ⟨r, ho, hp, hh⟩ := hq
  exact ⟨⟨r, (), ho, trivial, PX_same hV hh hW⟩, by rw [hh]; exact Nat.le_refl _, fun q _ _ => by rw [hh]⟩
set_option maxHeartbeats 4000000 in
set_option maxRecDepth 100000 in
theorem wX9_share (l : Launch) (dC : Nat → ClassId) (dI : Nat → Nat → Nat) (gh : Nat → Int32) (AX : Nat → Prop) (cc nB h0 : Nat) (a1 : Int32) (a2 : Int32) (hAn : ∀ q, AX q → nB ≤ q) : Met l yX9_share uX9_share ({ frames := 3, cells := 0, slots := 0, locals := 60 }) (va_Pc [.ref h0, .int a1, .int a2] (PX dC dI gh AX cc nB h0)) (va_Qi (fun (r : Int32) (_ : Unit) => True) (fun (_ : Unit) t => PX dC dI gh AX cc nB h0 t) AX) 0 0 AX := by
  refine Met.via (fun a U hv => ?_)
  obtain ⟨rfl, hV⟩ := hv
  refine XI.elim hV.1 (fun va vz vk vF vG b_ts b_sn b_sb b_si b_sw b_ss b_xf b_xp b_xt b_xa b_xo b_ln b_bs b_tk b_lw b_ln_0 b_bs_0 b_tk_0 b_lw_0 b_ln_1 b_bs_1 b_tk_1 b_lw_1 b_ln_2 b_bs_2 b_tk_2 b_lw_2 b_wd0 b_wd1 b_wd2 b_wd3 b_rz0 b_rz1 b_rz2 b_rz3 hrd hnl hnm hge hrk hnl0 hnm0 hge0 hrk0 hnl1 hnm1 hge1 hrk1 hnl2 hnm2 hge2 hrk2 hnr hq1 hq3 hg9_0 hg9_1 hg9_2 hg9_3 ha_en htot hP hK hD => ?_)
  have hN := hV.2.1
  have hX := hV.2.2.1
  have hn0 := hV.2.2.2.1
  have hA := hV.2.2.2.2
  refine ⟨_, _, _, kX9_share l dC dI h0 (va 0) (va 1) (va 2) (va 3) (va 4) (va 5) (va 6) (va 7) (va 8) (va 9) (vz 13) (vz 14) (vz 15) (vz 16) (vz 17) (va 15) (va 16) (vk 6) (va 18) (vF 3) a1 a2 b_ln b_bs b_tk b_lw (by first | with_reducible assumption | omega), ⟨rfl, ⟨hP.sub [0, 9, 11] rfl, hK.sub [6] rfl, hN⟩⟩, fun o t hq hW _ => ?_, fun q _ hq => hq.elim⟩
  obtain ⟨r, ho, hp, hh⟩ := hq
  exact ⟨⟨r, (), ho, trivial, PX_same hV hh hW⟩, by rw [hh]; exact Nat.le_refl _, fun q _ _ => by rw [hh]⟩
set_option maxHeartbeats 4000000 in
set_option maxRecDepth 100000 in
theorem wX9_whose (l : Launch) (dC : Nat → ClassId) (dI : Nat → Nat → Nat) (gh : Nat → Int32) (AX : Nat → Prop) (cc nB h0 : Nat) (a1 : Int32) (a2 : Int32) (hAn : ∀ q, AX q → nB ≤ q) : Met l yX9_whose uX9_whose ({ frames := 2, cells := 0, slots := 0, locals := 45 }) (va_Pc [.ref h0, .int a1, .int a2] (PX dC dI gh AX cc nB h0)) (va_Qi (fun (r : Int32) (_ : Unit) => True) (fun (_ : Unit) t => PX dC dI gh AX cc nB h0 t) AX) 0 0 AX := by
  refine Met.via (fun a U hv => ?_)
  obtain ⟨rfl, hV⟩ := hv
  refine XI.elim hV.1 (fun va vz vk vF vG b_ts b_sn b_sb b_si b_sw b_ss b_xf b_xp b_xt b_xa b_xo b_ln b_bs b_tk b_lw b_ln_0 b_bs_0 b_tk_0 b_lw_0 b_ln_1 b_bs_1 b_tk_1 b_lw_1 b_ln_2 b_bs_2 b_tk_2 b_lw_2 b_wd0 b_wd1 b_wd2 b_wd3 b_rz0 b_rz1 b_rz2 b_rz3 hrd hnl hnm hge hrk hnl0 hnm0 hge0 hrk0 hnl1 hnm1 hge1 hrk1 hnl2 hnm2 hge2 hrk2 hnr hq1 hq3 hg9_0 hg9_1 hg9_2 hg9_3 ha_en htot hP hK hD => ?_)
  have hN := hV.2.1
  have hX := hV.2.2.1
  have hn0 := hV.2.2.2.1
  have hA := hV.2.2.2.2
  refine ⟨_, _, _, kX9_whose l dC dI h0 (va 0) (va 1) (va 2) (va 3) (va 4) (va 5) (va 6) (va 7) (va 8) (va 9) (vz 13) (vz 14) (vz 15) (vz 16) (vz 17) (va 15) (va 16) (vk 6) (va 18) (vF 3) a1 a2 b_ln b_bs b_tk b_lw (by first | with_reducible assumption | omega), ⟨rfl, ⟨hP.sub [0, 9, 11] rfl, hK.sub [6] rfl, hN⟩⟩, fun o t hq hW _ => ?_, fun q _ hq => hq.elim⟩
  obtain ⟨r, ho, hp, hh⟩ := hq
  exact ⟨⟨r, (), ho, trivial, PX_same hV hh hW⟩, by rw [hh]; exact Nat.le_refl _, fun q _ _ => by rw [hh]⟩
set_option maxHeartbeats 4000000 in
set_option maxRecDepth 100000 in
theorem wX9_both (l : Launch) (dC : Nat → ClassId) (dI : Nat → Nat → Nat) (gh : Nat → Int32) (AX : Nat → Prop) (cc nB h0 : Nat) (a1 : Int32) (hAn : ∀ q, AX q → nB ≤ q) : Met l yX9_both uX9_both ({ frames := 2, cells := 0, slots := 0, locals := 42 }) (va_Pc [.ref h0, .int a1] (PX dC dI gh AX cc nB h0)) (va_Qi (fun (r : Int32) (_ : Unit) => True) (fun (_ : Unit) t => PX dC dI gh AX cc nB h0 t) AX) 0 0 AX := by
  refine Met.via (fun a U hv => ?_)
  obtain ⟨rfl, hV⟩ := hv
  refine XI.elim hV.1 (fun va vz vk vF vG b_ts b_sn b_sb b_si b_sw b_ss b_xf b_xp b_xt b_xa b_xo b_ln b_bs b_tk b_lw b_ln_0 b_bs_0 b_tk_0 b_lw_0 b_ln_1 b_bs_1 b_tk_1 b_lw_1 b_ln_2 b_bs_2 b_tk_2 b_lw_2 b_wd0 b_wd1 b_wd2 b_wd3 b_rz0 b_rz1 b_rz2 b_rz3 hrd hnl hnm hge hrk hnl0 hnm0 hge0 hrk0 hnl1 hnm1 hge1 hrk1 hnl2 hnm2 hge2 hrk2 hnr hq1 hq3 hg9_0 hg9_1 hg9_2 hg9_3 ha_en htot hP hK hD => ?_)
  have hN := hV.2.1
  have hX := hV.2.2.1
  have hn0 := hV.2.2.2.1
  have hA := hV.2.2.2.2
  refine ⟨_, _, _, kX9_both l dC dI h0 (va 0) (va 1) (va 2) (va 3) (va 4) (va 5) (va 6) (va 7) (va 8) (va 9) (vz 13) (vz 14) (vz 15) (vz 16) (vz 17) (va 15) (va 16) (vk 6) (va 18) (vF 3) a1 b_ln b_bs b_tk b_lw (by first | with_reducible assumption | omega), ⟨rfl, ⟨hP.sub [0, 9, 11] rfl, hK.sub [6] rfl, hN⟩⟩, fun o t hq hW _ => ?_, fun q _ hq => hq.elim⟩
  obtain ⟨r, ho, hp, hh⟩ := hq
  exact ⟨⟨r, (), ho, trivial, PX_same hV hh hW⟩, by rw [hh]; exact Nat.le_refl _, fun q _ _ => by rw [hh]⟩
set_option maxHeartbeats 4000000 in
set_option maxRecDepth 100000 in
theorem wX9_just (l : Launch) (dC : Nat → ClassId) (dI : Nat → Nat → Nat) (gh : Nat → Int32) (AX : Nat → Prop) (cc nB h0 : Nat) (a1 : Int32) (hAn : ∀ q, AX q → nB ≤ q) : Met l yX9_just uX9_just ({ frames := 2, cells := 0, slots := 0, locals := 42 }) (va_Pc [.ref h0, .int a1] (PX dC dI gh AX cc nB h0)) (va_Qi (fun (r : Int32) (_ : Unit) => True) (fun (_ : Unit) t => PX dC dI gh AX cc nB h0 t) AX) 0 0 AX := by
  refine Met.via (fun a U hv => ?_)
  obtain ⟨rfl, hV⟩ := hv
  refine XI.elim hV.1 (fun va vz vk vF vG b_ts b_sn b_sb b_si b_sw b_ss b_xf b_xp b_xt b_xa b_xo b_ln b_bs b_tk b_lw b_ln_0 b_bs_0 b_tk_0 b_lw_0 b_ln_1 b_bs_1 b_tk_1 b_lw_1 b_ln_2 b_bs_2 b_tk_2 b_lw_2 b_wd0 b_wd1 b_wd2 b_wd3 b_rz0 b_rz1 b_rz2 b_rz3 hrd hnl hnm hge hrk hnl0 hnm0 hge0 hrk0 hnl1 hnm1 hge1 hrk1 hnl2 hnm2 hge2 hrk2 hnr hq1 hq3 hg9_0 hg9_1 hg9_2 hg9_3 ha_en htot hP hK hD => ?_)
  have hN := hV.2.1
  have hX := hV.2.2.1
  have hn0 := hV.2.2.2.1
  have hA := hV.2.2.2.2
  refine ⟨_, _, _, kX9_just l dC dI h0 (va 0) (va 1) (va 2) (va 3) (va 4) (va 5) (va 6) (va 7) (va 8) (va 9) (vz 13) (vz 14) (vz 15) (vz 16) (vz 17) (va 15) (va 16) (vk 6) (va 18) (vF 3) a1 b_ln b_bs b_tk b_lw (by first | with_reducible assumption | omega), ⟨rfl, ⟨hP.sub [0, 9, 11] rfl, hK.sub [6] rfl, hN⟩⟩, fun o t hq hW _ => ?_, fun q _ hq => hq.elim⟩
  obtain ⟨r, ho, hp, hh⟩ := hq
  exact ⟨⟨r, (), ho, trivial, PX_same hV hh hW⟩, by rw [hh]; exact Nat.le_refl _, fun q _ _ => by rw [hh]⟩
set_option maxHeartbeats 4000000 in
set_option maxRecDepth 100000 in
theorem wX9_so (l : Launch) (dC : Nat → ClassId) (dI : Nat → Nat → Nat) (gh : Nat → Int32) (AX : Nat → Prop) (cc nB h0 : Nat) (a1 : Int32) (hAn : ∀ q, AX q → nB ≤ q) : Met l yX9_so uX9_so ({ frames := 2, cells := 0, slots := 0, locals := 42 }) (va_Pc [.ref h0, .int a1] (PX dC dI gh AX cc nB h0)) (va_Qi (fun (r : Int32) (_ : Unit) => True) (fun (_ : Unit) t => PX dC dI gh AX cc nB h0 t) AX) 0 0 AX := by
  refine Met.via (fun a U hv => ?_)
  obtain ⟨rfl, hV⟩ := hv
  refine XI.elim hV.1 (fun va vz vk vF vG b_ts b_sn b_sb b_si b_sw b_ss b_xf b_xp b_xt b_xa b_xo b_ln b_bs b_tk b_lw b_ln_0 b_bs_0 b_tk_0 b_lw_0 b_ln_1 b_bs_1 b_tk_1 b_lw_1 b_ln_2 b_bs_2 b_tk_2 b_lw_2 b_wd0 b_wd1 b_wd2 b_wd3 b_rz0 b_rz1 b_rz2 b_rz3 hrd hnl hnm hge hrk hnl0 hnm0 hge0 hrk0 hnl1 hnm1 hge1 hrk1 hnl2 hnm2 hge2 hrk2 hnr hq1 hq3 hg9_0 hg9_1 hg9_2 hg9_3 ha_en htot hP hK hD => ?_)
  have hN := hV.2.1
  have hX := hV.2.2.1
  have hn0 := hV.2.2.2.1
  have hA := hV.2.2.2.2
  refine ⟨_, _, _, kX9_so l dC dI h0 (va 0) (va 1) (va 2) (va 3) (va 4) (va 5) (va 6) (va 7) (va 8) (va 9) (vz 13) (vz 14) (vz 15) (vz 16) (vz 17) (va 15) (va 16) (vk 6) (va 18) (vF 3) a1 b_ln b_bs b_tk b_lw (by first | with_reducible assumption | omega), ⟨rfl, ⟨hP.sub [0, 9, 11] rfl, hK.sub [6] rfl, hN⟩⟩, fun o t hq hW _ => ?_, fun q _ hq => hq.elim⟩
  obtain ⟨r, ho, hp, hh⟩ := hq
  exact ⟨⟨r, (), ho, trivial, PX_same hV hh hW⟩, by rw [hh]; exact Nat.le_refl _, fun q _ _ => by rw [hh]⟩
set_option maxHeartbeats 4000000 in
set_option maxRecDepth 100000 in
theorem wX9_alike (l : Launch) (dC : Nat → ClassId) (dI : Nat → Nat → Nat) (gh : Nat → Int32) (AX : Nat → Prop) (cc nB h0 : Nat) (a1 : Int32) (a2 : Int32) (hAn : ∀ q, AX q → nB ≤ q) : Met l yX9_alike uX9_alike ({ frames := 3, cells := 0, slots := 0, locals := 66 }) (va_Pc [.ref h0, .int a1, .int a2] (PX dC dI gh AX cc nB h0)) (va_Qi (fun (r : Int32) (_ : Unit) => True) (fun (_ : Unit) t => PX dC dI gh AX cc nB h0 t) AX) 0 0 AX := by
  refine Met.via (fun a U hv => ?_)
  obtain ⟨rfl, hV⟩ := hv
  refine XI.elim hV.1 (fun va vz vk vF vG b_ts b_sn b_sb b_si b_sw b_ss b_xf b_xp b_xt b_xa b_xo b_ln b_bs b_tk b_lw b_ln_0 b_bs_0 b_tk_0 b_lw_0 b_ln_1 b_bs_1 b_tk_1 b_lw_1 b_ln_2 b_bs_2 b_tk_2 b_lw_2 b_wd0 b_wd1 b_wd2 b_wd3 b_rz0 b_rz1 b_rz2 b_rz3 hrd hnl hnm hge hrk hnl0 hnm0 hge0 hrk0 hnl1 hnm1 hge1 hrk1 hnl2 hnm2 hge2 hrk2 hnr hq1 hq3 hg9_0 hg9_1 hg9_2 hg9_3 ha_en htot hP hK hD => ?_)
  have hN := hV.2.1
  have hX := hV.2.2.1
  have hn0 := hV.2.2.2.1
  have hA := hV.2.2.2.2
  refine ⟨_, _, _, kX9_alike l dC dI h0 (va 0) (va 1) (va 2) (va 3) (va 4) (va 5) (va 6) (va 7) (va 8) (va 9) (vz 13) (vz 14) (vz 15) (vz 16) (vz 17) (va 15) (va 16) (vk 6) (va 18) (vF 3) a1 a2 b_ln b_bs b_tk b_lw (by first | with_reducible assumption | omega), ⟨rfl, ⟨hP.sub [0, 9, 11] rfl, hK.sub [6] rfl, hN⟩⟩, fun o t hq hW _ => ?_, fun q _ hq => hq.elim⟩
  obtain ⟨r, ho, hp, hh⟩ := hq
  exact ⟨⟨r, (), ho, trivial, PX_same hV hh hW⟩, by rw [hh]; exact Nat.le_refl _, fun q _ _ => by rw [hh]⟩
