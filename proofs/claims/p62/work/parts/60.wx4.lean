set_option maxHeartbeats 4000000 in
set_option maxRecDepth 100000 in
theorem wX9_sold (l : Launch) (dC : Nat → ClassId) (dI : Nat → Nat → Nat) (gh : Nat → Int32) (AX : Nat → Prop) (cc nB h0 : Nat) (a1 : Int32) (a2 : Int32) (a3 : Int32) (hAn : ∀ q, AX q → nB ≤ q) : Met l yX9_sold uX9_sold ({ frames := 2, cells := 0, slots := 0, locals := 43 }) (va_Pc [.ref h0, .int a1, .int a2, .int a3] (PX dC dI gh AX cc nB h0)) (va_Qi (fun (r : Int32) (_ : Unit) => True) (fun (_ : Unit) t => PX dC dI gh AX cc nB h0 t) AX) 0 0 AX := by
  refine Met.via (fun a U hv => ?_)
  obtain ⟨rfl, hV⟩ := hv
  refine XI.elim hV.1 (fun va vz vk vF vG b_ts b_sn b_sb b_si b_sw b_ss b_xf b_xp b_xt b_xa b_xo b_ln b_bs b_tk b_lw b_ln_0 b_bs_0 b_tk_0 b_lw_0 b_ln_1 b_bs_1 b_tk_1 b_lw_1 b_ln_2 b_bs_2 b_tk_2 b_lw_2 b_wd0 b_wd1 b_wd2 b_wd3 b_rz0 b_rz1 b_rz2 b_rz3 hrd hnl hnm hge hrk hnl0 hnm0 hge0 hrk0 hnl1 hnm1 hge1 hrk1 hnl2 hnm2 hge2 hrk2 hnr hq1 hq3 hg9_0 hg9_1 hg9_2 hg9_3 ha_en htot hP hK hD => ?_)
  have hN := hV.2.1
  have hX := hV.2.2.1
  have hn0 := hV.2.2.2.1
  have hA := hV.2.2.2.2
  refine ⟨_, _, _, kX9_sold l dC dI h0 (va 0) (va 1) (va 2) (va 3) (va 4) (va 5) (va 6) (va 7) (va 8) (va 9) (vz 13) (vz 14) (vz 15) (vz 16) (vz 17) (va 15) (va 16) (vk 6) (va 18) (vF 3) a1 a2 a3 b_ln b_bs b_tk b_lw (by first | with_reducible assumption | omega), ⟨rfl, ⟨hP.sub [0, 9, 11] rfl, hK.sub [6] rfl, hN⟩⟩, fun o t hq hW _ => ?_, fun q _ hq => hq.elim⟩
  obtain ⟨r, ho, hp, hh⟩ := hq
  exact ⟨⟨r, (), ho, trivial, PX_same hV hh hW⟩, by rw [hh]; exact Nat.le_refl _, fun q _ _ => by rw [hh]⟩
set_option maxHeartbeats 4000000 in
set_option maxRecDepth 100000 in
theorem wX9_first (l : Launch) (dC : Nat → ClassId) (dI : Nat → Nat → Nat) (gh : Nat → Int32) (AX : Nat → Prop) (cc nB h0 : Nat) (a1 : Int32) (a2 : Int32) (a3 : Int32) (hAn : ∀ q, AX q → nB ≤ q) : Met l yX9_first uX9_first ({ frames := 1, cells := 0, slots := 0, locals := 22 }) (va_Pc [.ref h0, .int a1, .int a2, .int a3] (PX dC dI gh AX cc nB h0)) (va_Qi (fun (r : Int32) (_ : Unit) => True) (fun (_ : Unit) t => PX dC dI gh AX cc nB h0 t) AX) 0 0 AX := by
  refine Met.via (fun a U hv => ?_)
  obtain ⟨rfl, hV⟩ := hv
  refine XI.elim hV.1 (fun va vz vk vF vG b_ts b_sn b_sb b_si b_sw b_ss b_xf b_xp b_xt b_xa b_xo b_ln b_bs b_tk b_lw b_ln_0 b_bs_0 b_tk_0 b_lw_0 b_ln_1 b_bs_1 b_tk_1 b_lw_1 b_ln_2 b_bs_2 b_tk_2 b_lw_2 b_wd0 b_wd1 b_wd2 b_wd3 b_rz0 b_rz1 b_rz2 b_rz3 hrd hnl hnm hge hrk hnl0 hnm0 hge0 hrk0 hnl1 hnm1 hge1 hrk1 hnl2 hnm2 hge2 hrk2 hnr hq1 hq3 hg9_0 hg9_1 hg9_2 hg9_3 ha_en htot hP hK hD => ?_)
  have hN := hV.2.1
  have hX := hV.2.2.1
  have hn0 := hV.2.2.2.1
  have hA := hV.2.2.2.2
  refine ⟨_, _, _, kX9_first l dC dI h0 (va 0) (va 1) (va 2) (va 3) (va 4) (va 5) (va 6) (va 7) (va 8) (va 9) (vz 13) (vz 14) (vz 15) (vz 16) (vz 17) (va 15) (va 16) (vk 6) (va 18) (vF 3) a1 a2 a3 b_ln b_bs b_tk b_lw (by first | with_reducible assumption | omega), ⟨rfl, ⟨hP.sub [0, 9, 11] rfl, hK.sub [6] rfl, hN⟩⟩, fun o t hq hW _ => ?_, fun q _ hq => hq.elim⟩
  obtain ⟨r, ho, hp, hh⟩ := hq
  exact ⟨⟨r, (), ho, trivial, PX_same hV hh hW⟩, by rw [hh]; exact Nat.le_refl _, fun q _ _ => by rw [hh]⟩
set_option maxHeartbeats 4000000 in
set_option maxRecDepth 100000 in
theorem wX9_seldom (l : Launch) (dC : Nat → ClassId) (dI : Nat → Nat → Nat) (gh : Nat → Int32) (AX : Nat → Prop) (cc nB h0 : Nat) (a1 : Int32) (a2 : Int32) (a3 : Int32) (hAn : ∀ q, AX q → nB ≤ q) : Met l yX9_seldom uX9_seldom ({ frames := 3, cells := 0, slots := 0, locals := 60 }) (va_Pc [.ref h0, .int a1, .int a2, .int a3] (PX dC dI gh AX cc nB h0)) (va_Ql (fun (r : Int64) (_ : Unit) => True) (fun (_ : Unit) t => PX dC dI gh AX cc nB h0 t) AX) 0 0 AX := by
  refine Met.via (fun a U hv => ?_)
  obtain ⟨rfl, hV⟩ := hv
  refine XI.elim hV.1 (fun va vz vk vF vG b_ts b_sn b_sb b_si b_sw b_ss b_xf b_xp b_xt b_xa b_xo b_ln b_bs b_tk b_lw b_ln_0 b_bs_0 b_tk_0 b_lw_0 b_ln_1 b_bs_1 b_tk_1 b_lw_1 b_ln_2 b_bs_2 b_tk_2 b_lw_2 b_wd0 b_wd1 b_wd2 b_wd3 b_rz0 b_rz1 b_rz2 b_rz3 hrd hnl hnm hge hrk hnl0 hnm0 hge0 hrk0 hnl1 hnm1 hge1 hrk1 hnl2 hnm2 hge2 hrk2 hnr hq1 hq3 hg9_0 hg9_1 hg9_2 hg9_3 ha_en htot hP hK hD => ?_)
  have hN := hV.2.1
  have hX := hV.2.2.1
  have hn0 := hV.2.2.2.1
  have hA := hV.2.2.2.2
  refine ⟨_, _, _, kX9_seldom l dC dI h0 (va 0) (va 1) (va 2) (va 3) (va 4) (va 5) (va 6) (va 7) (va 8) (va 9) (vz 13) (vz 14) (vz 15) (vz 16) (vz 17) (va 15) (va 16) (vk 6) (va 18) (vF 3) a1 a2 a3 b_ln b_bs b_tk b_lw (by first | with_reducible assumption | omega), ⟨rfl, ⟨hP.sub [0, 9, 11] rfl, hK.sub [6] rfl, hN⟩⟩, fun o t hq hW _ => ?_, fun q _ hq => hq.elim⟩
  obtain ⟨r, ho, hp, hh⟩ := hq
  exact ⟨⟨r, (), ho, trivial, PX_same hV hh hW⟩, by rw [hh]; exact Nat.le_refl _, fun q _ _ => by rw [hh]⟩
set_option maxHeartbeats 4000000 in
set_option maxRecDepth 100000 in
theorem wX9_sets (l : Launch) (dC : Nat → ClassId) (dI : Nat → Nat → Nat) (gh : Nat → Int32) (AX : Nat → Prop) (cc nB h0 : Nat) (a1 : Int32) (hAn : ∀ q, AX q → nB ≤ q) : Met l yX9_sets uX9_sets ({ frames := 2, cells := 0, slots := 0, locals := 39 }) (va_Pc [.ref h0, .int a1] (PX dC dI gh AX cc nB h0)) (va_Ql (fun (r : Int64) (_ : Unit) => True) (fun (_ : Unit) t => PX dC dI gh AX cc nB h0 t) AX) 0 0 AX := by
  refine Met.via (fun a U hv => ?_)
  obtain ⟨rfl, hV⟩ := hv
  refine XI.elim hV.1 (fun va vz vk vF vG b_ts b_sn b_sb b_si b_sw b_ss b_xf b_xp b_xt b_xa b_xo b_ln b_bs b_tk b_lw b_ln_0 b_bs_0 b_tk_0 b_lw_0 b_ln_1 b_bs_1 b_tk_1 b_lw_1 b_ln_2 b_bs_2 b_tk_2 b_lw_2 b_wd0 b_wd1 b_wd2 b_wd3 b_rz0 b_rz1 b_rz2 b_rz3 hrd hnl hnm hge hrk hnl0 hnm0 hge0 hrk0 hnl1 hnm1 hge1 hrk1 hnl2 hnm2 hge2 hrk2 hnr hq1 hq3 hg9_0 hg9_1 hg9_2 hg9_3 ha_en htot hP hK hD => ?_)
  have hN := hV.2.1
  have hX := hV.2.2.1
  have hn0 := hV.2.2.2.1
  have hA := hV.2.2.2.2
  refine ⟨_, _, _, kX9_sets l dC dI h0 (va 0) (va 1) (va 2) (va 3) (va 4) (va 5) (va 6) (va 7) (va 8) (va 9) (vz 13) (vz 14) (vz 15) (vz 16) (vz 17) (va 15) (va 16) a1 b_ln b_bs b_tk b_lw, ⟨rfl, ⟨hP.sub [0, 9] rfl, hK.sub [] rfl, hN⟩⟩, fun o t hq hW _ => ?_, fun q _ hq => hq.elim⟩
  obtain ⟨r, ho, hp, hh⟩ := hq
  exact ⟨⟨r, (), ho, trivial, PX_same hV hh hW⟩, by rw [hh]; exact Nat.le_refl _, fun q _ _ => by rw [hh]⟩
set_option maxHeartbeats 4000000 in
set_option maxRecDepth 100000 in
theorem wX9_judge (l : Launch) (dC : Nat → ClassId) (dI : Nat → Nat → Nat) (gh : Nat → Int32) (AX : Nat → Prop) (cc nB h0 : Nat) (a1 : Int32) (a2 : Int32) (hAn : ∀ q, AX q → nB ≤ q) : Met l yX9_judge uX9_judge ({ frames := 2, cells := 0, slots := 0, locals := 45 }) (va_Pc [.ref h0, .int a1, .int a2] (PX dC dI gh AX cc nB h0)) (va_Qi (fun (r : Int32) (_ : Unit) => True) (fun (_ : Unit) t => PX dC dI gh AX cc nB h0 t) AX) 0 0 AX := by
  refine Met.via (fun a U hv => ?_)
  obtain ⟨rfl, hV⟩ := hv
  refine XI.elim hV.1 (fun va vz vk vF vG b_ts b_sn b_sb b_si b_sw b_ss b_xf b_xp b_xt b_xa b_xo b_ln b_bs b_tk b_lw b_ln_0 b_bs_0 b_tk_0 b_lw_0 b_ln_1 b_bs_1 b_tk_1 b_lw_1 b_ln_2 b_bs_2 b_tk_2 b_lw_2 b_wd0 b_wd1 b_wd2 b_wd3 b_rz0 b_rz1 b_rz2 b_rz3 hrd hnl hnm hge hrk hnl0 hnm0 hge0 hrk0 hnl1 hnm1 hge1 hrk1 hnl2 hnm2 hge2 hrk2 hnr hq1 hq3 hg9_0 hg9_1 hg9_2 hg9_3 ha_en htot hP hK hD => ?_)
  have hN := hV.2.1
  have hX := hV.2.2.1
  have hn0 := hV.2.2.2.1
  have hA := hV.2.2.2.2
  refine ⟨_, _, _, kX9_judge l dC dI h0 (va 0) (va 1) (va 2) (va 3) (va 4) (va 5) (va 6) (va 7) (va 8) (va 9) (vz 13) (vz 14) (vz 15) (vz 16) (vz 17) (va 15) (va 16) (vk 15) (va 34) (va 35) (va 36) (va 37) (va 38) (va 39) (va 40) (va 41) (vz 33) (vz 34) (vz 35) (vz 36) (vz 37) (vz 38) (vz 39) (vz 40) (vk 16) (vk 17) (vk 18) (vk 19) (vG 6) (vG 7) (vG 8) (vG 9) (vk 6) (va 18) (vF 3) a1 a2 b_ln b_bs b_tk b_lw b_wd0 b_wd1 b_wd2 b_wd3 b_rz0 b_rz1 b_rz2 b_rz3 (by first | with_reducible assumption | omega), ⟨rfl, ⟨hP.sub [0, 9, 23, 24, 25, 26, 27, 28, 29, 30, 31, 11] rfl, hK.sub [15, 16, 17, 18, 19, 6] rfl, hN⟩⟩, fun o t hq hW _ => ?_, fun q _ hq => hq.elim⟩
  obtain ⟨r, ho, hp, hh⟩ := hq
  exact ⟨⟨r, (), ho, trivial, PX_same hV hh hW⟩, by rw [hh]; exact Nat.le_refl _, fun q _ _ => by rw [hh]⟩
set_option maxHeartbeats 4000000 in
set_option maxRecDepth 100000 in
theorem wX9_kept (l : Launch) (dC : Nat → ClassId) (dI : Nat → Nat → Nat) (gh : Nat → Int32) (AX : Nat → Prop) (cc nB h0 : Nat) (a1 : Int32) (a2 : Int32) (hAn : ∀ q, AX q → nB ≤ q) : Met l yX9_kept uX9_kept ({ frames := 2, cells := 0, slots := 0, locals := 45 }) (va_Pc [.ref h0, .int a1, .int a2] (PX dC dI gh AX cc nB h0)) (va_Qi (fun (r : Int32) (_ : Unit) => True) (fun (_ : Unit) t => PX dC dI gh AX cc nB h0 t) AX) 0 0 AX := by
  refine Met.via (fun a U hv => ?_)
  obtain ⟨rfl, hV⟩ := hv
  refine XI.elim hV.1 (fun va vz vk vF vG b_ts b_sn b_sb b_si b_sw b_ss b_xf b_xp b_xt b_xa b_xo b_ln b_bs b_tk b_lw b_ln_0 b_bs_0 b_tk_0 b_lw_0 b_ln_1 b_bs_1 b_tk_1 b_lw_1 b_ln_2 b_bs_2 b_tk_2 b_lw_2 b_wd0 b_wd1 b_wd2 b_wd3 b_rz0 b_rz1 b_rz2 b_rz3 hrd hnl hnm hge hrk hnl0 hnm0 hge0 hrk0 hnl1 hnm1 hge1 hrk1 hnl2 hnm2 hge2 hrk2 hnr hq1 hq3 hg9_0 hg9_1 hg9_2 hg9_3 ha_en htot hP hK hD => ?_)
  have hN := hV.2.1
  have hX := hV.2.2.1
  have hn0 := hV.2.2.2.1
  have hA := hV.2.2.2.2
  refine ⟨_, _, _, kX9_kept l dC dI h0 (va 0) (va 1) (va 2) (va 3) (va 4) (va 5) (va 6) (va 7) (va 8) (va 9) (vz 13) (vz 14) (vz 15) (vz 16) (vz 17) (va 15) (va 16) (vk 15) (va 34) (va 35) (va 36) (va 37) (va 38) (va 39) (va 40) (va 41) (vz 33) (vz 34) (vz 35) (vz 36) (vz 37) (vz 38) (vz 39) (vz 40) (vk 16) (vk 17) (vk 18) (vk 19) (vG 6) (vG 7) (vG 8) (vG 9) (vk 6) (va 18) (vF 3) a1 a2 b_ln b_bs b_tk b_lw b_wd0 b_wd1 b_wd2 b_wd3 b_rz0 b_rz1 b_rz2 b_rz3 (by first | with_reducible assumption | omega), ⟨rfl, ⟨hP.sub [0, 9, 23, 24, 25, 26, 27, 28, 29, 30, 31, 11] rfl, hK.sub [15, 16, 17, 18, 19, 6] rfl, hN⟩⟩, fun o t hq hW _ => ?_, fun q _ hq => hq.elim⟩
  obtain ⟨r, ho, hp, hh⟩ := hq
  exact ⟨⟨r, (), ho, trivial, PX_same hV hh hW⟩, by rw [hh]; exact Nat.le_refl _, fun q _ _ => by rw [hh]⟩
set_option maxHeartbeats 4000000 in
set_option maxRecDepth 100000 in
theorem wX9_between (l : Launch) (dC : Nat → ClassId) (dI : Nat → Nat → Nat) (gh : Nat → Int32) (AX : Nat → Prop) (cc nB h0 : Nat) (a1 : Int32) (a2 : Int32) (a3 : Int32) (hAn : ∀ q, AX q → nB ≤ q) : Met l yX9_between uX9_between ({ frames := 2, cells := 0, slots := 0, locals := 43 }) (va_Pc [.ref h0, .int a1, .int a2, .int a3] (PX dC dI gh AX cc nB h0)) (va_Qi (fun (r : Int32) (_ : Unit) => True) (fun (_ : Unit) t => PX dC dI gh AX cc nB h0 t) AX) 0 0 AX := by
  refine Met.via (fun a U hv => ?_)
  obtain ⟨rfl, hV⟩ := hv
  refine XI.elim hV.1 (fun va vz vk vF vG b_ts b_sn b_sb b_si b_sw b_ss b_xf b_xp b_xt b_xa b_xo b_ln b_bs b_tk b_lw b_ln_0 b_bs_0 b_tk_0 b_lw_0 b_ln_1 b_bs_1 b_tk_1 b_lw_1 b_ln_2 b_bs_2 b_tk_2 b_lw_2 b_wd0 b_wd1 b_wd2 b_wd3 b_rz0 b_rz1 b_rz2 b_rz3 hrd hnl hnm hge hrk hnl0 hnm0 hge0 hrk0 hnl1 hnm1 hge1 hrk1 hnl2 hnm2 hge2 hrk2 hnr hq1 hq3 hg9_0 hg9_1 hg9_2 hg9_3 ha_en htot hP hK hD => ?_)
  have hN := hV.2.1
  have hX := hV.2.2.1
  have hn0 := hV.2.2.2.1
  have hA := hV.2.2.2.2
  refine ⟨_, _, _, kX9_between l dC dI h0 (va 0) (va 1) (va 2) (va 3) (va 4) (va 5) (va 6) (va 7) (va 8) (va 9) (vz 13) (vz 14) (vz 15) (vz 16) (vz 17) (va 15) (va 16) (vk 6) (va 18) (vF 3) a1 a2 a3 b_ln b_bs b_tk b_lw (by first | with_reducible assumption | omega), ⟨rfl, ⟨hP.sub [0, 9, 11] rfl, hK.sub [6] rfl, hN⟩⟩, fun o t hq hW _ => ?_, fun q _ hq => hq.elim⟩
  obtain ⟨r, ho, hp, hh⟩ := hq
  exact ⟨⟨r, (), ho, trivial, PX_same hV hh hW⟩, by rw [hh]; exact Nat.le_refl _, fun q _ _ => by rw [hh]⟩
set_option maxHeartbeats 4000000 in
set_option maxRecDepth 100000 in
theorem wX9_run (l : Launch) (dC : Nat → ClassId) (dI : Nat → Nat → Nat) (gh : Nat → Int32) (AX : Nat → Prop) (cc nB h0 : Nat) (a1 : Int32) (a2 : Int32) (hAn : ∀ q, AX q → nB ≤ q) : Met l yX9_run uX9_run ({ frames := 1, cells := 0, slots := 0, locals := 22 }) (va_Pc [.ref h0, .int a1, .int a2] (PX dC dI gh AX cc nB h0)) (va_Qi (fun (r : Int32) (_ : Unit) => True) (fun (_ : Unit) t => PX dC dI gh AX cc nB h0 t) AX) 0 0 AX := by
  refine Met.via (fun a U hv => ?_)
  obtain ⟨rfl, hV⟩ := hv
  refine XI.elim hV.1 (fun va vz vk vF vG b_ts b_sn b_sb b_si b_sw b_ss b_xf b_xp b_xt b_xa b_xo b_ln b_bs b_tk b_lw b_ln_0 b_bs_0 b_tk_0 b_lw_0 b_ln_1 b_bs_1 b_tk_1 b_lw_1 b_ln_2 b_bs_2 b_tk_2 b_lw_2 b_wd0 b_wd1 b_wd2 b_wd3 b_rz0 b_rz1 b_rz2 b_rz3 hrd hnl hnm hge hrk hnl0 hnm0 hge0 hrk0 hnl1 hnm1 hge1 hrk1 hnl2 hnm2 hge2 hrk2 hnr hq1 hq3 hg9_0 hg9_1 hg9_2 hg9_3 ha_en htot hP hK hD => ?_)
  have hN := hV.2.1
  have hX := hV.2.2.1
  have hn0 := hV.2.2.2.1
  have hA := hV.2.2.2.2
  refine ⟨_, _, _, kX9_run l dC dI h0 (va 0) (va 1) (va 2) (va 3) (va 4) (va 5) (va 6) (va 7) (va 8) (va 9) (vz 13) (vz 14) (vz 15) (vz 16) (vz 17) (va 15) (va 16) (vk 6) (va 18) (vF 3) a1 a2 b_ln b_bs b_tk b_lw (by first | with_reducible assumption | omega), ⟨rfl, ⟨hP.sub [0, 9, 11] rfl, hK.sub [6] rfl, hN⟩⟩, fun o t hq hW _ => ?_, fun q _ hq => hq.elim⟩
  obtain ⟨r, ho, hp, hh⟩ := hq
  exact ⟨⟨r, (), ho, trivial, PX_same hV hh hW⟩, by rw [hh]; exact Nat.le_refl _, fun q _ _ => by rw [hh]⟩
