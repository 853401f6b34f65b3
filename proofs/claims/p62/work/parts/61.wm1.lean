set_option maxHeartbeats 4000000 in
set_option maxRecDepth 100000 in
theorem wX10_many (l : Launch) (dC : Nat → ClassId) (dI : Nat → Nat → Nat) (gh : Nat → Int32) (AX : Nat → Prop) (tt nB o0 : Nat) (a1 : Int32) (hAn : ∀ q, AX q → nB ≤ q) : Met l yX10_many uX10_many ({ frames := 2, cells := 0, slots := 0, locals := 46 }) (va_Pc [.ref o0, .int a1] (PM dC dI gh AX tt nB o0)) (va_Qi (fun (r : Int32) (_ : Unit) => True) (fun (_ : Unit) t => PM dC dI gh AX tt nB o0 t) AX) 0 0 AX := by
  refine Met.via (fun a U hv => ?_)
  obtain ⟨rfl, hV⟩ := hv
  refine MI.elim hV.1 (fun va vz vl vk vF vG b_x_sz b_x_at b_x_fr b_x_to b_x_fk b_x_td hgw hgi hgR9 ha_mfg ha_mma ha_mwi ha_mpl hP hK hD => ?_)
  have htt0 := hV.2.1
  have hN := hV.2.2.1
  have hX := hV.2.2.2.1
  have hn0 := hV.2.2.2.2.1
  have hA := hV.2.2.2.2.2
  obtain ⟨hgr, hwz, hpv, htp⟩ := id hgw
  obtain ⟨ln, hw0⟩ : ∃ y : Int32, (vF 0) 0 = y := ⟨_, rfl⟩
  obtain ⟨bs, hw1⟩ : ∃ y : Int32, (vF 0) 1 = y := ⟨_, rfl⟩
  obtain ⟨tk, hw2⟩ : ∃ y : Int32, (vF 0) 2 = y := ⟨_, rfl⟩
  obtain ⟨lw, hw3⟩ : ∃ y : Int32, (vF 0) 3 = y := ⟨_, rfl⟩
  obtain ⟨li, hw4⟩ : ∃ y : Int32, (vF 0) 4 = y := ⟨_, rfl⟩
  rw [hw0, hw1, hw2, hw3] at hgr hwz
  rw [hw0, hw1, hw2] at htp
  rw [hw3] at hpv
  obtain ⟨b_ln, b_bs, b_tk, b_lw⟩ := hgr
  refine ⟨_, _, _, kX10_many l dC dI o0 (vz 0) (va 0) (va 1) (va 2) (va 3) (va 4) (vz 1) (va 5) (vz 2) (vz 3) (vz 4) (vz 5) (vz 6) (vz 7) (vz 8) (va 6) (va 7) (vz 9) (vz 10) (vz 11) (va 8) (va 9) (vl 0) (va 10) (va 11) (va 12) (va 13) (va 14) (va 15) (va 16) (va 17) (va 18) (va 19) (vk 0) (vk 3) (vF 0) (vF 3) ln bs tk lw li a1 b_ln b_bs b_tk b_lw (by first | with_reducible assumption | omega) (by first | with_reducible assumption | omega) (by first | with_reducible assumption | omega) (by first | with_reducible assumption | omega) (by first | with_reducible assumption | omega) (by first | with_reducible assumption | omega), ⟨rfl, ⟨hP.sub [0, 1, 4] rfl, hK.sub [0, 3] rfl, hN⟩⟩, fun o t hq hW _ => ?_, fun q _ hq => hq.elim⟩
  obtain ⟨r, ho, hp, hh⟩ := hq
  exact ⟨⟨r, (), ho, trivial, PM_same hV hh hW⟩, by rw [hh]; exact Nat.le_refl _, fun q _ _ => by rw [hh]⟩
set_option maxHeartbeats 4000000 in
set_option maxRecDepth 100000 in
theorem wX10_rank (l : Launch) (dC : Nat → ClassId) (dI : Nat → Nat → Nat) (gh : Nat → Int32) (AX : Nat → Prop) (tt nB o0 : Nat) (a1 : Int32) (a2 : Int32) (hAn : ∀ q, AX q → nB ≤ q) : Met l yX10_rank uX10_rank ({ frames := 2, cells := 0, slots := 0, locals := 46 }) (va_Pc [.ref o0, .int a1, .int a2] (PM dC dI gh AX tt nB o0)) (va_Qi (fun (r : Int32) (_ : Unit) => True) (fun (_ : Unit) t => PM dC dI gh AX tt nB o0 t) AX) 0 0 AX := by
  refine Met.via (fun a U hv => ?_)
  obtain ⟨rfl, hV⟩ := hv
  refine MI.elim hV.1 (fun va vz vl vk vF vG b_x_sz b_x_at b_x_fr b_x_to b_x_fk b_x_td hgw hgi hgR9 ha_mfg ha_mma ha_mwi ha_mpl hP hK hD => ?_)
  have htt0 := hV.2.1
  have hN := hV.2.2.1
  have hX := hV.2.2.2.1
  have hn0 := hV.2.2.2.2.1
  have hA := hV.2.2.2.2.2
  obtain ⟨hgr, hwz, hpv, htp⟩ := id hgw
  obtain ⟨ln, hw0⟩ : ∃ y : Int32, (vF 0) 0 = y := ⟨_, rfl⟩
  obtain ⟨bs, hw1⟩ : ∃ y : Int32, (vF 0) 1 = y := ⟨_, rfl⟩
  obtain ⟨tk, hw2⟩ : ∃ y : Int32, (vF 0) 2 = y := ⟨_, rfl⟩
  obtain ⟨lw, hw3⟩ : ∃ y : Int32, (vF 0) 3 = y := ⟨_, rfl⟩
  obtain ⟨li, hw4⟩ : ∃ y : Int32, (vF 0) 4 = y := ⟨_, rfl⟩
  rw [hw0, hw1, hw2, hw3] at hgr hwz
  rw [hw0, hw1, hw2] at htp
  rw [hw3] at hpv
  obtain ⟨b_ln, b_bs, b_tk, b_lw⟩ := hgr
  refine ⟨_, _, _, kX10_rank l dC dI o0 (vz 0) (va 0) (va 1) (va 2) (va 3) (va 4) (vz 1) (va 5) (vz 2) (vz 3) (vz 4) (vz 5) (vz 6) (vz 7) (vz 8) (va 6) (va 7) (vz 9) (vz 10) (vz 11) (va 8) (va 9) (vl 0) (va 10) (va 11) (va 12) (va 13) (va 14) (va 15) (va 16) (va 17) (va 18) (va 19) (vk 0) (vk 3) (vF 0) (vF 3) ln bs tk lw li a1 a2 b_ln b_bs b_tk b_lw (by first | with_reducible assumption | omega) (by first | with_reducible assumption | omega) (by first | with_reducible assumption | omega) (by first | with_reducible assumption | omega) (by first | with_reducible assumption | omega) (by first | with_reducible assumption | omega), ⟨rfl, ⟨hP.sub [0, 1, 4] rfl, hK.sub [0, 3] rfl, hN⟩⟩, fun o t hq hW _ => ?_, fun q _ hq => hq.elim⟩
  obtain ⟨r, ho, hp, hh⟩ := hq
  exact ⟨⟨r, (), ho, trivial, PM_same hV hh hW⟩, by rw [hh]; exact Nat.le_refl _, fun q _ _ => by rw [hh]⟩
set_option maxHeartbeats 4000000 in
set_option maxRecDepth 100000 in
theorem wX10_next (l : Launch) (dC : Nat → ClassId) (dI : Nat → Nat → Nat) (gh : Nat → Int32) (AX : Nat → Prop) (tt nB o0 : Nat) (a1 : Int32) (a2 : Int32) (hAn : ∀ q, AX q → nB ≤ q) : Met l yX10_next uX10_next ({ frames := 3, cells := 0, slots := 0, locals := 69 }) (va_Pc [.ref o0, .int a1, .int a2] (PM dC dI gh AX tt nB o0)) (va_Qi (fun (r : Int32) (_ : Unit) => True) (fun (_ : Unit) t => PM dC dI gh AX tt nB o0 t) AX) 0 0 AX := by
  refine Met.via (fun a U hv => ?_)
  obtain ⟨rfl, hV⟩ := hv
  refine MI.elim hV.1 (fun va vz vl vk vF vG b_x_sz b_x_at b_x_fr b_x_to b_x_fk b_x_td hgw hgi hgR9 ha_mfg ha_mma ha_mwi ha_mpl hP hK hD => ?_)
  have htt0 := hV.2.1
  have hN := hV.2.2.1
  have hX := hV.2.2.2.1
  have hn0 := hV.2.2.2.2.1
  have hA := hV.2.2.2.2.2
  obtain ⟨hgr, hwz, hpv, htp⟩ := id hgw
  obtain ⟨ln, hw0⟩ : ∃ y : Int32, (vF 0) 0 = y := ⟨_, rfl⟩
  obtain ⟨bs, hw1⟩ : ∃ y : Int32, (vF 0) 1 = y := ⟨_, rfl⟩
  obtain ⟨tk, hw2⟩ : ∃ y : Int32, (vF 0) 2 = y := ⟨_, rfl⟩
  obtain ⟨lw, hw3⟩ : ∃ y : Int32, (vF 0) 3 = y := ⟨_, rfl⟩
  obtain ⟨li, hw4⟩ : ∃ y : Int32, (vF 0) 4 = y := ⟨_, rfl⟩
  rw [hw0, hw1, hw2, hw3] at hgr hwz
  rw [hw0, hw1, hw2] at htp
  rw [hw3] at hpv
  obtain ⟨b_ln, b_bs, b_tk, b_lw⟩ := hgr
  refine ⟨_, _, _, kX10_next l dC dI o0 (vz 0) (va 0) (va 1) (va 2) (va 3) (va 4) (vz 1) (va 5) (vz 2) (vz 3) (vz 4) (vz 5) (vz 6) (vz 7) (vz 8) (va 6) (va 7) (vz 9) (vz 10) (vz 11) (va 8) (va 9) (vl 0) (va 10) (va 11) (va 12) (va 13) (va 14) (va 15) (va 16) (va 17) (va 18) (va 19) (vk 0) (vk 3) (vF 0) (vF 3) ln bs tk lw li a1 a2 b_ln b_bs b_tk b_lw (by first | with_reducible assumption | omega) (by first | with_reducible assumption | omega) (by first | with_reducible assumption | omega) (by first | with_reducible assumption | omega) (by first | with_reducible assumption | omega) (by first | with_reducible assumption | omega), ⟨rfl, ⟨hP.sub [0, 1, 4] rfl, hK.sub [0, 3] rfl, hN⟩⟩, fun o t hq hW _ => ?_, fun q _ hq => hq.elim⟩
  obtain ⟨r, ho, hp, hh⟩ := hq
  exact ⟨⟨r, (), ho, trivial, PM_same hV hh hW⟩, by rw [hh]; exact Nat.le_refl _, fun q _ _ => by rw [hh]⟩
set_option maxHeartbeats 4000000 in
set_option maxRecDepth 100000 in
theorem wX10_last (l : Launch) (dC : Nat → ClassId) (dI : Nat → Nat → Nat) (gh : Nat → Int32) (AX : Nat → Prop) (tt nB o0 : Nat) (a1 : Int32) (a2 : Int32) (hAn : ∀ q, AX q → nB ≤ q) : Met l yX10_last uX10_last ({ frames := 3, cells := 0, slots := 0, locals := 69 }) (va_Pc [.ref o0, .int a1, .int a2] (PM dC dI gh AX tt nB o0)) (va_Qi (fun (r : Int32) (_ : Unit) => True) (fun (_ : Unit) t => PM dC dI gh AX tt nB o0 t) AX) 0 0 AX := by
  refine Met.via (fun a U hv => ?_)
  obtain ⟨rfl, hV⟩ := hv
  refine MI.elim hV.1 (fun va vz vl vk vF vG b_x_sz b_x_at b_x_fr b_x_to b_x_fk b_x_td hgw hgi hgR9 ha_mfg ha_mma ha_mwi ha_mpl hP hK hD => ?_)
  have htt0 := hV.2.1
  have hN := hV.2.2.1
  have hX := hV.2.2.2.1
  have hn0 := hV.2.2.2.2.1
  have hA := hV.2.2.2.2.2
  obtain ⟨hgr, hwz, hpv, htp⟩ := id hgw
  obtain ⟨ln, hw0⟩ : ∃ y : Int32, (vF 0) 0 = y := ⟨_, rfl⟩
  obtain ⟨bs, hw1⟩ : ∃ y : Int32, (vF 0) 1 = y := ⟨_, rfl⟩
  obtain ⟨tk, hw2⟩ : ∃ y : Int32, (vF 0) 2 = y := ⟨_, rfl⟩
  obtain ⟨lw, hw3⟩ : ∃ y : Int32, (vF 0) 3 = y := ⟨_, rfl⟩
  obtain ⟨li, hw4⟩ : ∃ y : Int32, (vF 0) 4 = y := ⟨_, rfl⟩
  rw [hw0, hw1, hw2, hw3] at hgr hwz
  rw [hw0, hw1, hw2] at htp
  rw [hw3] at hpv
  obtain ⟨b_ln, b_bs, b_tk, b_lw⟩ := hgr
  refine ⟨_, _, _, kX10_last l dC dI o0 (vz 0) (va 0) (va 1) (va 2) (va 3) (va 4) (vz 1) (va 5) (vz 2) (vz 3) (vz 4) (vz 5) (vz 6) (vz 7) (vz 8) (va 6) (va 7) (vz 9) (vz 10) (vz 11) (va 8) (va 9) (vl 0) (va 10) (va 11) (va 12) (va 13) (va 14) (va 15) (va 16) (va 17) (va 18) (va 19) (vk 0) (vk 3) (vF 0) (vF 3) ln bs tk lw li a1 a2 b_ln b_bs b_tk b_lw (by first | with_reducible assumption | omega) (by first | with_reducible assumption | omega) (by first | with_reducible assumption | omega) (by first | with_reducible assumption | omega) (by first | with_reducible assumption | omega) (by first | with_reducible assumption | omega), ⟨rfl, ⟨hP.sub [0, 1, 4] rfl, hK.sub [0, 3] rfl, hN⟩⟩, fun o t hq hW _ => ?_, fun q _ hq => hq.elim⟩
  obtain ⟨r, ho, hp, hh⟩ := hq
  exact ⟨⟨r, (), ho, trivial, PM_same hV hh hW⟩, by rw [hh]; exact Nat.le_refl _, fun q _ _ => by rw [hh]⟩
set_option maxHeartbeats 4000000 in
set_option maxRecDepth 100000 in
theorem wX10_nth (l : Launch) (dC : Nat → ClassId) (dI : Nat → Nat → Nat) (gh : Nat → Int32) (AX : Nat → Prop) (tt nB o0 : Nat) (a1 : Int32) (a2 : Int32) (hAn : ∀ q, AX q → nB ≤ q) : Met l yX10_nth uX10_nth ({ frames := 2, cells := 0, slots := 0, locals := 46 }) (va_Pc [.ref o0, .int a1, .int a2] (PM dC dI gh AX tt nB o0)) (va_Qi (fun (r : Int32) (_ : Unit) => True) (fun (_ : Unit) t => PM dC dI gh AX tt nB o0 t) AX) 0 0 AX := by
  refine Met.via (fun a U hv => ?_)
  obtain ⟨rfl, hV⟩ := hv
  refine MI.elim hV.1 (fun va vz vl vk vF vG b_x_sz b_x_at b_x_fr b_x_to b_x_fk b_x_td hgw hgi hgR9 ha_mfg ha_mma ha_mwi ha_mpl hP hK hD => ?_)
  have htt0 := hV.2.1
  have hN := hV.2.2.1
  have hX := hV.2.2.2.1
  have hn0 := hV.2.2.2.2.1
  have hA := hV.2.2.2.2.2
  obtain ⟨hgr, hwz, hpv, htp⟩ := id hgw
  obtain ⟨ln, hw0⟩ : ∃ y : Int32, (vF 0) 0 = y := ⟨_, rfl⟩
  obtain ⟨bs, hw1⟩ : ∃ y : Int32, (vF 0) 1 = y := ⟨_, rfl⟩
  obtain ⟨tk, hw2⟩ : ∃ y : Int32, (vF 0) 2 = y := ⟨_, rfl⟩
  obtain ⟨lw, hw3⟩ : ∃ y : Int32, (vF 0) 3 = y := ⟨_, rfl⟩
  obtain ⟨li, hw4⟩ : ∃ y : Int32, (vF 0) 4 = y := ⟨_, rfl⟩
  rw [hw0, hw1, hw2, hw3] at hgr hwz
  rw [hw0, hw1, hw2] at htp
  rw [hw3] at hpv
  obtain ⟨b_ln, b_bs, b_tk, b_lw⟩ := hgr
  refine ⟨_, _, _, kX10_nth l dC dI o0 (vz 0) (va 0) (va 1) (va 2) (va 3) (va 4) (vz 1) (va 5) (vz 2) (vz 3) (vz 4) (vz 5) (vz 6) (vz 7) (vz 8) (va 6) (va 7) (vz 9) (vz 10) (vz 11) (va 8) (va 9) (vl 0) (va 10) (va 11) (va 12) (va 13) (va 14) (va 15) (va 16) (va 17) (va 18) (va 19) (vk 0) (vk 3) (vF 0) (vF 3) ln bs tk lw li a1 a2 b_ln b_bs b_tk b_lw (by first | with_reducible assumption | omega) (by first | with_reducible assumption | omega) (by first | with_reducible assumption | omega) (by first | with_reducible assumption | omega) (by first | with_reducible assumption | omega) (by first | with_reducible assumption | omega), ⟨rfl, ⟨hP.sub [0, 1, 4] rfl, hK.sub [0, 3] rfl, hN⟩⟩, fun o t hq hW _ => ?_, fun q _ hq => hq.elim⟩
  obtain ⟨r, ho, hp, hh⟩ := hq
  exact ⟨⟨r, (), ho, trivial, PM_same hV hh hW⟩, by rw [hh]; exact Nat.le_refl _, fun q _ _ => by rw [hh]⟩
set_option maxHeartbeats 4000000 in
set_option maxRecDepth 100000 in
theorem wX10_gap (l : Launch) (dC : Nat → ClassId) (dI : Nat → Nat → Nat) (gh : Nat → Int32) (AX : Nat → Prop) (tt nB o0 : Nat) (a1 : Int32) (a2 : Int32) (hAn : ∀ q, AX q → nB ≤ q) : Met l yX10_gap uX10_gap ({ frames := 2, cells := 0, slots := 0, locals := 46 }) (va_Pc [.ref o0, .int a1, .int a2] (PM dC dI gh AX tt nB o0)) (va_Qi (fun (r : Int32) (_ : Unit) => True) (fun (_ : Unit) t => PM dC dI gh AX tt nB o0 t) AX) 0 0 AX := by
  refine Met.via (fun a U hv => ?_)
  obtain ⟨rfl, hV⟩ := hv
  refine MI.elim hV.1 (fun va vz vl vk vF vG b_x_sz b_x_at b_x_fr b_x_to b_x_fk b_x_td hgw hgi hgR9 ha_mfg ha_mma ha_mwi ha_mpl hP hK hD => ?_)
  have htt0 := hV.2.1
  have hN := hV.2.2.1
  have hX := hV.2.2.2.1
  have hn0 := hV.2.2.2.2.1
  have hA := hV.2.2.2.2.2
  obtain ⟨hgr, hwz, hpv, htp⟩ := id hgw
  obtain ⟨ln, hw0⟩ : ∃ y : Int32, (vF 0) 0 = y := ⟨_, rfl⟩
  obtain ⟨bs, hw1⟩ : ∃ y : Int32, (vF 0) 1 = y := ⟨_, rfl⟩
  obtain ⟨tk, hw2⟩ : ∃ y : Int32, (vF 0) 2 = y := ⟨_, rfl⟩
  obtain ⟨lw, hw3⟩ : ∃ y : Int32, (vF 0) 3 = y := ⟨_, rfl⟩
  obtain ⟨li, hw4⟩ : ∃ y : Int32, (vF 0) 4 = y := ⟨_, rfl⟩
  rw [hw0, hw1, hw2, hw3] at hgr hwz
  rw [hw0, hw1, hw2] at htp
  rw [hw3] at hpv
  obtain ⟨b_ln, b_bs, b_tk, b_lw⟩ := hgr
  refine ⟨_, _, _, kX10_gap l dC dI o0 (vz 0) (va 0) (va 1) (va 2) (va 3) (va 4) (vz 1) (va 5) (vz 2) (vz 3) (vz 4) (vz 5) (vz 6) (vz 7) (vz 8) (va 6) (va 7) (vz 9) (vz 10) (vz 11) (va 8) (va 9) (vl 0) (va 10) (va 11) (va 12) (va 13) (va 14) (va 15) (va 16) (va 17) (va 18) (va 19) (vk 0) (vk 3) (vF 0) (vF 3) ln bs tk lw li a1 a2 b_ln b_bs b_tk b_lw (by first | with_reducible assumption | omega) (by first | with_reducible assumption | omega) (by first | with_reducible assumption | omega) (by first | with_reducible assumption | omega) (by first | with_reducible assumption | omega) (by first | with_reducible assumption | omega), ⟨rfl, ⟨hP.sub [0, 1, 4] rfl, hK.sub [0, 3] rfl, hN⟩⟩, fun o t hq hW _ => ?_, fun q _ hq => hq.elim⟩
  obtain ⟨r, ho, hp, hh⟩ := hq
  exact ⟨⟨r, (), ho, trivial, PM_same hV hh hW⟩, by rw [hh]; exact Nat.le_refl _, fun q _ _ => by rw [hh]⟩
set_option maxHeartbeats 4000000 in
set_option maxRecDepth 100000 in
theorem wX10_waits (l : Launch) (dC : Nat → ClassId) (dI : Nat → Nat → Nat) (gh : Nat → Int32) (AX : Nat → Prop) (tt nB o0 : Nat) (a1 : Int32) (a2 : Int32) (a3 : Int32) (hAn : ∀ q, AX q → nB ≤ q) : Met l yX10_waits uX10_waits ({ frames := 3, cells := 0, slots := 0, locals := 69 }) (va_Pc [.ref o0, .int a1, .int a2, .int a3] (PM dC dI gh AX tt nB o0)) (va_Qi (fun (r : Int32) (_ : Unit) => True) (fun (_ : Unit) t => PM dC dI gh AX tt nB o0 t) AX) 0 0 AX := by
  refine Met.via (fun a U hv => ?_)
  obtain ⟨rfl, hV⟩ := hv
  refine MI.elim hV.1 (fun va vz vl vk vF vG b_x_sz b_x_at b_x_fr b_x_to b_x_fk b_x_td hgw hgi hgR9 ha_mfg ha_mma ha_mwi ha_mpl hP hK hD => ?_)
  have htt0 := hV.2.1
  have hN := hV.2.2.1
  have hX := hV.2.2.2.1
  have hn0 := hV.2.2.2.2.1
  have hA := hV.2.2.2.2.2
  obtain ⟨hgr, hwz, hpv, htp⟩ := id hgw
  obtain ⟨ln, hw0⟩ : ∃ y : Int32, (vF 0) 0 = y := ⟨_, rfl⟩
  obtain ⟨bs, hw1⟩ : ∃ y : Int32, (vF 0) 1 = y := ⟨_, rfl⟩
  obtain ⟨tk, hw2⟩ : ∃ y : Int32, (vF 0) 2 = y := ⟨_, rfl⟩
  obtain ⟨lw, hw3⟩ : ∃ y : Int32, (vF 0) 3 = y := ⟨_, rfl⟩
  obtain ⟨li, hw4⟩ : ∃ y : Int32, (vF 0) 4 = y := ⟨_, rfl⟩
  rw [hw0, hw1, hw2, hw3] at hgr hwz
  rw [hw0, hw1, hw2] at htp
  rw [hw3] at hpv
  obtain ⟨b_ln, b_bs, b_tk, b_lw⟩ := hgr
  refine ⟨_, _, _, kX10_waits l dC dI o0 (vz 0) (va 0) (va 1) (va 2) (va 3) (va 4) (vz 1) (va 5) (vz 2) (vz 3) (vz 4) (vz 5) (vz 6) (vz 7) (vz 8) (va 6) (va 7) (vz 9) (vz 10) (vz 11) (va 8) (va 9) (vl 0) (va 10) (va 11) (va 12) (va 13) (va 14) (va 15) (va 16) (va 17) (va 18) (va 19) (vk 0) (vk 3) (vF 0) (vF 3) ln bs tk lw li a1 a2 a3 b_ln b_bs b_tk b_lw (by first | with_reducible assumption | omega) (by first | with_reducible assumption | omega) (by first | with_reducible assumption | omega) (by first | with_reducible assumption | omega) (by first | with_reducible assumption | omega) (by first | with_reducible assumption | omega), ⟨rfl, ⟨hP.sub [0, 1, 4] rfl, hK.sub [0, 3] rfl, hN⟩⟩, fun o t hq hW _ => ?_, fun q _ hq => hq.elim⟩
  obtain ⟨r, ho, hp, hh⟩ := hq
  exact ⟨⟨r, (), ho, trivial, PM_same hV hh hW⟩, by rw [hh]; exact Nat.le_refl _, fun q _ _ => by rw [hh]⟩
set_option maxHeartbeats 4000000 in
set_option maxRecDepth 100000 in
theorem wX10_hits (l : Launch) (dC : Nat → ClassId) (dI : Nat → Nat → Nat) (gh : Nat → Int32) (AX : Nat → Prop) (tt nB o0 : Nat) (a1 : Int32) (a2 : Int32) (a3 : Int32) (a4 : Int32) (hAn : ∀ q, AX q → nB ≤ q) : Met l yX10_hits uX10_hits ({ frames := 3, cells := 0, slots := 0, locals := 69 }) (va_Pc [.ref o0, .int a1, .int a2, .int a3, .int a4] (PM dC dI gh AX tt nB o0)) (va_Qi (fun (r : Int32) (_ : Unit) => True) (fun (_ : Unit) t => PM dC dI gh AX tt nB o0 t) AX) 0 0 AX := by
  refine Met.via (fun a U hv => ?_)
  obtain ⟨rfl, hV⟩ := hv
  refine MI.elim hV.1 (fun va vz vl vk vF vG b_x_sz b_x_at b_x_fr b_x_to b_x_fk b_x_td hgw hgi hgR9 ha_mfg ha_mma ha_mwi ha_mpl hP hK hD => ?_)
  have htt0 := hV.2.1
  have hN := hV.2.2.1
  have hX := hV.2.2.2.1
  have hn0 := hV.2.2.2.2.1
  have hA := hV.2.2.2.2.2
  obtain ⟨hgr, hwz, hpv, htp⟩ := id hgw
  obtain ⟨ln, hw0⟩ : ∃ y : Int32, (vF 0) 0 = y := ⟨_, rfl⟩
  obtain ⟨bs, hw1⟩ : ∃ y : Int32, (vF 0) 1 = y := ⟨_, rfl⟩
  obtain ⟨tk, hw2⟩ : ∃ y : Int32, (vF 0) 2 = y := ⟨_, rfl⟩
  obtain ⟨lw, hw3⟩ : ∃ y : Int32, (vF 0) 3 = y := ⟨_, rfl⟩
  obtain ⟨li, hw4⟩ : ∃ y : Int32, (vF 0) 4 = y := ⟨_, rfl⟩
  rw [hw0, hw1, hw2, hw3] at hgr hwz
  rw [hw0, hw1, hw2] at htp
  rw [hw3] at hpv
  obtain ⟨b_ln, b_bs, b_tk, b_lw⟩ := hgr
  refine ⟨_, _, _, kX10_hits l dC dI o0 (vz 0) (va 0) (va 1) (va 2) (va 3) (va 4) (vz 1) (va 5) (vz 2) (vz 3) (vz 4) (vz 5) (vz 6) (vz 7) (vz 8) (va 6) (va 7) (vz 9) (vz 10) (vz 11) (va 8) (va 9) (vl 0) (va 10) (va 11) (va 12) (va 13) (va 14) (va 15) (va 16) (va 17) (va 18) (va 19) (vk 0) (vk 3) (vF 0) (vF 3) ln bs tk lw li a1 a2 a3 a4 b_ln b_bs b_tk b_lw (by first | with_reducible assumption | omega) (by first | with_reducible assumption | omega) (by first | with_reducible assumption | omega) (by first | with_reducible assumption | omega) (by first | with_reducible assumption | omega) (by first | with_reducible assumption | omega), ⟨rfl, ⟨hP.sub [0, 1, 4] rfl, hK.sub [0, 3] rfl, hN⟩⟩, fun o t hq hW _ => ?_, fun q _ hq => hq.elim⟩
  obtain ⟨r, ho, hp, hh⟩ := hq
  exact ⟨⟨r, (), ho, trivial, PM_same hV hh hW⟩, by rw [hh]; exact Nat.le_refl _, fun q _ _ => by rw [hh]⟩
