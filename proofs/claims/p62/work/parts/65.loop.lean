set_option maxRecDepth 16384
set_option maxHeartbeats 4000000 in
set_option maxRecDepth 100000 in
theorem law_loop {p : Program} {e : Env} {s : State} {m : MethodId} {below : List Frame} {meth : Method} {c : Code} (l : Launch) {b L : Nat} {xs : Nat → Int32} (hL : L ≤ 3072) (C0 : lw_At p s m meth c b L xs) (dC : Nat → ClassId) (dI : Nat → Nat → Nat) (gh : Nat → Int32) (B : Nat → Prop) (cc SL xx mm : Nat) (hB : ∀ q, B q → s.heap.size ≤ q) (hcc : cc = tot s.heap + SL) (hSL : SL ≤ 5000000) (hN : nst s) (hX1 : sx s.heap.size s) {K0 : Nat} (hK0 : K0 ≤ 300) {H : Heap} {locs : List Loc} {ls : Array Slot} (hXI : XI dC dI gh (fun q : Nat => ¬ B q ∧ s.heap.size ≤ q) cc xx s H) (hMI : MI dC dI gh B mm s H) (hBb : ∀ q, B q → q < H.size) (hS : va_S (fun q : Nat => s.heap.size ≤ q) s.heap H locs) (hz : H.size ≤ s.heap.size + K0) (hl : lv_has ls 4 [(3, .int 0), (2, .ref mm), (1, .ref xx), (0, .ref b)]) : W p l e room_1 s m #[Value.ref b] below meth c H locs 4000 SL (lw_Z below #[Value.ref b] s) (F0 m 18 ls []) := by
  obtain ⟨hx, hb, hr, hml, hown0, hts, hX, hbl, hlocks, hgv⟩ := id C0
  have hown : s.vm.findClass RL = some m.cls := hown0
  have hbA : ¬ (fun q : Nat => s.heap.size ≤ q) b := Nat.not_le.mpr hbl
  have hAn : ∀ q, (fun q : Nat => ¬ B q ∧ s.heap.size ≤ q) q → s.heap.size ≤ q := fun _ h => h.2
  refine loopW (σ := Int32) (fun v => (3078 - v.toInt).toNat) (fun v H locs ls => ∃ gh : Nat → Int32, ((0 : Int) ≤ v.toInt ∧ v.toInt ≤ 3078) ∧ XI dC dI gh (fun q : Nat => ¬ B q ∧ s.heap.size ≤ q) cc xx s H ∧ MI dC dI gh B mm s H ∧ (∀ q, B q → q < H.size) ∧ va_S (fun q : Nat => s.heap.size ≤ q) s.heap H locs ∧ H.size ≤ s.heap.size + (K0 + v.toInt.toNat) ∧ lv_has ls 4 [(3, .int v), (2, .ref mm), (1, .ref xx), (0, .ref b)]) (fun v H locs ls hI ih => ?_) 0 ⟨gh, by decide, hXI, hMI, hBb, hS, (by have z0 : (0 : Int32).toInt.toNat = 0 := (by decide); omega), hl⟩
  clear hXI hMI hBb hS hz hl
  obtain ⟨gh, hv, hXI, hMI, hBb, hS, hz, hl⟩ := hI
  refine lv_iload_n hx hb dL_law_18 rfl (lv_at hl 0 rfl) ?_
  refine lv_aload_n hx hb dL_law_19 rfl (lv_at hl 3 rfl) ?_
  refine va_slen hx hb hX hbl hbA hS dL_law_20 ?_
  refine lv_bipush (v := 6) hx hb dL_law_21 (by decide) ?_
  refine lv_isub hx hb dL_law_23 ?_
  refine lv_topi (fun z ez => ?_)
  have hzL : z.toInt = (L : Int) - 6 := by
    obtain ⟨q1, q2⟩ := ti_len (hi := 3072) (rfl : Int32.ofNat L = Int32.ofNat L) (by omega) (by decide)
    have q3 := (ti_sub (lo := -6) (hi := 3066) (a := 0) (b := 3072) (c := 6) (d := 6) ez rfl (by decide : (6 : Int32).toInt = 6) q2 (by decide) (by decide)).1
    omega
  refine lv_icmp_gt (tgt := 2431) hx hb dL_law_24 (by decide) (fun _ => ?_) (fun c_1 => ?_)
  · refine lv_iconst (v := 1) hx hb dL_law_2431 (by decide) ?_
    refine va_forget (fun q h => hS.2.2 q h) ?_
    refine W.widen (k := 600000) (n := 7302250) (lel _ _ rfl) (by omega) ?_
    exact lw_ret hx hb hr hlocks dL_law_2432
  · have hle := c_ngt rfl rfl c_1
    have hi6 : v.toInt + 6 ≤ (L : Int) := by omega
    have hi0 := hv.1
    have hiz : vp_in v L := vp_in_iff.mpr ⟨by omega, by omega⟩
    refine W.tightc (n := K0 + v.toInt.toNat) (by omega) ?_
    have kk : ∀ (gh : Nat → Int32) (H : Heap) (locs : List Loc) (ls : Array Slot), XI dC dI gh (fun q : Nat => ¬ B q ∧ s.heap.size ≤ q) cc xx s H → MI dC dI gh B mm s H → (∀ q, B q → q < H.size) → va_S (fun q : Nat => s.heap.size ≤ q) s.heap H locs → H.size ≤ s.heap.size + (K0 + v.toInt.toNat + 3) → lv_has ls 4 [(3, .int v), (2, .ref mm), (1, .ref xx), (0, .ref b)] → W p l e room_1 s m #[Value.ref b] below meth c H locs (K0 + v.toInt.toNat + 3) SL (lw_Z below #[Value.ref b] s) (F0 m 2425 ls []) := by
      intro gh H locs ls hXI hMI hBb hS hz hl
      obtain ⟨w, ew⟩ : ∃ y : Int32, y = v + 6 := ⟨_, rfl⟩
      have qw := (ti_add (lo := 6) (hi := 3084) (a := 0) (b := 3078) (c := 6) (d := 6) ew rfl (by decide : (6 : Int32).toInt = 6) hv (by decide) (by decide)).1
      refine lv_iinc (v := w) (lv' := [(3, .int w), (2, .ref mm), (1, .ref xx), (0, .ref b)]) hx hb dL_law_2425 hl (k := 0) rfl (by rw [ew]; rfl) (by decide) rfl (fun ls hl => ?_)
      refine lv_goto (tgt := 18) hx hb dL_law_2428 (by decide) ?_
      refine W.widen (k := 4000) (n := SL) (by omega) (Nat.le_refl _) ?_
      exact ih w _ _ _ ⟨gh, ⟨by omega, by omega⟩, hXI, hMI, hBb, hS, by omega, hl⟩ (by omega)
    refine lv_aload_n hx hb dL_law_27 rfl (lv_at hl 3 rfl) ?_
    refine lv_iload_n hx hb dL_law_28 rfl (lv_at hl 0 rfl) ?_
    refine va_sld hx hb hX hbl hbA hS hiz dL_law_29 ?_
    refine lv_bipush (v := 63) hx hb dL_law_30 (by decide) ?_
    refine lv_iand hx hb dL_law_32 ?_
    obtain ⟨j, hj, ej⟩ := pk_andE (xs v.toNatClampNeg) (m := 63) 6 (by decide)
    refine lv_topi (fun z2 ez2 => ?_)
    obtain rfl : z2 = nI j := ez2.trans ej
    by_cases h61 : j < 61
    · rcases (show j = 0 ∨ j = 1 ∨ j = 2 ∨ j = 3 ∨ j = 4 ∨ j = 5 ∨ j = 6 ∨ j = 7 ∨ j = 8 ∨ j = 9 ∨ j = 10 ∨ j = 11 ∨ j = 12 ∨ j = 13 ∨ j = 14 ∨ j = 15 ∨ j = 16 ∨ j = 17 ∨ j = 18 ∨ j = 19 ∨ j = 20 ∨ j = 21 ∨ j = 22 ∨ j = 23 ∨ j = 24 ∨ j = 25 ∨ j = 26 ∨ j = 27 ∨ j = 28 ∨ j = 29 ∨ j = 30 ∨ j = 31 ∨ j = 32 ∨ j = 33 ∨ j = 34 ∨ j = 35 ∨ j = 36 ∨ j = 37 ∨ j = 38 ∨ j = 39 ∨ j = 40 ∨ j = 41 ∨ j = 42 ∨ j = 43 ∨ j = 44 ∨ j = 45 ∨ j = 46 ∨ j = 47 ∨ j = 48 ∨ j = 49 ∨ j = 50 ∨ j = 51 ∨ j = 52 ∨ j = 53 ∨ j = 54 ∨ j = 55 ∨ j = 56 ∨ j = 57 ∨ j = 58 ∨ j = 59 ∨ j = 60 by omega) with rfl | rfl | rfl | rfl | rfl | rfl | rfl | rfl | rfl | rfl | rfl | rfl | rfl | rfl | rfl | rfl | rfl | rfl | rfl | rfl | rfl | rfl | rfl | rfl | rfl | rfl | rfl | rfl | rfl | rfl | rfl | rfl | rfl | rfl | rfl | rfl | rfl | rfl | rfl | rfl | rfl | rfl | rfl | rfl | rfl | rfl | rfl | rfl | rfl | rfl | rfl | rfl | rfl | rfl | rfl | rfl | rfl | rfl | rfl | rfl | rfl
      · refine lv_tableIn (off := 259) (tgt := 292) hx hb dL_law_33 (by decide) (by decide) (by decide) (by decide) ?_
        exact law_c0 l hL C0 dC dI gh B cc SL xx mm hB hcc hSL hN hX1 hi0 hi6 (by omega) hXI hMI hBb hS hl kk
      · refine lv_tableIn (off := 322) (tgt := 355) hx hb dL_law_33 (by decide) (by decide) (by decide) (by decide) ?_
        exact law_c1 l hL C0 dC dI gh B cc SL xx mm hB hcc hSL hN hX1 hi0 hi6 (by omega) hXI hMI hBb hS hl kk
      · refine lv_tableIn (off := 345) (tgt := 378) hx hb dL_law_33 (by decide) (by decide) (by decide) (by decide) ?_
        exact law_c2 l hL C0 dC dI gh B cc SL xx mm hB hcc hSL hN hX1 hi0 hi6 (by omega) hXI hMI hBb hS hl kk
      · refine lv_tableIn (off := 358) (tgt := 391) hx hb dL_law_33 (by decide) (by decide) (by decide) (by decide) ?_
        exact law_c3 l hL C0 dC dI gh B cc SL xx mm hB hcc hSL hN hX1 hi0 hi6 (by omega) hXI hMI hBb hS hl kk
      · refine lv_tableIn (off := 381) (tgt := 414) hx hb dL_law_33 (by decide) (by decide) (by decide) (by decide) ?_
        exact law_c4 l hL C0 dC dI gh B cc SL xx mm hB hcc hSL hN hX1 hi0 hi6 (by omega) hXI hMI hBb hS hl kk
      · refine lv_tableIn (off := 414) (tgt := 447) hx hb dL_law_33 (by decide) (by decide) (by decide) (by decide) ?_
        exact law_c5 l hL C0 dC dI gh B cc SL xx mm hB hcc hSL hN hX1 hi0 hi6 (by omega) hXI hMI hBb hS hl kk
      · refine lv_tableIn (off := 447) (tgt := 480) hx hb dL_law_33 (by decide) (by decide) (by decide) (by decide) ?_
        exact law_c6 l hL C0 dC dI gh B cc SL xx mm hB hcc hSL hN hX1 hi0 hi6 (by omega) hXI hMI hBb hS hl kk
      · refine lv_tableIn (off := 480) (tgt := 513) hx hb dL_law_33 (by decide) (by decide) (by decide) (by decide) ?_
        exact law_c7 l hL C0 dC dI gh B cc SL xx mm hB hcc hSL hN hX1 hi0 hi6 (by omega) hXI hMI hBb hS hl kk
      · refine lv_tableIn (off := 503) (tgt := 536) hx hb dL_law_33 (by decide) (by decide) (by decide) (by decide) ?_
        exact law_c8 l hL C0 dC dI gh B cc SL xx mm hB hcc hSL hN hX1 hi0 hi6 (by omega) hXI hMI hBb hS hl kk
      · refine lv_tableIn (off := 526) (tgt := 559) hx hb dL_law_33 (by decide) (by decide) (by decide) (by decide) ?_
        exact law_c9 l hL C0 dC dI gh B cc SL xx mm hB hcc hSL hN hX1 hi0 hi6 (by omega) hXI hMI hBb hS hl kk
      · refine lv_tableIn (off := 559) (tgt := 592) hx hb dL_law_33 (by decide) (by decide) (by decide) (by decide) ?_
        exact law_c10 l hL C0 dC dI gh B cc SL xx mm hB hcc hSL hN hX1 hi0 hi6 (by omega) hXI hMI hBb hS hl kk
      · refine lv_tableIn (off := 592) (tgt := 625) hx hb dL_law_33 (by decide) (by decide) (by decide) (by decide) ?_
        exact law_c11 l hL C0 dC dI gh B cc SL xx mm hB hcc hSL hN hX1 hi0 hi6 (by omega) hXI hMI hBb hS hl kk
      · refine lv_tableIn (off := 625) (tgt := 658) hx hb dL_law_33 (by decide) (by decide) (by decide) (by decide) ?_
        exact law_c12 l hL C0 dC dI gh B cc SL xx mm hB hcc hSL hN hX1 hi0 hi6 (by omega) hXI hMI hBb hS hl kk
      · refine lv_tableIn (off := 658) (tgt := 691) hx hb dL_law_33 (by decide) (by decide) (by decide) (by decide) ?_
        exact law_c13 l hL C0 dC dI gh B cc SL xx mm hB hcc hSL hN hX1 hi0 hi6 (by omega) hXI hMI hBb hS hl kk
      · refine lv_tableIn (off := 691) (tgt := 724) hx hb dL_law_33 (by decide) (by decide) (by decide) (by decide) ?_
        exact law_c14 l hL C0 dC dI gh B cc SL xx mm hB hcc hSL hN hX1 hi0 hi6 (by omega) hXI hMI hBb hS hl kk
      · refine lv_tableIn (off := 734) (tgt := 767) hx hb dL_law_33 (by decide) (by decide) (by decide) (by decide) ?_
        exact law_c15 l hL C0 dC dI gh B cc SL xx mm hB hcc hSL hN hX1 hi0 hi6 (by omega) hXI hMI hBb hS hl kk
      · refine lv_tableIn (off := 787) (tgt := 820) hx hb dL_law_33 (by decide) (by decide) (by decide) (by decide) ?_
        exact law_c16 l hL C0 dC dI gh B cc SL xx mm hB hcc hSL hN hX1 hi0 hi6 (by omega) hXI hMI hBb hS hl kk
      · refine lv_tableIn (off := 840) (tgt := 873) hx hb dL_law_33 (by decide) (by decide) (by decide) (by decide) ?_
        exact law_c17 l hL C0 dC dI gh B cc SL xx mm hB hcc hSL hN hX1 hi0 hi6 (by omega) hXI hMI hBb hS hl kk
      · refine lv_tableIn (off := 873) (tgt := 906) hx hb dL_law_33 (by decide) (by decide) (by decide) (by decide) ?_
        exact law_c18 l hL C0 dC dI gh B cc SL xx mm hB hcc hSL hN hX1 hi0 hi6 (by omega) hXI hMI hBb hS hl kk
      · refine lv_tableIn (off := 906) (tgt := 939) hx hb dL_law_33 (by decide) (by decide) (by decide) (by decide) ?_
        exact law_c19 l hL C0 dC dI gh B cc SL xx mm hB hcc hSL hN hX1 hi0 hi6 (by omega) hXI hMI hBb hS hl kk
      · refine lv_tableIn (off := 939) (tgt := 972) hx hb dL_law_33 (by decide) (by decide) (by decide) (by decide) ?_
        exact law_c20 l hL C0 dC dI gh B cc SL xx mm hB hcc hSL hN hX1 hi0 hi6 (by omega) hXI hMI hBb hS hl kk
      · refine lv_tableIn (off := 962) (tgt := 995) hx hb dL_law_33 (by decide) (by decide) (by decide) (by decide) ?_
        exact law_c21 l hL C0 dC dI gh B cc SL xx mm hB hcc hSL hN hX1 hi0 hi6 (by omega) hXI hMI hBb hS hl kk
      · refine lv_tableIn (off := 985) (tgt := 1018) hx hb dL_law_33 (by decide) (by decide) (by decide) (by decide) ?_
        exact law_c22 l hL C0 dC dI gh B cc SL xx mm hB hcc hSL hN hX1 hi0 hi6 (by omega) hXI hMI hBb hS hl kk
      · refine lv_tableIn (off := 1008) (tgt := 1041) hx hb dL_law_33 (by decide) (by decide) (by decide) (by decide) ?_
        exact law_c23 l hL C0 dC dI gh B cc SL xx mm hB hcc hSL hN hX1 hi0 hi6 (by omega) hXI hMI hBb hS hl kk
      · refine lv_tableIn (off := 1041) (tgt := 1074) hx hb dL_law_33 (by decide) (by decide) (by decide) (by decide) ?_
        exact law_c24 l hL C0 dC dI gh B cc SL xx mm hB hcc hSL hN hX1 hi0 hi6 (by omega) hXI hMI hBb hS hl kk
      · refine lv_tableIn (off := 1074) (tgt := 1107) hx hb dL_law_33 (by decide) (by decide) (by decide) (by decide) ?_
        exact law_c25 l hL C0 dC dI gh B cc SL xx mm hB hcc hSL hN hX1 hi0 hi6 (by omega) hXI hMI hBb hS hl kk
      · refine lv_tableIn (off := 1117) (tgt := 1150) hx hb dL_law_33 (by decide) (by decide) (by decide) (by decide) ?_
        exact law_c26 l hL C0 dC dI gh B cc SL xx mm hB hcc hSL hN hX1 hi0 hi6 (by omega) hXI hMI hBb hS hl kk
      · refine lv_tableIn (off := 1170) (tgt := 1203) hx hb dL_law_33 (by decide) (by decide) (by decide) (by decide) ?_
        exact law_c27 l hL C0 dC dI gh B cc SL xx mm hB hcc hSL hN hX1 hi0 hi6 (by omega) hXI hMI hBb hS hl kk
      · refine lv_tableIn (off := 1203) (tgt := 1236) hx hb dL_law_33 (by decide) (by decide) (by decide) (by decide) ?_
        exact law_c28 l hL C0 dC dI gh B cc SL xx mm hB hcc hSL hN hX1 hi0 hi6 (by omega) hXI hMI hBb hS hl kk
      · refine lv_tableIn (off := 1236) (tgt := 1269) hx hb dL_law_33 (by decide) (by decide) (by decide) (by decide) ?_
        exact law_c29 l hL C0 dC dI gh B cc SL xx mm hB hcc hSL hN hX1 hi0 hi6 (by omega) hXI hMI hBb hS hl kk
      · refine lv_tableIn (off := 1269) (tgt := 1302) hx hb dL_law_33 (by decide) (by decide) (by decide) (by decide) ?_
        exact law_c30 l hL C0 dC dI gh B cc SL xx mm hB hcc hSL hN hX1 hi0 hi6 (by omega) hXI hMI hBb hS hl kk
      · refine lv_tableIn (off := 1292) (tgt := 1325) hx hb dL_law_33 (by decide) (by decide) (by decide) (by decide) ?_
        exact law_c31 l hL C0 dC dI gh B cc SL xx mm hB hcc hSL hN hX1 hi0 hi6 (by omega) hXI hMI hBb hS hl kk
      · refine lv_tableIn (off := 1325) (tgt := 1358) hx hb dL_law_33 (by decide) (by decide) (by decide) (by decide) ?_
        exact law_c32 l hL C0 dC dI gh B cc SL xx mm hB hcc hSL hN hX1 hi0 hi6 (by omega) hXI hMI hBb hS hl kk
      · refine lv_tableIn (off := 1368) (tgt := 1401) hx hb dL_law_33 (by decide) (by decide) (by decide) (by decide) ?_
        exact law_c33 l hL C0 dC dI gh B cc SL xx mm hB hcc hSL hN hX1 hi0 hi6 (by omega) hXI hMI hBb hS hl kk
      · refine lv_tableIn (off := 1411) (tgt := 1444) hx hb dL_law_33 (by decide) (by decide) (by decide) (by decide) ?_
        exact law_c34 l hL C0 dC dI gh B cc SL xx mm hB hcc hSL hN hX1 hi0 hi6 (by omega) hXI hMI hBb hS hl kk
      · refine lv_tableIn (off := 1454) (tgt := 1487) hx hb dL_law_33 (by decide) (by decide) (by decide) (by decide) ?_
        exact law_c35 l hL C0 dC dI gh B cc SL xx mm hB hcc hSL hN hX1 hi0 hi6 (by omega) hXI hMI hBb hS hl kk
      · refine lv_tableIn (off := 1477) (tgt := 1510) hx hb dL_law_33 (by decide) (by decide) (by decide) (by decide) ?_
        exact law_c36 l hL C0 dC dI gh B cc SL xx mm hB hcc hSL hN hX1 hi0 hi6 (by omega) hXI hMI hBb hS hl kk
      · refine lv_tableIn (off := 1510) (tgt := 1543) hx hb dL_law_33 (by decide) (by decide) (by decide) (by decide) ?_
        exact law_c37 l hL C0 dC dI gh B cc SL xx mm hB hcc hSL hN hX1 hi0 hi6 (by omega) hXI hMI hBb hS hl kk
      · refine lv_tableIn (off := 1543) (tgt := 1576) hx hb dL_law_33 (by decide) (by decide) (by decide) (by decide) ?_
        exact law_c38 l hL C0 dC dI gh B cc SL xx mm hB hcc hSL hN hX1 hi0 hi6 (by omega) hXI hMI hBb hS hl kk
      · refine lv_tableIn (off := 1586) (tgt := 1619) hx hb dL_law_33 (by decide) (by decide) (by decide) (by decide) ?_
        exact law_c39 l hL C0 dC dI gh B cc SL xx mm hB hcc hSL hN hX1 hi0 hi6 (by omega) hXI hMI hBb hS hl kk
      · refine lv_tableIn (off := 1619) (tgt := 1652) hx hb dL_law_33 (by decide) (by decide) (by decide) (by decide) ?_
        exact law_c40 l hL C0 dC dI gh B cc SL xx mm hB hcc hSL hN hX1 hi0 hi6 (by omega) hXI hMI hBb hS hl kk
      · refine lv_tableIn (off := 1662) (tgt := 1695) hx hb dL_law_33 (by decide) (by decide) (by decide) (by decide) ?_
        exact law_c41 l hL C0 dC dI gh B cc SL xx mm hB hcc hSL hN hX1 hi0 hi6 (by omega) hXI hMI hBb hS hl kk
      · refine lv_tableIn (off := 1695) (tgt := 1728) hx hb dL_law_33 (by decide) (by decide) (by decide) (by decide) ?_
        exact law_c42 l hL C0 dC dI gh B cc SL xx mm hB hcc hSL hN hX1 hi0 hi6 (by omega) hXI hMI hBb hS hl kk
      · refine lv_tableIn (off := 1738) (tgt := 1771) hx hb dL_law_33 (by decide) (by decide) (by decide) (by decide) ?_
        exact law_c43 l hL C0 dC dI gh B cc SL xx mm hB hcc hSL hN hX1 hi0 hi6 (by omega) hXI hMI hBb hS hl kk
      · refine lv_tableIn (off := 1771) (tgt := 1804) hx hb dL_law_33 (by decide) (by decide) (by decide) (by decide) ?_
        exact law_c44 l hL C0 dC dI gh B cc SL xx mm hB hcc hSL hN hX1 hi0 hi6 (by omega) hXI hMI hBb hS hl kk
      · refine lv_tableIn (off := 1814) (tgt := 1847) hx hb dL_law_33 (by decide) (by decide) (by decide) (by decide) ?_
        exact law_c45 l hL C0 dC dI gh B cc SL xx mm hB hcc hSL hN hX1 hi0 hi6 (by omega) hXI hMI hBb hS hl kk
      · refine lv_tableIn (off := 1857) (tgt := 1890) hx hb dL_law_33 (by decide) (by decide) (by decide) (by decide) ?_
        exact law_c46 l hL C0 dC dI gh B cc SL xx mm hB hcc hSL hN hX1 hi0 hi6 (by omega) hXI hMI hBb hS hl kk
      · refine lv_tableIn (off := 1890) (tgt := 1923) hx hb dL_law_33 (by decide) (by decide) (by decide) (by decide) ?_
        exact law_c47 l hL C0 dC dI gh B cc SL xx mm hB hcc hSL hN hX1 hi0 hi6 (by omega) hXI hMI hBb hS hl kk
      · refine lv_tableIn (off := 1913) (tgt := 1946) hx hb dL_law_33 (by decide) (by decide) (by decide) (by decide) ?_
        exact law_c48 l hL C0 dC dI gh B cc SL xx mm hB hcc hSL hN hX1 hi0 hi6 (by omega) hXI hMI hBb hS hl kk
      · refine lv_tableIn (off := 1936) (tgt := 1969) hx hb dL_law_33 (by decide) (by decide) (by decide) (by decide) ?_
        exact law_c49 l hL C0 dC dI gh B cc SL xx mm hB hcc hSL hN hX1 hi0 hi6 (by omega) hXI hMI hBb hS hl kk
      · refine lv_tableIn (off := 1959) (tgt := 1992) hx hb dL_law_33 (by decide) (by decide) (by decide) (by decide) ?_
        exact law_c50 l hL C0 dC dI gh B cc SL xx mm hB hcc hSL hN hX1 hi0 hi6 (by omega) hXI hMI hBb hS hl kk
      · refine lv_tableIn (off := 2002) (tgt := 2035) hx hb dL_law_33 (by decide) (by decide) (by decide) (by decide) ?_
        exact law_c51 l hL C0 dC dI gh B cc SL xx mm hB hcc hSL hN hX1 hi0 hi6 (by omega) hXI hMI hBb hS hl kk
      · refine lv_tableIn (off := 2035) (tgt := 2068) hx hb dL_law_33 (by decide) (by decide) (by decide) (by decide) ?_
        exact law_c52 l hL C0 dC dI gh B cc SL xx mm hB hcc hSL hN hX1 hi0 hi6 (by omega) hXI hMI hBb hS hl kk
      · refine lv_tableIn (off := 2068) (tgt := 2101) hx hb dL_law_33 (by decide) (by decide) (by decide) (by decide) ?_
        exact law_c53 l hL C0 dC dI gh B cc SL xx mm hB hcc hSL hN hX1 hi0 hi6 (by omega) hXI hMI hBb hS hl kk
      · refine lv_tableIn (off := 2101) (tgt := 2134) hx hb dL_law_33 (by decide) (by decide) (by decide) (by decide) ?_
        exact law_c54 l hL C0 dC dI gh B cc SL xx mm hB hcc hSL hN hX1 hi0 hi6 (by omega) hXI hMI hBb hS hl kk
      · refine lv_tableIn (off := 2144) (tgt := 2177) hx hb dL_law_33 (by decide) (by decide) (by decide) (by decide) ?_
        exact law_c55 l hL C0 dC dI gh B cc SL xx mm hB hcc hSL hN hX1 hi0 hi6 (by omega) hXI hMI hBb hS hl kk
      · refine lv_tableIn (off := 2167) (tgt := 2200) hx hb dL_law_33 (by decide) (by decide) (by decide) (by decide) ?_
        exact law_c56 l hL C0 dC dI gh B cc SL xx mm hB hcc hSL hN hX1 hi0 hi6 (by omega) hXI hMI hBb hS hl kk
      · refine lv_tableIn (off := 2190) (tgt := 2223) hx hb dL_law_33 (by decide) (by decide) (by decide) (by decide) ?_
        exact law_c57 l hL C0 dC dI gh B cc SL xx mm hB hcc hSL hN hX1 hi0 hi6 (by omega) hXI hMI hBb hS hl kk
      · refine lv_tableIn (off := 2213) (tgt := 2246) hx hb dL_law_33 (by decide) (by decide) (by decide) (by decide) ?_
        exact law_c58 l hL C0 dC dI gh B cc SL xx mm hB hcc hSL hN hX1 hi0 hi6 (by omega) hXI hMI hBb hS hl kk
      · refine lv_tableIn (off := 2256) (tgt := 2289) hx hb dL_law_33 (by decide) (by decide) (by decide) (by decide) ?_
        exact law_c59 l hL C0 dC dI gh B cc SL xx mm hB hcc hSL hN hX1 hi0 hi6 (by omega) hXI hMI hBb hS hl kk
      · refine lv_tableIn (off := 2329) (tgt := 2362) hx hb dL_law_33 (by decide) (by decide) (by decide) (by decide) ?_
        exact law_c60 l hL C0 dC dI gh B cc SL xx mm hB hcc hSL hN hX1 hi0 hi6 (by omega) hXI hMI hBb hS hl kk
    · refine lv_tableOut (tgt := 2425) hx hb dL_law_33 (Or.inr (by rw [nI_toInt (by omega)]; omega)) (by decide) ?_
      refine W.widen (k := K0 + v.toInt.toNat + 3) (n := SL) (by omega) (Nat.le_refl _) ?_
      exact kk _ _ _ _ hXI hMI hBb hS (by omega) hl
