set_option maxRecDepth 16384
theorem gL32_x : GoodIn lw_tbl (wsV RL 147 RX9 yX9_sold uX9_sold) := gin_V tbq_4_45 tbq_4_46 tbq_4_47 tbq_1_1 tw_uX9_sold guX9_sold
theorem gL32_m : GoodIn lw_tbl (wsV RL 150 RX10 yX10_sold uX10_sold) := gin_V tbq_7_111 tbq_7_112 tbq_7_113 tbq_1_9 tw_uX10_sold guX10_sold
set_option maxHeartbeats 4000000 in
set_option maxRecDepth 100000 in
theorem law_c32 {p : Program} {e : Env} {s : State} {m : MethodId} {below : List Frame} {meth : Method} {c : Code} (l : Launch) {b L : Nat} {xs : Nat → Int32} (hL : L ≤ 3072) (C0 : lw_At p s m meth c b L xs) (dC : Nat → ClassId) (dI : Nat → Nat → Nat) (gh : Nat → Int32) (B : Nat → Prop) (cc SL xx mm : Nat) (hB : ∀ q, B q → s.heap.size ≤ q) (hcc : cc = tot s.heap + SL) (hSL : SL ≤ 5000000) (hN : nst s) (hX1 : sx s.heap.size s) {ii : Int32} {N : Nat} (hi0 : 0 ≤ ii.toInt) (hi6 : ii.toInt + 6 ≤ (L : Int)) (hNN : N ≤ 100000) {H : Heap} {locs : List Loc} {ls : Array Slot} (hXI : XI dC dI gh (fun q : Nat => ¬ B q ∧ s.heap.size ≤ q) cc xx s H) (hMI : MI dC dI gh B mm s H) (hBb : ∀ q, B q → q < H.size) (hS : va_S (fun q : Nat => s.heap.size ≤ q) s.heap H locs) (hl : lv_has ls 4 [(3, .int ii), (2, .ref mm), (1, .ref xx), (0, .ref b)]) (kk : ∀ (gh : Nat → Int32) (H : Heap) (locs : List Loc) (ls : Array Slot), XI dC dI gh (fun q : Nat => ¬ B q ∧ s.heap.size ≤ q) cc xx s H → MI dC dI gh B mm s H → (∀ q, B q → q < H.size) → va_S (fun q : Nat => s.heap.size ≤ q) s.heap H locs → H.size ≤ s.heap.size + (N + 3) → lv_has ls 4 [(3, .int ii), (2, .ref mm), (1, .ref xx), (0, .ref b)] → W p l e room_1 s m #[Value.ref b] below meth c H locs (N + 3) SL (lw_Z below #[Value.ref b] s) (F0 m 2425 ls [])) : W p l e room_1 s m #[Value.ref b] below meth c H locs N SL (lw_Z below #[Value.ref b] s) (F0 m 1358 ls []) := by
  obtain ⟨hx, hb, hr, hml, hown0, hts, hX, hbl, hlocks, hgv⟩ := id C0
  have hown : s.vm.findClass RL = some m.cls := hown0
  have hbA : ¬ (fun q : Nat => s.heap.size ≤ q) b := Nat.not_le.mpr hbl
  have hAn : ∀ q, (fun q : Nat => ¬ B q ∧ s.heap.size ≤ q) q → s.heap.size ≤ q := fun _ h => h.2
  refine lv_aload_n hx hb dL_law_1358 rfl (lv_at hl 2 rfl) ?_
  refine law_ldv (kv := 1) hx hb hX hbl hbA hS hl dL_law_1359 dL_law_1360 dL_law_1361 dL_law_1362 dL_law_1363 (by decide) (li_in hi0 hi6 hL (k := 1) (by decide) (by decide)) ?_
  refine law_ldv (kv := 2) hx hb hX hbl hbA hS hl dL_law_1364 dL_law_1365 dL_law_1366 dL_law_1367 dL_law_1368 (by decide) (li_in hi0 hi6 hL (k := 2) (by decide) (by decide)) ?_
  refine law_ldv (kv := 3) hx hb hX hbl hbA hS hl dL_law_1369 dL_law_1370 dL_law_1371 dL_law_1372 dL_law_1373 (by decide) (li_in hi0 hi6 hL (k := 3) (by decide) (by decide)) ?_
  refine va_calli (va_runV (As := [.int (xs (ii + 1).toNatClampNeg), .int (xs (ii + 2).toNatClampNeg), .int (xs (ii + 3).toNatClampNeg)]) (rest := []) ⟨hx, hb, hml, hown, hts⟩ (wX9_sold l dC dI gh (fun q : Nat => ¬ B q ∧ s.heap.size ≤ q) cc s.heap.size xx (xs (ii + 1).toNatClampNeg) (xs (ii + 2).toNatClampNeg) (xs (ii + 3).toNatClampNeg) hAn) (cwV 3 hts gL32_x rfl rfl rfl hd_yX9_sold ⟨lel 3 2048 rfl, lel 70 84000 rfl⟩) ⟨PX_fb, XI.recv hXI, PX_use hXI hN hX1 (Nat.le_refl _) hS (fun _ h => h) (fun q h => ⟨fun z => absurd (hBb q z) (Nat.not_lt.mpr h), Nat.le_trans hS.1 h⟩)⟩ rfl rfl hl.1 rfl (lv_room (Nat.le_of_ble_eq_true rfl)) dL_law_1374 ⟨(show N + 0 ≤ (600000 : Nat) from by omega), (show SL + 0 ≤ (7302250 : Nat) from by omega)⟩) hS (fun q _ h => h.2) (fun q h => h.2) (fun rx _ t H1 locs1 ht hvm hprx hB1 hz1 hk1 hS1 => ?_)
  have hXq := hB1.1
  rw [ht] at hXq
  have hMI := MI.kept (fun q h1 h2 => hk1 q h1 (fun z => z.1 h2)) hMI
  have hXI := XI.moved hvm.symm hXq
  have hBb : ∀ q, B q → q < H1.size := fun q h => Nat.lt_of_lt_of_le (hBb q h) hz1
  refine W.know (fun hkn => ?_)
  have hsz1 := hkn.2
  clear hB1 hk1 hz1 hkn hXq
  have hS := hS1
  clear hS1
  obtain ⟨H, eH⟩ : ∃ h : Heap, h = H1 := ⟨_, rfl⟩
  rw [← eH] at hXI hMI hBb hS hsz1 ⊢
  refine lv_pop hx hb dL_law_1377 rfl ?_
  refine lv_aload_n hx hb dL_law_1378 rfl (lv_at hl 1 rfl) ?_
  refine law_ldv (kv := 1) hx hb hX hbl hbA hS hl dL_law_1379 dL_law_1380 dL_law_1381 dL_law_1382 dL_law_1383 (by decide) (li_in hi0 hi6 hL (k := 1) (by decide) (by decide)) ?_
  refine law_ldv (kv := 2) hx hb hX hbl hbA hS hl dL_law_1384 dL_law_1385 dL_law_1386 dL_law_1387 dL_law_1388 (by decide) (li_in hi0 hi6 hL (k := 2) (by decide) (by decide)) ?_
  refine law_ldv (kv := 3) hx hb hX hbl hbA hS hl dL_law_1389 dL_law_1390 dL_law_1391 dL_law_1392 dL_law_1393 (by decide) (li_in hi0 hi6 hL (k := 3) (by decide) (by decide)) ?_
  refine va_calli (va_runV (As := [.int (xs (ii + 1).toNatClampNeg), .int (xs (ii + 2).toNatClampNeg), .int (xs (ii + 3).toNatClampNeg)]) (rest := []) ⟨hx, hb, hml, hown, hts⟩ (wX10_sold l dC dI gh B (tot H) s.heap.size mm (xs (ii + 1).toNatClampNeg) (xs (ii + 2).toNatClampNeg) (xs (ii + 3).toNatClampNeg) hB) (cwV 3 hts gL32_m rfl rfl rfl hd_yX10_sold ⟨lel 4 2048 rfl, lel 94 84000 rfl⟩) ⟨PM_fb, MI.recv hMI, PM_use hMI (Nat.le_refl _) hN hX1 (Nat.le_refl _) hS (fun _ h => h) (fun q h z => absurd (hBb q z) (Nat.not_lt.mpr h))⟩ rfl rfl hl.1 rfl (lv_room (Nat.le_of_ble_eq_true rfl)) dL_law_1394 ⟨(show N + 0 + 0 ≤ (600000 : Nat) from by omega), (show SL + 0 + 0 ≤ (7302250 : Nat) from by omega)⟩) hS (fun q _ h => hB q h) (fun q h => hB q h) (fun rm _ t H1 locs1 ht hvm hprm hB1 hz1 hk1 hS1 => ?_)
  have hXq := hB1.1
  rw [ht] at hXq
  have htq := hB1.2.1
  rw [ht] at htq
  have hXI := XI.kept htq (fun q h1 h2 => hk1 q h1 (fun z => h2.1 z)) hXI
  have hMI := MI.moved hvm.symm hXq
  have hBb : ∀ q, B q → q < H1.size := fun q h => Nat.lt_of_lt_of_le (hBb q h) hz1
  refine W.know (fun hkn => ?_)
  have hsz1 := hkn.2
  clear hB1 hk1 hz1 hkn hXq
  have hS := hS1
  clear hS1
  obtain ⟨H, eH⟩ : ∃ h : Heap, h = H1 := ⟨_, rfl⟩
  rw [← eH] at hXI hMI hBb hS hsz1 ⊢
  refine lv_pop hx hb dL_law_1397 rfl ?_
  refine lv_goto (tgt := 2425) hx hb dL_law_1398 (by decide) ?_
  refine W.tight (n := SL) (by have q9 := XI.tot hXI; omega) ?_
  refine W.widen (k := N + 3) (n := SL) (by omega) (Nat.le_refl _) ?_
  exact kk _ _ _ _ hXI hMI hBb hS (by omega) hl
theorem gL33_x : GoodIn lw_tbl (wsV RL 151 RX9 yX9_first uX9_first) := gin_V tbq_4_49 tbq_4_50 tbq_4_51 tbq_1_1 tw_uX9_first guX9_first
theorem gL33_m : GoodIn lw_tbl (wsV RL 154 RX10 yX10_first uX10_first) := gin_V tbq_7_119 tbq_7_120 tbq_7_121 tbq_1_9 tw_uX10_first guX10_first
set_option maxHeartbeats 4000000 in
set_option maxRecDepth 100000 in
theorem law_c33 {p : Program} {e : Env} {s : State} {m : MethodId} {below : List Frame} {meth : Method} {c : Code} (l : Launch) {b L : Nat} {xs : Nat → Int32} (hL : L ≤ 3072) (C0 : lw_At p s m meth c b L xs) (dC : Nat → ClassId) (dI : Nat → Nat → Nat) (gh : Nat → Int32) (B : Nat → Prop) (cc SL xx mm : Nat) (hB : ∀ q, B q → s.heap.size ≤ q) (hcc : cc = tot s.heap + SL) (hSL : SL ≤ 5000000) (hN : nst s) (hX1 : sx s.heap.size s) {ii : Int32} {N : Nat} (hi0 : 0 ≤ ii.toInt) (hi6 : ii.toInt + 6 ≤ (L : Int)) (hNN : N ≤ 100000) {H : Heap} {locs : List Loc} {ls : Array Slot} (hXI : XI dC dI gh (fun q : Nat => ¬ B q ∧ s.heap.size ≤ q) cc xx s H) (hMI : MI dC dI gh B mm s H) (hBb : ∀ q, B q → q < H.size) (hS : va_S (fun q : Nat => s.heap.size ≤ q) s.heap H locs) (hl : lv_has ls 4 [(3, .int ii), (2, .ref mm), (1, .ref xx), (0, .ref b)]) (kk : ∀ (gh : Nat → Int32) (H : Heap) (locs : List Loc) (ls : Array Slot), XI dC dI gh (fun q : Nat => ¬ B q ∧ s.heap.size ≤ q) cc xx s H → MI dC dI gh B mm s H → (∀ q, B q → q < H.size) → va_S (fun q : Nat => s.heap.size ≤ q) s.heap H locs → H.size ≤ s.heap.size + (N + 3) → lv_has ls 4 [(3, .int ii), (2, .ref mm), (1, .ref xx), (0, .ref b)] → W p l e room_1 s m #[Value.ref b] below meth c H locs (N + 3) SL (lw_Z below #[Value.ref b] s) (F0 m 2425 ls [])) : W p l e room_1 s m #[Value.ref b] below meth c H locs N SL (lw_Z below #[Value.ref b] s) (F0 m 1401 ls []) := by
  obtain ⟨hx, hb, hr, hml, hown0, hts, hX, hbl, hlocks, hgv⟩ := id C0
  have hown : s.vm.findClass RL = some m.cls := hown0
  have hbA : ¬ (fun q : Nat => s.heap.size ≤ q) b := Nat.not_le.mpr hbl
  have hAn : ∀ q, (fun q : Nat => ¬ B q ∧ s.heap.size ≤ q) q → s.heap.size ≤ q := fun _ h => h.2
  refine lv_aload_n hx hb dL_law_1401 rfl (lv_at hl 2 rfl) ?_
  refine law_ldv (kv := 1) hx hb hX hbl hbA hS hl dL_law_1402 dL_law_1403 dL_law_1404 dL_law_1405 dL_law_1406 (by decide) (li_in hi0 hi6 hL (k := 1) (by decide) (by decide)) ?_
  refine law_ldv (kv := 2) hx hb hX hbl hbA hS hl dL_law_1407 dL_law_1408 dL_law_1409 dL_law_1410 dL_law_1411 (by decide) (li_in hi0 hi6 hL (k := 2) (by decide) (by decide)) ?_
  refine law_ldv (kv := 3) hx hb hX hbl hbA hS hl dL_law_1412 dL_law_1413 dL_law_1414 dL_law_1415 dL_law_1416 (by decide) (li_in hi0 hi6 hL (k := 3) (by decide) (by decide)) ?_
  refine va_calli (va_runV (As := [.int (xs (ii + 1).toNatClampNeg), .int (xs (ii + 2).toNatClampNeg), .int (xs (ii + 3).toNatClampNeg)]) (rest := []) ⟨hx, hb, hml, hown, hts⟩ (wX9_first l dC dI gh (fun q : Nat => ¬ B q ∧ s.heap.size ≤ q) cc s.heap.size xx (xs (ii + 1).toNatClampNeg) (xs (ii + 2).toNatClampNeg) (xs (ii + 3).toNatClampNeg) hAn) (cwV 3 hts gL33_x rfl rfl rfl hd_yX9_first ⟨lel 2 2048 rfl, lel 48 84000 rfl⟩) ⟨PX_fb, XI.recv hXI, PX_use hXI hN hX1 (Nat.le_refl _) hS (fun _ h => h) (fun q h => ⟨fun z => absurd (hBb q z) (Nat.not_lt.mpr h), Nat.le_trans hS.1 h⟩)⟩ rfl rfl hl.1 rfl (lv_room (Nat.le_of_ble_eq_true rfl)) dL_law_1417 ⟨(show N + 0 ≤ (600000 : Nat) from by omega), (show SL + 0 ≤ (7302250 : Nat) from by omega)⟩) hS (fun q _ h => h.2) (fun q h => h.2) (fun rx _ t H1 locs1 ht hvm hprx hB1 hz1 hk1 hS1 => ?_)
  have hXq := hB1.1
  rw [ht] at hXq
  have hMI := MI.kept (fun q h1 h2 => hk1 q h1 (fun z => z.1 h2)) hMI
  have hXI := XI.moved hvm.symm hXq
  have hBb : ∀ q, B q → q < H1.size := fun q h => Nat.lt_of_lt_of_le (hBb q h) hz1
  refine W.know (fun hkn => ?_)
  have hsz1 := hkn.2
  clear hB1 hk1 hz1 hkn hXq
  have hS := hS1
  clear hS1
  obtain ⟨H, eH⟩ : ∃ h : Heap, h = H1 := ⟨_, rfl⟩
  rw [← eH] at hXI hMI hBb hS hsz1 ⊢
  refine lv_pop hx hb dL_law_1420 rfl ?_
  refine lv_aload_n hx hb dL_law_1421 rfl (lv_at hl 1 rfl) ?_
  refine law_ldv (kv := 1) hx hb hX hbl hbA hS hl dL_law_1422 dL_law_1423 dL_law_1424 dL_law_1425 dL_law_1426 (by decide) (li_in hi0 hi6 hL (k := 1) (by decide) (by decide)) ?_
  refine law_ldv (kv := 2) hx hb hX hbl hbA hS hl dL_law_1427 dL_law_1428 dL_law_1429 dL_law_1430 dL_law_1431 (by decide) (li_in hi0 hi6 hL (k := 2) (by decide) (by decide)) ?_
  refine law_ldv (kv := 3) hx hb hX hbl hbA hS hl dL_law_1432 dL_law_1433 dL_law_1434 dL_law_1435 dL_law_1436 (by decide) (li_in hi0 hi6 hL (k := 3) (by decide) (by decide)) ?_
  refine va_calli (va_runV (As := [.int (xs (ii + 1).toNatClampNeg), .int (xs (ii + 2).toNatClampNeg), .int (xs (ii + 3).toNatClampNeg)]) (rest := []) ⟨hx, hb, hml, hown, hts⟩ (wX10_first l dC dI gh B (tot H) s.heap.size mm (xs (ii + 1).toNatClampNeg) (xs (ii + 2).toNatClampNeg) (xs (ii + 3).toNatClampNeg) hB) (cwV 3 hts gL33_m rfl rfl rfl hd_yX10_first ⟨lel 4 2048 rfl, lel 93 84000 rfl⟩) ⟨PM_fb, MI.recv hMI, PM_use hMI (Nat.le_refl _) hN hX1 (Nat.le_refl _) hS (fun _ h => h) (fun q h z => absurd (hBb q z) (Nat.not_lt.mpr h))⟩ rfl rfl hl.1 rfl (lv_room (Nat.le_of_ble_eq_true rfl)) dL_law_1437 ⟨(show N + 0 + 0 ≤ (600000 : Nat) from by omega), (show SL + 0 + 0 ≤ (7302250 : Nat) from by omega)⟩) hS (fun q _ h => hB q h) (fun q h => hB q h) (fun rm _ t H1 locs1 ht hvm hprm hB1 hz1 hk1 hS1 => ?_)
  have hXq := hB1.1
  rw [ht] at hXq
  have htq := hB1.2.1
  rw [ht] at htq
  have hXI := XI.kept htq (fun q h1 h2 => hk1 q h1 (fun z => h2.1 z)) hXI
  have hMI := MI.moved hvm.symm hXq
  have hBb : ∀ q, B q → q < H1.size := fun q h => Nat.lt_of_lt_of_le (hBb q h) hz1
  refine W.know (fun hkn => ?_)
  have hsz1 := hkn.2
  clear hB1 hk1 hz1 hkn hXq
  have hS := hS1
  clear hS1
  obtain ⟨H, eH⟩ : ∃ h : Heap, h = H1 := ⟨_, rfl⟩
  rw [← eH] at hXI hMI hBb hS hsz1 ⊢
  refine lv_pop hx hb dL_law_1440 rfl ?_
  refine lv_goto (tgt := 2425) hx hb dL_law_1441 (by decide) ?_
  refine W.tight (n := SL) (by have q9 := XI.tot hXI; omega) ?_
  refine W.widen (k := N + 3) (n := SL) (by omega) (Nat.le_refl _) ?_
  exact kk _ _ _ _ hXI hMI hBb hS (by omega) hl
theorem gL34_x : GoodIn lw_tbl (wsV RL 155 RX9 yX9_seldom uX9_seldom) := gin_V tbq_4_53 tbq_4_54 tbq_4_55 tbq_1_1 tw_uX9_seldom guX9_seldom
theorem gL34_m : GoodIn lw_tbl (wsV RL 159 RX10 yX10_seldom uX10_seldom) := gin_V tbq_7_123 tbq_7_124 tbq_7_125 tbq_1_9 tw_uX10_seldom guX10_seldom
set_option maxHeartbeats 4000000 in
set_option maxRecDepth 100000 in
theorem law_c34 {p : Program} {e : Env} {s : State} {m : MethodId} {below : List Frame} {meth : Method} {c : Code} (l : Launch) {b L : Nat} {xs : Nat → Int32} (hL : L ≤ 3072) (C0 : lw_At p s m meth c b L xs) (dC : Nat → ClassId) (dI : Nat → Nat → Nat) (gh : Nat → Int32) (B : Nat → Prop) (cc SL xx mm : Nat) (hB : ∀ q, B q → s.heap.size ≤ q) (hcc : cc = tot s.heap + SL) (hSL : SL ≤ 5000000) (hN : nst s) (hX1 : sx s.heap.size s) {ii : Int32} {N : Nat} (hi0 : 0 ≤ ii.toInt) (hi6 : ii.toInt + 6 ≤ (L : Int)) (hNN : N ≤ 100000) {H : Heap} {locs : List Loc} {ls : Array Slot} (hXI : XI dC dI gh (fun q : Nat => ¬ B q ∧ s.heap.size ≤ q) cc xx s H) (hMI : MI dC dI gh B mm s H) (hBb : ∀ q, B q → q < H.size) (hS : va_S (fun q : Nat => s.heap.size ≤ q) s.heap H locs) (hl : lv_has ls 4 [(3, .int ii), (2, .ref mm), (1, .ref xx), (0, .ref b)]) (kk : ∀ (gh : Nat → Int32) (H : Heap) (locs : List Loc) (ls : Array Slot), XI dC dI gh (fun q : Nat => ¬ B q ∧ s.heap.size ≤ q) cc xx s H → MI dC dI gh B mm s H → (∀ q, B q → q < H.size) → va_S (fun q : Nat => s.heap.size ≤ q) s.heap H locs → H.size ≤ s.heap.size + (N + 3) → lv_has ls 4 [(3, .int ii), (2, .ref mm), (1, .ref xx), (0, .ref b)] → W p l e room_1 s m #[Value.ref b] below meth c H locs (N + 3) SL (lw_Z below #[Value.ref b] s) (F0 m 2425 ls [])) : W p l e room_1 s m #[Value.ref b] below meth c H locs N SL (lw_Z below #[Value.ref b] s) (F0 m 1444 ls []) := by
  obtain ⟨hx, hb, hr, hml, hown0, hts, hX, hbl, hlocks, hgv⟩ := id C0
  have hown : s.vm.findClass RL = some m.cls := hown0
  have hbA : ¬ (fun q : Nat => s.heap.size ≤ q) b := Nat.not_le.mpr hbl
  have hAn : ∀ q, (fun q : Nat => ¬ B q ∧ s.heap.size ≤ q) q → s.heap.size ≤ q := fun _ h => h.2
  refine lv_aload_n hx hb dL_law_1444 rfl (lv_at hl 2 rfl) ?_
  refine law_ldv (kv := 1) hx hb hX hbl hbA hS hl dL_law_1445 dL_law_1446 dL_law_1447 dL_law_1448 dL_law_1449 (by decide) (li_in hi0 hi6 hL (k := 1) (by decide) (by decide)) ?_
  refine law_ldv (kv := 2) hx hb hX hbl hbA hS hl dL_law_1450 dL_law_1451 dL_law_1452 dL_law_1453 dL_law_1454 (by decide) (li_in hi0 hi6 hL (k := 2) (by decide) (by decide)) ?_
  refine law_ldv (kv := 3) hx hb hX hbl hbA hS hl dL_law_1455 dL_law_1456 dL_law_1457 dL_law_1458 dL_law_1459 (by decide) (li_in hi0 hi6 hL (k := 3) (by decide) (by decide)) ?_
  refine va_calll (va_runV (As := [.int (xs (ii + 1).toNatClampNeg), .int (xs (ii + 2).toNatClampNeg), .int (xs (ii + 3).toNatClampNeg)]) (rest := []) ⟨hx, hb, hml, hown, hts⟩ (wX9_seldom l dC dI gh (fun q : Nat => ¬ B q ∧ s.heap.size ≤ q) cc s.heap.size xx (xs (ii + 1).toNatClampNeg) (xs (ii + 2).toNatClampNeg) (xs (ii + 3).toNatClampNeg) hAn) (cwV 3 hts gL34_x rfl rfl rfl hd_yX9_seldom ⟨lel 4 2048 rfl, lel 87 84000 rfl⟩) ⟨PX_fb, XI.recv hXI, PX_use hXI hN hX1 (Nat.le_refl _) hS (fun _ h => h) (fun q h => ⟨fun z => absurd (hBb q z) (Nat.not_lt.mpr h), Nat.le_trans hS.1 h⟩)⟩ rfl rfl hl.1 rfl (lv_room (Nat.le_of_ble_eq_true rfl)) dL_law_1460 ⟨(show N + 0 ≤ (600000 : Nat) from by omega), (show SL + 0 ≤ (7302250 : Nat) from by omega)⟩) hS (fun q _ h => h.2) (fun q h => h.2) (fun rx _ t H1 locs1 ht hvm hprx hB1 hz1 hk1 hS1 => ?_)
  have hXq := hB1.1
  rw [ht] at hXq
  have hMI := MI.kept (fun q h1 h2 => hk1 q h1 (fun z => z.1 h2)) hMI
  have hXI := XI.moved hvm.symm hXq
  have hBb : ∀ q, B q → q < H1.size := fun q h => Nat.lt_of_lt_of_le (hBb q h) hz1
  refine W.know (fun hkn => ?_)
  have hsz1 := hkn.2
  clear hB1 hk1 hz1 hkn hXq
  have hS := hS1
  clear hS1
  obtain ⟨H, eH⟩ : ∃ h : Heap, h = H1 := ⟨_, rfl⟩
  rw [← eH] at hXI hMI hBb hS hsz1 ⊢
  refine lv_pop2_2 hx hb dL_law_1463 rfl ?_
  refine lv_aload_n hx hb dL_law_1464 rfl (lv_at hl 1 rfl) ?_
  refine law_ldv (kv := 1) hx hb hX hbl hbA hS hl dL_law_1465 dL_law_1466 dL_law_1467 dL_law_1468 dL_law_1469 (by decide) (li_in hi0 hi6 hL (k := 1) (by decide) (by decide)) ?_
  refine law_ldv (kv := 2) hx hb hX hbl hbA hS hl dL_law_1470 dL_law_1471 dL_law_1472 dL_law_1473 dL_law_1474 (by decide) (li_in hi0 hi6 hL (k := 2) (by decide) (by decide)) ?_
  refine law_ldv (kv := 3) hx hb hX hbl hbA hS hl dL_law_1475 dL_law_1476 dL_law_1477 dL_law_1478 dL_law_1479 (by decide) (li_in hi0 hi6 hL (k := 3) (by decide) (by decide)) ?_
  refine va_calll (va_runV (As := [.int (xs (ii + 1).toNatClampNeg), .int (xs (ii + 2).toNatClampNeg), .int (xs (ii + 3).toNatClampNeg)]) (rest := []) ⟨hx, hb, hml, hown, hts⟩ (wX10_seldom l dC dI gh B (tot H) s.heap.size mm (xs (ii + 1).toNatClampNeg) (xs (ii + 2).toNatClampNeg) (xs (ii + 3).toNatClampNeg) hB) (cwV 3 hts gL34_m rfl rfl rfl hd_yX10_seldom ⟨lel 3 2048 rfl, lel 74 84000 rfl⟩) ⟨PM_fb, MI.recv hMI, PM_use hMI (Nat.le_refl _) hN hX1 (Nat.le_refl _) hS (fun _ h => h) (fun q h z => absurd (hBb q z) (Nat.not_lt.mpr h))⟩ rfl rfl hl.1 rfl (lv_room (Nat.le_of_ble_eq_true rfl)) dL_law_1480 ⟨(show N + 0 + 0 ≤ (600000 : Nat) from by omega), (show SL + 0 + 0 ≤ (7302250 : Nat) from by omega)⟩) hS (fun q _ h => hB q h) (fun q h => hB q h) (fun rm _ t H1 locs1 ht hvm hprm hB1 hz1 hk1 hS1 => ?_)
  have hXq := hB1.1
  rw [ht] at hXq
  have htq := hB1.2.1
  rw [ht] at htq
  have hXI := XI.kept htq (fun q h1 h2 => hk1 q h1 (fun z => h2.1 z)) hXI
  have hMI := MI.moved hvm.symm hXq
  have hBb : ∀ q, B q → q < H1.size := fun q h => Nat.lt_of_lt_of_le (hBb q h) hz1
  refine W.know (fun hkn => ?_)
  have hsz1 := hkn.2
  clear hB1 hk1 hz1 hkn hXq
  have hS := hS1
  clear hS1
  obtain ⟨H, eH⟩ : ∃ h : Heap, h = H1 := ⟨_, rfl⟩
  rw [← eH] at hXI hMI hBb hS hsz1 ⊢
  refine lv_pop2_2 hx hb dL_law_1483 rfl ?_
  refine lv_goto (tgt := 2425) hx hb dL_law_1484 (by decide) ?_
  refine W.tight (n := SL) (by have q9 := XI.tot hXI; omega) ?_
  refine W.widen (k := N + 3) (n := SL) (by omega) (Nat.le_refl _) ?_
  exact kk _ _ _ _ hXI hMI hBb hS (by omega) hl
theorem gL35_x : GoodIn lw_tbl (wsV RL 160 RX9 yX9_sets uX9_sets) := gin_V tbq_4_62 tbq_4_63 tbq_4_64 tbq_1_1 tw_uX9_sets guX9_sets
theorem gL35_m : GoodIn lw_tbl (wsV RL 164 RX10 yX10_sets uX10_sets) := gin_V tbq_7_132 tbq_7_133 tbq_7_134 tbq_1_9 tw_uX10_sets guX10_sets
set_option maxHeartbeats 4000000 in
set_option maxRecDepth 100000 in
theorem law_c35 {p : Program} {e : Env} {s : State} {m : MethodId} {below : List Frame} {meth : Method} {c : Code} (l : Launch) {b L : Nat} {xs : Nat → Int32} (hL : L ≤ 3072) (C0 : lw_At p s m meth c b L xs) (dC : Nat → ClassId) (dI : Nat → Nat → Nat) (gh : Nat → Int32) (B : Nat → Prop) (cc SL xx mm : Nat) (hB : ∀ q, B q → s.heap.size ≤ q) (hcc : cc = tot s.heap + SL) (hSL : SL ≤ 5000000) (hN : nst s) (hX1 : sx s.heap.size s) {ii : Int32} {N : Nat} (hi0 : 0 ≤ ii.toInt) (hi6 : ii.toInt + 6 ≤ (L : Int)) (hNN : N ≤ 100000) {H : Heap} {locs : List Loc} {ls : Array Slot} (hXI : XI dC dI gh (fun q : Nat => ¬ B q ∧ s.heap.size ≤ q) cc xx s H) (hMI : MI dC dI gh B mm s H) (hBb : ∀ q, B q → q < H.size) (hS : va_S (fun q : Nat => s.heap.size ≤ q) s.heap H locs) (hl : lv_has ls 4 [(3, .int ii), (2, .ref mm), (1, .ref xx), (0, .ref b)]) (kk : ∀ (gh : Nat → Int32) (H : Heap) (locs : List Loc) (ls : Array Slot), XI dC dI gh (fun q : Nat => ¬ B q ∧ s.heap.size ≤ q) cc xx s H → MI dC dI gh B mm s H → (∀ q, B q → q < H.size) → va_S (fun q : Nat => s.heap.size ≤ q) s.heap H locs → H.size ≤ s.heap.size + (N + 3) → lv_has ls 4 [(3, .int ii), (2, .ref mm), (1, .ref xx), (0, .ref b)] → W p l e room_1 s m #[Value.ref b] below meth c H locs (N + 3) SL (lw_Z below #[Value.ref b] s) (F0 m 2425 ls [])) : W p l e room_1 s m #[Value.ref b] below meth c H locs N SL (lw_Z below #[Value.ref b] s) (F0 m 1487 ls []) := by
  obtain ⟨hx, hb, hr, hml, hown0, hts, hX, hbl, hlocks, hgv⟩ := id C0
  have hown : s.vm.findClass RL = some m.cls := hown0
  have hbA : ¬ (fun q : Nat => s.heap.size ≤ q) b := Nat.not_le.mpr hbl
  have hAn : ∀ q, (fun q : Nat => ¬ B q ∧ s.heap.size ≤ q) q → s.heap.size ≤ q := fun _ h => h.2
  refine lv_aload_n hx hb dL_law_1487 rfl (lv_at hl 2 rfl) ?_
  refine law_ldv (kv := 1) hx hb hX hbl hbA hS hl dL_law_1488 dL_law_1489 dL_law_1490 dL_law_1491 dL_law_1492 (by decide) (li_in hi0 hi6 hL (k := 1) (by decide) (by decide)) ?_
  refine va_calll (va_runV (As := [.int (xs (ii + 1).toNatClampNeg)]) (rest := []) ⟨hx, hb, hml, hown, hts⟩ (wX9_sets l dC dI gh (fun q : Nat => ¬ B q ∧ s.heap.size ≤ q) cc s.heap.size xx (xs (ii + 1).toNatClampNeg) hAn) (cwV 1 hts gL35_x rfl rfl rfl hd_yX9_sets ⟨lel 3 2048 rfl, lel 60 84000 rfl⟩) ⟨PX_fb, XI.recv hXI, PX_use hXI hN hX1 (Nat.le_refl _) hS (fun _ h => h) (fun q h => ⟨fun z => absurd (hBb q z) (Nat.not_lt.mpr h), Nat.le_trans hS.1 h⟩)⟩ rfl rfl hl.1 rfl (lv_room (Nat.le_of_ble_eq_true rfl)) dL_law_1493 ⟨(show N + 0 ≤ (600000 : Nat) from by omega), (show SL + 0 ≤ (7302250 : Nat) from by omega)⟩) hS (fun q _ h => h.2) (fun q h => h.2) (fun rx _ t H1 locs1 ht hvm hprx hB1 hz1 hk1 hS1 => ?_)
  have hXq := hB1.1
  rw [ht] at hXq
  have hMI := MI.kept (fun q h1 h2 => hk1 q h1 (fun z => z.1 h2)) hMI
  have hXI := XI.moved hvm.symm hXq
  have hBb : ∀ q, B q → q < H1.size := fun q h => Nat.lt_of_lt_of_le (hBb q h) hz1
  refine W.know (fun hkn => ?_)
  have hsz1 := hkn.2
  clear hB1 hk1 hz1 hkn hXq
  have hS := hS1
  clear hS1
  obtain ⟨H, eH⟩ : ∃ h : Heap, h = H1 := ⟨_, rfl⟩
  rw [← eH] at hXI hMI hBb hS hsz1 ⊢
  refine lv_pop2_2 hx hb dL_law_1496 rfl ?_
  refine lv_aload_n hx hb dL_law_1497 rfl (lv_at hl 1 rfl) ?_
  refine law_ldv (kv := 1) hx hb hX hbl hbA hS hl dL_law_1498 dL_law_1499 dL_law_1500 dL_law_1501 dL_law_1502 (by decide) (li_in hi0 hi6 hL (k := 1) (by decide) (by decide)) ?_
  refine va_calll (va_runV (As := [.int (xs (ii + 1).toNatClampNeg)]) (rest := []) ⟨hx, hb, hml, hown, hts⟩ (wX10_sets l dC dI gh B (tot H) s.heap.size mm (xs (ii + 1).toNatClampNeg) hB) (cwV 1 hts gL35_m rfl rfl rfl hd_yX10_sets ⟨lel 2 2048 rfl, lel 46 84000 rfl⟩) ⟨PM_fb, MI.recv hMI, PM_use hMI (Nat.le_refl _) hN hX1 (Nat.le_refl _) hS (fun _ h => h) (fun q h z => absurd (hBb q z) (Nat.not_lt.mpr h))⟩ rfl rfl hl.1 rfl (lv_room (Nat.le_of_ble_eq_true rfl)) dL_law_1503 ⟨(show N + 0 + 0 ≤ (600000 : Nat) from by omega), (show SL + 0 + 0 ≤ (7302250 : Nat) from by omega)⟩) hS (fun q _ h => hB q h) (fun q h => hB q h) (fun rm _ t H1 locs1 ht hvm hprm hB1 hz1 hk1 hS1 => ?_)
  have hXq := hB1.1
  rw [ht] at hXq
  have htq := hB1.2.1
  rw [ht] at htq
  have hXI := XI.kept htq (fun q h1 h2 => hk1 q h1 (fun z => h2.1 z)) hXI
  have hMI := MI.moved hvm.symm hXq
  have hBb : ∀ q, B q → q < H1.size := fun q h => Nat.lt_of_lt_of_le (hBb q h) hz1
  refine W.know (fun hkn => ?_)
  have hsz1 := hkn.2
  clear hB1 hk1 hz1 hkn hXq
  have hS := hS1
  clear hS1
  obtain ⟨H, eH⟩ : ∃ h : Heap, h = H1 := ⟨_, rfl⟩
  rw [← eH] at hXI hMI hBb hS hsz1 ⊢
  refine lv_pop2_2 hx hb dL_law_1506 rfl ?_
  refine lv_goto (tgt := 2425) hx hb dL_law_1507 (by decide) ?_
  refine W.tight (n := SL) (by have q9 := XI.tot hXI; omega) ?_
  refine W.widen (k := N + 3) (n := SL) (by omega) (Nat.le_refl _) ?_
  exact kk _ _ _ _ hXI hMI hBb hS (by omega) hl
theorem gL36_x : GoodIn lw_tbl (wsV RL 165 RX9 yX9_judge uX9_judge) := gin_V tbq_4_66 tbq_4_67 tbq_4_68 tbq_1_1 tw_uX9_judge guX9_judge
theorem gL36_m : GoodIn lw_tbl (wsV RL 168 RX10 yX10_judge uX10_judge) := gin_V tbq_7_136 tbq_7_137 tbq_7_138 tbq_1_9 tw_uX10_judge guX10_judge
set_option maxHeartbeats 4000000 in
set_option maxRecDepth 100000 in
theorem law_c36 {p : Program} {e : Env} {s : State} {m : MethodId} {below : List Frame} {meth : Method} {c : Code} (l : Launch) {b L : Nat} {xs : Nat → Int32} (hL : L ≤ 3072) (C0 : lw_At p s m meth c b L xs) (dC : Nat → ClassId) (dI : Nat → Nat → Nat) (gh : Nat → Int32) (B : Nat → Prop) (cc SL xx mm : Nat) (hB : ∀ q, B q → s.heap.size ≤ q) (hcc : cc = tot s.heap + SL) (hSL : SL ≤ 5000000) (hN : nst s) (hX1 : sx s.heap.size s) {ii : Int32} {N : Nat} (hi0 : 0 ≤ ii.toInt) (hi6 : ii.toInt + 6 ≤ (L : Int)) (hNN : N ≤ 100000) {H : Heap} {locs : List Loc} {ls : Array Slot} (hXI : XI dC dI gh (fun q : Nat => ¬ B q ∧ s.heap.size ≤ q) cc xx s H) (hMI : MI dC dI gh B mm s H) (hBb : ∀ q, B q → q < H.size) (hS : va_S (fun q : Nat => s.heap.size ≤ q) s.heap H locs) (hl : lv_has ls 4 [(3, .int ii), (2, .ref mm), (1, .ref xx), (0, .ref b)]) (kk : ∀ (gh : Nat → Int32) (H : Heap) (locs : List Loc) (ls : Array Slot), XI dC dI gh (fun q : Nat => ¬ B q ∧ s.heap.size ≤ q) cc xx s H → MI dC dI gh B mm s H → (∀ q, B q → q < H.size) → va_S (fun q : Nat => s.heap.size ≤ q) s.heap H locs → H.size ≤ s.heap.size + (N + 3) → lv_has ls 4 [(3, .int ii), (2, .ref mm), (1, .ref xx), (0, .ref b)] → W p l e room_1 s m #[Value.ref b] below meth c H locs (N + 3) SL (lw_Z below #[Value.ref b] s) (F0 m 2425 ls [])) : W p l e room_1 s m #[Value.ref b] below meth c H locs N SL (lw_Z below #[Value.ref b] s) (F0 m 1510 ls []) := by
  obtain ⟨hx, hb, hr, hml, hown0, hts, hX, hbl, hlocks, hgv⟩ := id C0
  have hown : s.vm.findClass RL = some m.cls := hown0
  have hbA : ¬ (fun q : Nat => s.heap.size ≤ q) b := Nat.not_le.mpr hbl
  have hAn : ∀ q, (fun q : Nat => ¬ B q ∧ s.heap.size ≤ q) q → s.heap.size ≤ q := fun _ h => h.2
  refine lv_aload_n hx hb dL_law_1510 rfl (lv_at hl 2 rfl) ?_
  refine law_ldv (kv := 1) hx hb hX hbl hbA hS hl dL_law_1511 dL_law_1512 dL_law_1513 dL_law_1514 dL_law_1515 (by decide) (li_in hi0 hi6 hL (k := 1) (by decide) (by decide)) ?_
  refine law_ldv (kv := 2) hx hb hX hbl hbA hS hl dL_law_1516 dL_law_1517 dL_law_1518 dL_law_1519 dL_law_1520 (by decide) (li_in hi0 hi6 hL (k := 2) (by decide) (by decide)) ?_
  refine va_calli (va_runV (As := [.int (xs (ii + 1).toNatClampNeg), .int (xs (ii + 2).toNatClampNeg)]) (rest := []) ⟨hx, hb, hml, hown, hts⟩ (wX9_judge l dC dI gh (fun q : Nat => ¬ B q ∧ s.heap.size ≤ q) cc s.heap.size xx (xs (ii + 1).toNatClampNeg) (xs (ii + 2).toNatClampNeg) hAn) (cwV 2 hts gL36_x rfl rfl rfl hd_yX9_judge ⟨lel 3 2048 rfl, lel 69 84000 rfl⟩) ⟨PX_fb, XI.recv hXI, PX_use hXI hN hX1 (Nat.le_refl _) hS (fun _ h => h) (fun q h => ⟨fun z => absurd (hBb q z) (Nat.not_lt.mpr h), Nat.le_trans hS.1 h⟩)⟩ rfl rfl hl.1 rfl (lv_room (Nat.le_of_ble_eq_true rfl)) dL_law_1521 ⟨(show N + 0 ≤ (600000 : Nat) from by omega), (show SL + 0 ≤ (7302250 : Nat) from by omega)⟩) hS (fun q _ h => h.2) (fun q h => h.2) (fun rx _ t H1 locs1 ht hvm hprx hB1 hz1 hk1 hS1 => ?_)
  have hXq := hB1.1
  rw [ht] at hXq
  have hMI := MI.kept (fun q h1 h2 => hk1 q h1 (fun z => z.1 h2)) hMI
  have hXI := XI.moved hvm.symm hXq
  have hBb : ∀ q, B q → q < H1.size := fun q h => Nat.lt_of_lt_of_le (hBb q h) hz1
  refine W.know (fun hkn => ?_)
  have hsz1 := hkn.2
  clear hB1 hk1 hz1 hkn hXq
  have hS := hS1
  clear hS1
  obtain ⟨H, eH⟩ : ∃ h : Heap, h = H1 := ⟨_, rfl⟩
  rw [← eH] at hXI hMI hBb hS hsz1 ⊢
  refine lv_pop hx hb dL_law_1524 rfl ?_
  refine lv_aload_n hx hb dL_law_1525 rfl (lv_at hl 1 rfl) ?_
  refine law_ldv (kv := 1) hx hb hX hbl hbA hS hl dL_law_1526 dL_law_1527 dL_law_1528 dL_law_1529 dL_law_1530 (by decide) (li_in hi0 hi6 hL (k := 1) (by decide) (by decide)) ?_
  refine law_ldv (kv := 2) hx hb hX hbl hbA hS hl dL_law_1531 dL_law_1532 dL_law_1533 dL_law_1534 dL_law_1535 (by decide) (li_in hi0 hi6 hL (k := 2) (by decide) (by decide)) ?_
  refine va_calli (va_runV (As := [.int (xs (ii + 1).toNatClampNeg), .int (xs (ii + 2).toNatClampNeg)]) (rest := []) ⟨hx, hb, hml, hown, hts⟩ (wX10_judge l dC dI gh B (tot H) s.heap.size mm (xs (ii + 1).toNatClampNeg) (xs (ii + 2).toNatClampNeg) hB) (cwV 2 hts gL36_m rfl rfl rfl hd_yX10_judge ⟨lel 4 2048 rfl, lel 96 84000 rfl⟩) ⟨PM_fb, MI.recv hMI, PM_use hMI (Nat.le_refl _) hN hX1 (Nat.le_refl _) hS (fun _ h => h) (fun q h z => absurd (hBb q z) (Nat.not_lt.mpr h))⟩ rfl rfl hl.1 rfl (lv_room (Nat.le_of_ble_eq_true rfl)) dL_law_1536 ⟨(show N + 0 + 0 ≤ (600000 : Nat) from by omega), (show SL + 0 + 0 ≤ (7302250 : Nat) from by omega)⟩) hS (fun q _ h => hB q h) (fun q h => hB q h) (fun rm _ t H1 locs1 ht hvm hprm hB1 hz1 hk1 hS1 => ?_)
  have hXq := hB1.1
  rw [ht] at hXq
  have htq := hB1.2.1
  rw [ht] at htq
  have hXI := XI.kept htq (fun q h1 h2 => hk1 q h1 (fun z => h2.1 z)) hXI
  have hMI := MI.moved hvm.symm hXq
  have hBb : ∀ q, B q → q < H1.size := fun q h => Nat.lt_of_lt_of_le (hBb q h) hz1
  refine W.know (fun hkn => ?_)
  have hsz1 := hkn.2
  clear hB1 hk1 hz1 hkn hXq
  have hS := hS1
  clear hS1
  obtain ⟨H, eH⟩ : ∃ h : Heap, h = H1 := ⟨_, rfl⟩
  rw [← eH] at hXI hMI hBb hS hsz1 ⊢
  refine lv_pop hx hb dL_law_1539 rfl ?_
  refine lv_goto (tgt := 2425) hx hb dL_law_1540 (by decide) ?_
  refine W.tight (n := SL) (by have q9 := XI.tot hXI; omega) ?_
  refine W.widen (k := N + 3) (n := SL) (by omega) (Nat.le_refl _) ?_
  exact kk _ _ _ _ hXI hMI hBb hS (by omega) hl
theorem gL37_x : GoodIn lw_tbl (wsV RL 169 RX9 yX9_kept uX9_kept) := gin_V tbq_4_74 tbq_4_75 tbq_4_76 tbq_1_1 tw_uX9_kept guX9_kept
theorem gL37_m : GoodIn lw_tbl (wsV RL 172 RX10 yX10_kept uX10_kept) := gin_V tbq_7_148 tbq_7_149 tbq_7_150 tbq_1_9 tw_uX10_kept guX10_kept
set_option maxHeartbeats 4000000 in
set_option maxRecDepth 100000 in
theorem law_c37 {p : Program} {e : Env} {s : State} {m : MethodId} {below : List Frame} {meth : Method} {c : Code} (l : Launch) {b L : Nat} {xs : Nat → Int32} (hL : L ≤ 3072) (C0 : lw_At p s m meth c b L xs) (dC : Nat → ClassId) (dI : Nat → Nat → Nat) (gh : Nat → Int32) (B : Nat → Prop) (cc SL xx mm : Nat) (hB : ∀ q, B q → s.heap.size ≤ q) (hcc : cc = tot s.heap + SL) (hSL : SL ≤ 5000000) (hN : nst s) (hX1 : sx s.heap.size s) {ii : Int32} {N : Nat} (hi0 : 0 ≤ ii.toInt) (hi6 : ii.toInt + 6 ≤ (L : Int)) (hNN : N ≤ 100000) {H : Heap} {locs : List Loc} {ls : Array Slot} (hXI : XI dC dI gh (fun q : Nat => ¬ B q ∧ s.heap.size ≤ q) cc xx s H) (hMI : MI dC dI gh B mm s H) (hBb : ∀ q, B q → q < H.size) (hS : va_S (fun q : Nat => s.heap.size ≤ q) s.heap H locs) (hl : lv_has ls 4 [(3, .int ii), (2, .ref mm), (1, .ref xx), (0, .ref b)]) (kk : ∀ (gh : Nat → Int32) (H : Heap) (locs : List Loc) (ls : Array Slot), XI dC dI gh (fun q : Nat => ¬ B q ∧ s.heap.size ≤ q) cc xx s H → MI dC dI gh B mm s H → (∀ q, B q → q < H.size) → va_S (fun q : Nat => s.heap.size ≤ q) s.heap H locs → H.size ≤ s.heap.size + (N + 3) → lv_has ls 4 [(3, .int ii), (2, .ref mm), (1, .ref xx), (0, .ref b)] → W p l e room_1 s m #[Value.ref b] below meth c H locs (N + 3) SL (lw_Z below #[Value.ref b] s) (F0 m 2425 ls [])) : W p l e room_1 s m #[Value.ref b] below meth c H locs N SL (lw_Z below #[Value.ref b] s) (F0 m 1543 ls []) := by
  obtain ⟨hx, hb, hr, hml, hown0, hts, hX, hbl, hlocks, hgv⟩ := id C0
  have hown : s.vm.findClass RL = some m.cls := hown0
  have hbA : ¬ (fun q : Nat => s.heap.size ≤ q) b := Nat.not_le.mpr hbl
  have hAn : ∀ q, (fun q : Nat => ¬ B q ∧ s.heap.size ≤ q) q → s.heap.size ≤ q := fun _ h => h.2
  refine lv_aload_n hx hb dL_law_1543 rfl (lv_at hl 2 rfl) ?_
  refine law_ldv (kv := 1) hx hb hX hbl hbA hS hl dL_law_1544 dL_law_1545 dL_law_1546 dL_law_1547 dL_law_1548 (by decide) (li_in hi0 hi6 hL (k := 1) (by decide) (by decide)) ?_
  refine law_ldv (kv := 2) hx hb hX hbl hbA hS hl dL_law_1549 dL_law_1550 dL_law_1551 dL_law_1552 dL_law_1553 (by decide) (li_in hi0 hi6 hL (k := 2) (by decide) (by decide)) ?_
  refine va_calli (va_runV (As := [.int (xs (ii + 1).toNatClampNeg), .int (xs (ii + 2).toNatClampNeg)]) (rest := []) ⟨hx, hb, hml, hown, hts⟩ (wX9_kept l dC dI gh (fun q : Nat => ¬ B q ∧ s.heap.size ≤ q) cc s.heap.size xx (xs (ii + 1).toNatClampNeg) (xs (ii + 2).toNatClampNeg) hAn) (cwV 2 hts gL37_x rfl rfl rfl hd_yX9_kept ⟨lel 3 2048 rfl, lel 70 84000 rfl⟩) ⟨PX_fb, XI.recv hXI, PX_use hXI hN hX1 (Nat.le_refl _) hS (fun _ h => h) (fun q h => ⟨fun z => absurd (hBb q z) (Nat.not_lt.mpr h), Nat.le_trans hS.1 h⟩)⟩ rfl rfl hl.1 rfl (lv_room (Nat.le_of_ble_eq_true rfl)) dL_law_1554 ⟨(show N + 0 ≤ (600000 : Nat) from by omega), (show SL + 0 ≤ (7302250 : Nat) from by omega)⟩) hS (fun q _ h => h.2) (fun q h => h.2) (fun rx _ t H1 locs1 ht hvm hprx hB1 hz1 hk1 hS1 => ?_)
  have hXq := hB1.1
  rw [ht] at hXq
  have hMI := MI.kept (fun q h1 h2 => hk1 q h1 (fun z => z.1 h2)) hMI
  have hXI := XI.moved hvm.symm hXq
  have hBb : ∀ q, B q → q < H1.size := fun q h => Nat.lt_of_lt_of_le (hBb q h) hz1
  refine W.know (fun hkn => ?_)
  have hsz1 := hkn.2
  clear hB1 hk1 hz1 hkn hXq
  have hS := hS1
  clear hS1
  obtain ⟨H, eH⟩ : ∃ h : Heap, h = H1 := ⟨_, rfl⟩
  rw [← eH] at hXI hMI hBb hS hsz1 ⊢
  refine lv_pop hx hb dL_law_1557 rfl ?_
  refine lv_aload_n hx hb dL_law_1558 rfl (lv_at hl 1 rfl) ?_
  refine law_ldv (kv := 1) hx hb hX hbl hbA hS hl dL_law_1559 dL_law_1560 dL_law_1561 dL_law_1562 dL_law_1563 (by decide) (li_in hi0 hi6 hL (k := 1) (by decide) (by decide)) ?_
  refine law_ldv (kv := 2) hx hb hX hbl hbA hS hl dL_law_1564 dL_law_1565 dL_law_1566 dL_law_1567 dL_law_1568 (by decide) (li_in hi0 hi6 hL (k := 2) (by decide) (by decide)) ?_
  refine va_calli (va_runV (As := [.int (xs (ii + 1).toNatClampNeg), .int (xs (ii + 2).toNatClampNeg)]) (rest := []) ⟨hx, hb, hml, hown, hts⟩ (wX10_kept l dC dI gh B (tot H) s.heap.size mm (xs (ii + 1).toNatClampNeg) (xs (ii + 2).toNatClampNeg) hB) (cwV 2 hts gL37_m rfl rfl rfl hd_yX10_kept ⟨lel 4 2048 rfl, lel 99 84000 rfl⟩) ⟨PM_fb, MI.recv hMI, PM_use hMI (Nat.le_refl _) hN hX1 (Nat.le_refl _) hS (fun _ h => h) (fun q h z => absurd (hBb q z) (Nat.not_lt.mpr h))⟩ rfl rfl hl.1 rfl (lv_room (Nat.le_of_ble_eq_true rfl)) dL_law_1569 ⟨(show N + 0 + 0 ≤ (600000 : Nat) from by omega), (show SL + 0 + 0 ≤ (7302250 : Nat) from by omega)⟩) hS (fun q _ h => hB q h) (fun q h => hB q h) (fun rm _ t H1 locs1 ht hvm hprm hB1 hz1 hk1 hS1 => ?_)
  have hXq := hB1.1
  rw [ht] at hXq
  have htq := hB1.2.1
  rw [ht] at htq
  have hXI := XI.kept htq (fun q h1 h2 => hk1 q h1 (fun z => h2.1 z)) hXI
  have hMI := MI.moved hvm.symm hXq
  have hBb : ∀ q, B q → q < H1.size := fun q h => Nat.lt_of_lt_of_le (hBb q h) hz1
  refine W.know (fun hkn => ?_)
  have hsz1 := hkn.2
  clear hB1 hk1 hz1 hkn hXq
  have hS := hS1
  clear hS1
  obtain ⟨H, eH⟩ : ∃ h : Heap, h = H1 := ⟨_, rfl⟩
  rw [← eH] at hXI hMI hBb hS hsz1 ⊢
  refine lv_pop hx hb dL_law_1572 rfl ?_
  refine lv_goto (tgt := 2425) hx hb dL_law_1573 (by decide) ?_
  refine W.tight (n := SL) (by have q9 := XI.tot hXI; omega) ?_
  refine W.widen (k := N + 3) (n := SL) (by omega) (Nat.le_refl _) ?_
  exact kk _ _ _ _ hXI hMI hBb hS (by omega) hl
theorem gL38_x : GoodIn lw_tbl (wsV RL 173 RX9 yX9_between uX9_between) := gin_V tbq_4_83 tbq_4_84 tbq_4_85 tbq_1_1 tw_uX9_between guX9_between
theorem gL38_m : GoodIn lw_tbl (wsV RL 176 RX10 yX10_between uX10_between) := gin_V tbq_7_152 tbq_7_153 tbq_7_154 tbq_1_9 tw_uX10_between guX10_between
set_option maxHeartbeats 4000000 in
set_option maxRecDepth 100000 in
theorem law_c38 {p : Program} {e : Env} {s : State} {m : MethodId} {below : List Frame} {meth : Method} {c : Code} (l : Launch) {b L : Nat} {xs : Nat → Int32} (hL : L ≤ 3072) (C0 : lw_At p s m meth c b L xs) (dC : Nat → ClassId) (dI : Nat → Nat → Nat) (gh : Nat → Int32) (B : Nat → Prop) (cc SL xx mm : Nat) (hB : ∀ q, B q → s.heap.size ≤ q) (hcc : cc = tot s.heap + SL) (hSL : SL ≤ 5000000) (hN : nst s) (hX1 : sx s.heap.size s) {ii : Int32} {N : Nat} (hi0 : 0 ≤ ii.toInt) (hi6 : ii.toInt + 6 ≤ (L : Int)) (hNN : N ≤ 100000) {H : Heap} {locs : List Loc} {ls : Array Slot} (hXI : XI dC dI gh (fun q : Nat => ¬ B q ∧ s.heap.size ≤ q) cc xx s H) (hMI : MI dC dI gh B mm s H) (hBb : ∀ q, B q → q < H.size) (hS : va_S (fun q : Nat => s.heap.size ≤ q) s.heap H locs) (hl : lv_has ls 4 [(3, .int ii), (2, .ref mm), (1, .ref xx), (0, .ref b)]) (kk : ∀ (gh : Nat → Int32) (H : Heap) (locs : List Loc) (ls : Array Slot), XI dC dI gh (fun q : Nat => ¬ B q ∧ s.heap.size ≤ q) cc xx s H → MI dC dI gh B mm s H → (∀ q, B q → q < H.size) → va_S (fun q : Nat => s.heap.size ≤ q) s.heap H locs → H.size ≤ s.heap.size + (N + 3) → lv_has ls 4 [(3, .int ii), (2, .ref mm), (1, .ref xx), (0, .ref b)] → W p l e room_1 s m #[Value.ref b] below meth c H locs (N + 3) SL (lw_Z below #[Value.ref b] s) (F0 m 2425 ls [])) : W p l e room_1 s m #[Value.ref b] below meth c H locs N SL (lw_Z below #[Value.ref b] s) (F0 m 1576 ls []) := by
  obtain ⟨hx, hb, hr, hml, hown0, hts, hX, hbl, hlocks, hgv⟩ := id C0
  have hown : s.vm.findClass RL = some m.cls := hown0
  have hbA : ¬ (fun q : Nat => s.heap.size ≤ q) b := Nat.not_le.mpr hbl
  have hAn : ∀ q, (fun q : Nat => ¬ B q ∧ s.heap.size ≤ q) q → s.heap.size ≤ q := fun _ h => h.2
  refine lv_aload_n hx hb dL_law_1576 rfl (lv_at hl 2 rfl) ?_
  refine law_ldv (kv := 1) hx hb hX hbl hbA hS hl dL_law_1577 dL_law_1578 dL_law_1579 dL_law_1580 dL_law_1581 (by decide) (li_in hi0 hi6 hL (k := 1) (by decide) (by decide)) ?_
  refine law_ldv (kv := 2) hx hb hX hbl hbA hS hl dL_law_1582 dL_law_1583 dL_law_1584 dL_law_1585 dL_law_1586 (by decide) (li_in hi0 hi6 hL (k := 2) (by decide) (by decide)) ?_
  refine law_ldv (kv := 3) hx hb hX hbl hbA hS hl dL_law_1587 dL_law_1588 dL_law_1589 dL_law_1590 dL_law_1591 (by decide) (li_in hi0 hi6 hL (k := 3) (by decide) (by decide)) ?_
  refine va_calli (va_runV (As := [.int (xs (ii + 1).toNatClampNeg), .int (xs (ii + 2).toNatClampNeg), .int (xs (ii + 3).toNatClampNeg)]) (rest := []) ⟨hx, hb, hml, hown, hts⟩ (wX9_between l dC dI gh (fun q : Nat => ¬ B q ∧ s.heap.size ≤ q) cc s.heap.size xx (xs (ii + 1).toNatClampNeg) (xs (ii + 2).toNatClampNeg) (xs (ii + 3).toNatClampNeg) hAn) (cwV 3 hts gL38_x rfl rfl rfl hd_yX9_between ⟨lel 3 2048 rfl, lel 66 84000 rfl⟩) ⟨PX_fb, XI.recv hXI, PX_use hXI hN hX1 (Nat.le_refl _) hS (fun _ h => h) (fun q h => ⟨fun z => absurd (hBb q z) (Nat.not_lt.mpr h), Nat.le_trans hS.1 h⟩)⟩ rfl rfl hl.1 rfl (lv_room (Nat.le_of_ble_eq_true rfl)) dL_law_1592 ⟨(show N + 0 ≤ (600000 : Nat) from by omega), (show SL + 0 ≤ (7302250 : Nat) from by omega)⟩) hS (fun q _ h => h.2) (fun q h => h.2) (fun rx _ t H1 locs1 ht hvm hprx hB1 hz1 hk1 hS1 => ?_)
  have hXq := hB1.1
  rw [ht] at hXq
  have hMI := MI.kept (fun q h1 h2 => hk1 q h1 (fun z => z.1 h2)) hMI
  have hXI := XI.moved hvm.symm hXq
  have hBb : ∀ q, B q → q < H1.size := fun q h => Nat.lt_of_lt_of_le (hBb q h) hz1
  refine W.know (fun hkn => ?_)
  have hsz1 := hkn.2
  clear hB1 hk1 hz1 hkn hXq
  have hS := hS1
  clear hS1
  obtain ⟨H, eH⟩ : ∃ h : Heap, h = H1 := ⟨_, rfl⟩
  rw [← eH] at hXI hMI hBb hS hsz1 ⊢
  refine lv_pop hx hb dL_law_1595 rfl ?_
  refine lv_aload_n hx hb dL_law_1596 rfl (lv_at hl 1 rfl) ?_
  refine law_ldv (kv := 1) hx hb hX hbl hbA hS hl dL_law_1597 dL_law_1598 dL_law_1599 dL_law_1600 dL_law_1601 (by decide) (li_in hi0 hi6 hL (k := 1) (by decide) (by decide)) ?_
  refine law_ldv (kv := 2) hx hb hX hbl hbA hS hl dL_law_1602 dL_law_1603 dL_law_1604 dL_law_1605 dL_law_1606 (by decide) (li_in hi0 hi6 hL (k := 2) (by decide) (by decide)) ?_
  refine law_ldv (kv := 3) hx hb hX hbl hbA hS hl dL_law_1607 dL_law_1608 dL_law_1609 dL_law_1610 dL_law_1611 (by decide) (li_in hi0 hi6 hL (k := 3) (by decide) (by decide)) ?_
  refine va_calli (va_runV (As := [.int (xs (ii + 1).toNatClampNeg), .int (xs (ii + 2).toNatClampNeg), .int (xs (ii + 3).toNatClampNeg)]) (rest := []) ⟨hx, hb, hml, hown, hts⟩ (wX10_between l dC dI gh B (tot H) s.heap.size mm (xs (ii + 1).toNatClampNeg) (xs (ii + 2).toNatClampNeg) (xs (ii + 3).toNatClampNeg) hB) (cwV 3 hts gL38_m rfl rfl rfl hd_yX10_between ⟨lel 4 2048 rfl, lel 92 84000 rfl⟩) ⟨PM_fb, MI.recv hMI, PM_use hMI (Nat.le_refl _) hN hX1 (Nat.le_refl _) hS (fun _ h => h) (fun q h z => absurd (hBb q z) (Nat.not_lt.mpr h))⟩ rfl rfl hl.1 rfl (lv_room (Nat.le_of_ble_eq_true rfl)) dL_law_1612 ⟨(show N + 0 + 0 ≤ (600000 : Nat) from by omega), (show SL + 0 + 0 ≤ (7302250 : Nat) from by omega)⟩) hS (fun q _ h => hB q h) (fun q h => hB q h) (fun rm _ t H1 locs1 ht hvm hprm hB1 hz1 hk1 hS1 => ?_)
  have hXq := hB1.1
  rw [ht] at hXq
  have htq := hB1.2.1
  rw [ht] at htq
  have hXI := XI.kept htq (fun q h1 h2 => hk1 q h1 (fun z => h2.1 z)) hXI
  have hMI := MI.moved hvm.symm hXq
  have hBb : ∀ q, B q → q < H1.size := fun q h => Nat.lt_of_lt_of_le (hBb q h) hz1
  refine W.know (fun hkn => ?_)
  have hsz1 := hkn.2
  clear hB1 hk1 hz1 hkn hXq
  have hS := hS1
  clear hS1
  obtain ⟨H, eH⟩ : ∃ h : Heap, h = H1 := ⟨_, rfl⟩
  rw [← eH] at hXI hMI hBb hS hsz1 ⊢
  refine lv_pop hx hb dL_law_1615 rfl ?_
  refine lv_goto (tgt := 2425) hx hb dL_law_1616 (by decide) ?_
  refine W.tight (n := SL) (by have q9 := XI.tot hXI; omega) ?_
  refine W.widen (k := N + 3) (n := SL) (by omega) (Nat.le_refl _) ?_
  exact kk _ _ _ _ hXI hMI hBb hS (by omega) hl
theorem gL39_x : GoodIn lw_tbl (wsV RL 177 RX9 yX9_run uX9_run) := gin_V tbq_4_87 tbq_4_88 tbq_4_89 tbq_1_1 tw_uX9_run guX9_run
theorem gL39_m : GoodIn lw_tbl (wsV RL 180 RX10 yX10_run uX10_run) := gin_V tbq_7_156 tbq_7_157 tbq_7_158 tbq_1_9 tw_uX10_run guX10_run
set_option maxHeartbeats 4000000 in
set_option maxRecDepth 100000 in
theorem law_c39 {p : Program} {e : Env} {s : State} {m : MethodId} {below : List Frame} {meth : Method} {c : Code} (l : Launch) {b L : Nat} {xs : Nat → Int32} (hL : L ≤ 3072) (C0 : lw_At p s m meth c b L xs) (dC : Nat → ClassId) (dI : Nat → Nat → Nat) (gh : Nat → Int32) (B : Nat → Prop) (cc SL xx mm : Nat) (hB : ∀ q, B q → s.heap.size ≤ q) (hcc : cc = tot s.heap + SL) (hSL : SL ≤ 5000000) (hN : nst s) (hX1 : sx s.heap.size s) {ii : Int32} {N : Nat} (hi0 : 0 ≤ ii.toInt) (hi6 : ii.toInt + 6 ≤ (L : Int)) (hNN : N ≤ 100000) {H : Heap} {locs : List Loc} {ls : Array Slot} (hXI : XI dC dI gh (fun q : Nat => ¬ B q ∧ s.heap.size ≤ q) cc xx s H) (hMI : MI dC dI gh B mm s H) (hBb : ∀ q, B q → q < H.size) (hS : va_S (fun q : Nat => s.heap.size ≤ q) s.heap H locs) (hl : lv_has ls 4 [(3, .int ii), (2, .ref mm), (1, .ref xx), (0, .ref b)]) (kk : ∀ (gh : Nat → Int32) (H : Heap) (locs : List Loc) (ls : Array Slot), XI dC dI gh (fun q : Nat => ¬ B q ∧ s.heap.size ≤ q) cc xx s H → MI dC dI gh B mm s H → (∀ q, B q → q < H.size) → va_S (fun q : Nat => s.heap.size ≤ q) s.heap H locs → H.size ≤ s.heap.size + (N + 3) → lv_has ls 4 [(3, .int ii), (2, .ref mm), (1, .ref xx), (0, .ref b)] → W p l e room_1 s m #[Value.ref b] below meth c H locs (N + 3) SL (lw_Z below #[Value.ref b] s) (F0 m 2425 ls [])) : W p l e room_1 s m #[Value.ref b] below meth c H locs N SL (lw_Z below #[Value.ref b] s) (F0 m 1619 ls []) := by
  obtain ⟨hx, hb, hr, hml, hown0, hts, hX, hbl, hlocks, hgv⟩ := id C0
  have hown : s.vm.findClass RL = some m.cls := hown0
  have hbA : ¬ (fun q : Nat => s.heap.size ≤ q) b := Nat.not_le.mpr hbl
  have hAn : ∀ q, (fun q : Nat => ¬ B q ∧ s.heap.size ≤ q) q → s.heap.size ≤ q := fun _ h => h.2
  refine lv_aload_n hx hb dL_law_1619 rfl (lv_at hl 2 rfl) ?_
  refine law_ldv (kv := 1) hx hb hX hbl hbA hS hl dL_law_1620 dL_law_1621 dL_law_1622 dL_law_1623 dL_law_1624 (by decide) (li_in hi0 hi6 hL (k := 1) (by decide) (by decide)) ?_
  refine law_ldv (kv := 2) hx hb hX hbl hbA hS hl dL_law_1625 dL_law_1626 dL_law_1627 dL_law_1628 dL_law_1629 (by decide) (li_in hi0 hi6 hL (k := 2) (by decide) (by decide)) ?_
  refine va_calli (va_runV (As := [.int (xs (ii + 1).toNatClampNeg), .int (xs (ii + 2).toNatClampNeg)]) (rest := []) ⟨hx, hb, hml, hown, hts⟩ (wX9_run l dC dI gh (fun q : Nat => ¬ B q ∧ s.heap.size ≤ q) cc s.heap.size xx (xs (ii + 1).toNatClampNeg) (xs (ii + 2).toNatClampNeg) hAn) (cwV 2 hts gL39_x rfl rfl rfl hd_yX9_run ⟨lel 2 2048 rfl, lel 48 84000 rfl⟩) ⟨PX_fb, XI.recv hXI, PX_use hXI hN hX1 (Nat.le_refl _) hS (fun _ h => h) (fun q h => ⟨fun z => absurd (hBb q z) (Nat.not_lt.mpr h), Nat.le_trans hS.1 h⟩)⟩ rfl rfl hl.1 rfl (lv_room (Nat.le_of_ble_eq_true rfl)) dL_law_1630 ⟨(show N + 0 ≤ (600000 : Nat) from by omega), (show SL + 0 ≤ (7302250 : Nat) from by omega)⟩) hS (fun q _ h => h.2) (fun q h => h.2) (fun rx _ t H1 locs1 ht hvm hprx hB1 hz1 hk1 hS1 => ?_)
  have hXq := hB1.1
  rw [ht] at hXq
  have hMI := MI.kept (fun q h1 h2 => hk1 q h1 (fun z => z.1 h2)) hMI
  have hXI := XI.moved hvm.symm hXq
  have hBb : ∀ q, B q → q < H1.size := fun q h => Nat.lt_of_lt_of_le (hBb q h) hz1
  refine W.know (fun hkn => ?_)
  have hsz1 := hkn.2
  clear hB1 hk1 hz1 hkn hXq
  have hS := hS1
  clear hS1
  obtain ⟨H, eH⟩ : ∃ h : Heap, h = H1 := ⟨_, rfl⟩
  rw [← eH] at hXI hMI hBb hS hsz1 ⊢
  refine lv_pop hx hb dL_law_1633 rfl ?_
  refine lv_aload_n hx hb dL_law_1634 rfl (lv_at hl 1 rfl) ?_
  refine law_ldv (kv := 1) hx hb hX hbl hbA hS hl dL_law_1635 dL_law_1636 dL_law_1637 dL_law_1638 dL_law_1639 (by decide) (li_in hi0 hi6 hL (k := 1) (by decide) (by decide)) ?_
  refine law_ldv (kv := 2) hx hb hX hbl hbA hS hl dL_law_1640 dL_law_1641 dL_law_1642 dL_law_1643 dL_law_1644 (by decide) (li_in hi0 hi6 hL (k := 2) (by decide) (by decide)) ?_
  refine va_calli (va_runV (As := [.int (xs (ii + 1).toNatClampNeg), .int (xs (ii + 2).toNatClampNeg)]) (rest := []) ⟨hx, hb, hml, hown, hts⟩ (wX10_run l dC dI gh B (tot H) s.heap.size mm (xs (ii + 1).toNatClampNeg) (xs (ii + 2).toNatClampNeg) hB) (cwV 2 hts gL39_m rfl rfl rfl hd_yX10_run ⟨lel 3 2048 rfl, lel 72 84000 rfl⟩) ⟨PM_fb, MI.recv hMI, PM_use hMI (Nat.le_refl _) hN hX1 (Nat.le_refl _) hS (fun _ h => h) (fun q h z => absurd (hBb q z) (Nat.not_lt.mpr h))⟩ rfl rfl hl.1 rfl (lv_room (Nat.le_of_ble_eq_true rfl)) dL_law_1645 ⟨(show N + 0 + 0 ≤ (600000 : Nat) from by omega), (show SL + 0 + 0 ≤ (7302250 : Nat) from by omega)⟩) hS (fun q _ h => hB q h) (fun q h => hB q h) (fun rm _ t H1 locs1 ht hvm hprm hB1 hz1 hk1 hS1 => ?_)
  have hXq := hB1.1
  rw [ht] at hXq
  have htq := hB1.2.1
  rw [ht] at htq
  have hXI := XI.kept htq (fun q h1 h2 => hk1 q h1 (fun z => h2.1 z)) hXI
  have hMI := MI.moved hvm.symm hXq
  have hBb : ∀ q, B q → q < H1.size := fun q h => Nat.lt_of_lt_of_le (hBb q h) hz1
  refine W.know (fun hkn => ?_)
  have hsz1 := hkn.2
  clear hB1 hk1 hz1 hkn hXq
  have hS := hS1
  clear hS1
  obtain ⟨H, eH⟩ : ∃ h : Heap, h = H1 := ⟨_, rfl⟩
  rw [← eH] at hXI hMI hBb hS hsz1 ⊢
  refine lv_pop hx hb dL_law_1648 rfl ?_
  refine lv_goto (tgt := 2425) hx hb dL_law_1649 (by decide) ?_
  refine W.tight (n := SL) (by have q9 := XI.tot hXI; omega) ?_
  refine W.widen (k := N + 3) (n := SL) (by omega) (Nat.le_refl _) ?_
  exact kk _ _ _ _ hXI hMI hBb hS (by omega) hl
theorem gL40_x : GoodIn lw_tbl (wsV RL 181 RX9 yX9_window uX9_window) := gin_V tbq_4_91 tbq_4_92 tbq_4_93 tbq_1_1 tw_uX9_window guX9_window
theorem gL40_m : GoodIn lw_tbl (wsV RL 184 RX10 yX10_window uX10_window) := gin_V tbq_7_160 tbq_7_161 tbq_7_162 tbq_1_9 tw_uX10_window guX10_window
set_option maxHeartbeats 4000000 in
set_option maxRecDepth 100000 in
theorem law_c40 {p : Program} {e : Env} {s : State} {m : MethodId} {below : List Frame} {meth : Method} {c : Code} (l : Launch) {b L : Nat} {xs : Nat → Int32} (hL : L ≤ 3072) (C0 : lw_At p s m meth c b L xs) (dC : Nat → ClassId) (dI : Nat → Nat → Nat) (gh : Nat → Int32) (B : Nat → Prop) (cc SL xx mm : Nat) (hB : ∀ q, B q → s.heap.size ≤ q) (hcc : cc = tot s.heap + SL) (hSL : SL ≤ 5000000) (hN : nst s) (hX1 : sx s.heap.size s) {ii : Int32} {N : Nat} (hi0 : 0 ≤ ii.toInt) (hi6 : ii.toInt + 6 ≤ (L : Int)) (hNN : N ≤ 100000) {H : Heap} {locs : List Loc} {ls : Array Slot} (hXI : XI dC dI gh (fun q : Nat => ¬ B q ∧ s.heap.size ≤ q) cc xx s H) (hMI : MI dC dI gh B mm s H) (hBb : ∀ q, B q → q < H.size) (hS : va_S (fun q : Nat => s.heap.size ≤ q) s.heap H locs) (hl : lv_has ls 4 [(3, .int ii), (2, .ref mm), (1, .ref xx), (0, .ref b)]) (kk : ∀ (gh : Nat → Int32) (H : Heap) (locs : List Loc) (ls : Array Slot), XI dC dI gh (fun q : Nat => ¬ B q ∧ s.heap.size ≤ q) cc xx s H → MI dC dI gh B mm s H → (∀ q, B q → q < H.size) → va_S (fun q : Nat => s.heap.size ≤ q) s.heap H locs → H.size ≤ s.heap.size + (N + 3) → lv_has ls 4 [(3, .int ii), (2, .ref mm), (1, .ref xx), (0, .ref b)] → W p l e room_1 s m #[Value.ref b] below meth c H locs (N + 3) SL (lw_Z below #[Value.ref b] s) (F0 m 2425 ls [])) : W p l e room_1 s m #[Value.ref b] below meth c H locs N SL (lw_Z below #[Value.ref b] s) (F0 m 1652 ls []) := by
  obtain ⟨hx, hb, hr, hml, hown0, hts, hX, hbl, hlocks, hgv⟩ := id C0
  have hown : s.vm.findClass RL = some m.cls := hown0
  have hbA : ¬ (fun q : Nat => s.heap.size ≤ q) b := Nat.not_le.mpr hbl
  have hAn : ∀ q, (fun q : Nat => ¬ B q ∧ s.heap.size ≤ q) q → s.heap.size ≤ q := fun _ h => h.2
  refine lv_aload_n hx hb dL_law_1652 rfl (lv_at hl 2 rfl) ?_
  refine law_ldv (kv := 1) hx hb hX hbl hbA hS hl dL_law_1653 dL_law_1654 dL_law_1655 dL_law_1656 dL_law_1657 (by decide) (li_in hi0 hi6 hL (k := 1) (by decide) (by decide)) ?_
  refine law_ldv (kv := 2) hx hb hX hbl hbA hS hl dL_law_1658 dL_law_1659 dL_law_1660 dL_law_1661 dL_law_1662 (by decide) (li_in hi0 hi6 hL (k := 2) (by decide) (by decide)) ?_
  refine law_ldv (kv := 3) hx hb hX hbl hbA hS hl dL_law_1663 dL_law_1664 dL_law_1665 dL_law_1666 dL_law_1667 (by decide) (li_in hi0 hi6 hL (k := 3) (by decide) (by decide)) ?_
  refine va_calli (va_runV (As := [.int (xs (ii + 1).toNatClampNeg), .int (xs (ii + 2).toNatClampNeg), .int (xs (ii + 3).toNatClampNeg)]) (rest := []) ⟨hx, hb, hml, hown, hts⟩ (wX9_window l dC dI gh (fun q : Nat => ¬ B q ∧ s.heap.size ≤ q) cc s.heap.size xx (xs (ii + 1).toNatClampNeg) (xs (ii + 2).toNatClampNeg) (xs (ii + 3).toNatClampNeg) hAn) (cwV 3 hts gL40_x rfl rfl rfl hd_yX9_window ⟨lel 3 2048 rfl, lel 71 84000 rfl⟩) ⟨PX_fb, XI.recv hXI, PX_use hXI hN hX1 (Nat.le_refl _) hS (fun _ h => h) (fun q h => ⟨fun z => absurd (hBb q z) (Nat.not_lt.mpr h), Nat.le_trans hS.1 h⟩)⟩ rfl rfl hl.1 rfl (lv_room (Nat.le_of_ble_eq_true rfl)) dL_law_1668 ⟨(show N + 0 ≤ (600000 : Nat) from by omega), (show SL + 0 ≤ (7302250 : Nat) from by omega)⟩) hS (fun q _ h => h.2) (fun q h => h.2) (fun rx _ t H1 locs1 ht hvm hprx hB1 hz1 hk1 hS1 => ?_)
  have hXq := hB1.1
  rw [ht] at hXq
  have hMI := MI.kept (fun q h1 h2 => hk1 q h1 (fun z => z.1 h2)) hMI
  have hXI := XI.moved hvm.symm hXq
  have hBb : ∀ q, B q → q < H1.size := fun q h => Nat.lt_of_lt_of_le (hBb q h) hz1
  refine W.know (fun hkn => ?_)
  have hsz1 := hkn.2
  clear hB1 hk1 hz1 hkn hXq
  have hS := hS1
  clear hS1
  obtain ⟨H, eH⟩ : ∃ h : Heap, h = H1 := ⟨_, rfl⟩
  rw [← eH] at hXI hMI hBb hS hsz1 ⊢
  refine lv_pop hx hb dL_law_1671 rfl ?_
  refine lv_aload_n hx hb dL_law_1672 rfl (lv_at hl 1 rfl) ?_
  refine law_ldv (kv := 1) hx hb hX hbl hbA hS hl dL_law_1673 dL_law_1674 dL_law_1675 dL_law_1676 dL_law_1677 (by decide) (li_in hi0 hi6 hL (k := 1) (by decide) (by decide)) ?_
  refine law_ldv (kv := 2) hx hb hX hbl hbA hS hl dL_law_1678 dL_law_1679 dL_law_1680 dL_law_1681 dL_law_1682 (by decide) (li_in hi0 hi6 hL (k := 2) (by decide) (by decide)) ?_
  refine law_ldv (kv := 3) hx hb hX hbl hbA hS hl dL_law_1683 dL_law_1684 dL_law_1685 dL_law_1686 dL_law_1687 (by decide) (li_in hi0 hi6 hL (k := 3) (by decide) (by decide)) ?_
  refine va_calli (va_runV (As := [.int (xs (ii + 1).toNatClampNeg), .int (xs (ii + 2).toNatClampNeg), .int (xs (ii + 3).toNatClampNeg)]) (rest := []) ⟨hx, hb, hml, hown, hts⟩ (wX10_window l dC dI gh B (tot H) s.heap.size mm (xs (ii + 1).toNatClampNeg) (xs (ii + 2).toNatClampNeg) (xs (ii + 3).toNatClampNeg) hB) (cwV 3 hts gL40_m rfl rfl rfl hd_yX10_window ⟨lel 3 2048 rfl, lel 75 84000 rfl⟩) ⟨PM_fb, MI.recv hMI, PM_use hMI (Nat.le_refl _) hN hX1 (Nat.le_refl _) hS (fun _ h => h) (fun q h z => absurd (hBb q z) (Nat.not_lt.mpr h))⟩ rfl rfl hl.1 rfl (lv_room (Nat.le_of_ble_eq_true rfl)) dL_law_1688 ⟨(show N + 0 + 0 ≤ (600000 : Nat) from by omega), (show SL + 0 + 0 ≤ (7302250 : Nat) from by omega)⟩) hS (fun q _ h => hB q h) (fun q h => hB q h) (fun rm _ t H1 locs1 ht hvm hprm hB1 hz1 hk1 hS1 => ?_)
  have hXq := hB1.1
  rw [ht] at hXq
  have htq := hB1.2.1
  rw [ht] at htq
  have hXI := XI.kept htq (fun q h1 h2 => hk1 q h1 (fun z => h2.1 z)) hXI
  have hMI := MI.moved hvm.symm hXq
  have hBb : ∀ q, B q → q < H1.size := fun q h => Nat.lt_of_lt_of_le (hBb q h) hz1
  refine W.know (fun hkn => ?_)
  have hsz1 := hkn.2
  clear hB1 hk1 hz1 hkn hXq
  have hS := hS1
  clear hS1
  obtain ⟨H, eH⟩ : ∃ h : Heap, h = H1 := ⟨_, rfl⟩
  rw [← eH] at hXI hMI hBb hS hsz1 ⊢
  refine lv_pop hx hb dL_law_1691 rfl ?_
  refine lv_goto (tgt := 2425) hx hb dL_law_1692 (by decide) ?_
  refine W.tight (n := SL) (by have q9 := XI.tot hXI; omega) ?_
  refine W.widen (k := N + 3) (n := SL) (by omega) (Nat.le_refl _) ?_
  exact kk _ _ _ _ hXI hMI hBb hS (by omega) hl
theorem gL41_x : GoodIn lw_tbl (wsV RL 185 RX9 yX9_have uX9_have) := gin_V tbq_4_95 tbq_4_96 tbq_4_97 tbq_1_1 tw_uX9_have guX9_have
theorem gL41_m : GoodIn lw_tbl (wsV RL 188 RX10 yX10_have uX10_have) := gin_V tbq_7_165 tbq_7_166 tbq_7_167 tbq_1_9 tw_uX10_have guX10_have
set_option maxHeartbeats 4000000 in
set_option maxRecDepth 100000 in
theorem law_c41 {p : Program} {e : Env} {s : State} {m : MethodId} {below : List Frame} {meth : Method} {c : Code} (l : Launch) {b L : Nat} {xs : Nat → Int32} (hL : L ≤ 3072) (C0 : lw_At p s m meth c b L xs) (dC : Nat → ClassId) (dI : Nat → Nat → Nat) (gh : Nat → Int32) (B : Nat → Prop) (cc SL xx mm : Nat) (hB : ∀ q, B q → s.heap.size ≤ q) (hcc : cc = tot s.heap + SL) (hSL : SL ≤ 5000000) (hN : nst s) (hX1 : sx s.heap.size s) {ii : Int32} {N : Nat} (hi0 : 0 ≤ ii.toInt) (hi6 : ii.toInt + 6 ≤ (L : Int)) (hNN : N ≤ 100000) {H : Heap} {locs : List Loc} {ls : Array Slot} (hXI : XI dC dI gh (fun q : Nat => ¬ B q ∧ s.heap.size ≤ q) cc xx s H) (hMI : MI dC dI gh B mm s H) (hBb : ∀ q, B q → q < H.size) (hS : va_S (fun q : Nat => s.heap.size ≤ q) s.heap H locs) (hl : lv_has ls 4 [(3, .int ii), (2, .ref mm), (1, .ref xx), (0, .ref b)]) (kk : ∀ (gh : Nat → Int32) (H : Heap) (locs : List Loc) (ls : Array Slot), XI dC dI gh (fun q : Nat => ¬ B q ∧ s.heap.size ≤ q) cc xx s H → MI dC dI gh B mm s H → (∀ q, B q → q < H.size) → va_S (fun q : Nat => s.heap.size ≤ q) s.heap H locs → H.size ≤ s.heap.size + (N + 3) → lv_has ls 4 [(3, .int ii), (2, .ref mm), (1, .ref xx), (0, .ref b)] → W p l e room_1 s m #[Value.ref b] below meth c H locs (N + 3) SL (lw_Z below #[Value.ref b] s) (F0 m 2425 ls [])) : W p l e room_1 s m #[Value.ref b] below meth c H locs N SL (lw_Z below #[Value.ref b] s) (F0 m 1695 ls []) := by
  obtain ⟨hx, hb, hr, hml, hown0, hts, hX, hbl, hlocks, hgv⟩ := id C0
  have hown : s.vm.findClass RL = some m.cls := hown0
  have hbA : ¬ (fun q : Nat => s.heap.size ≤ q) b := Nat.not_le.mpr hbl
  have hAn : ∀ q, (fun q : Nat => ¬ B q ∧ s.heap.size ≤ q) q → s.heap.size ≤ q := fun _ h => h.2
  refine lv_aload_n hx hb dL_law_1695 rfl (lv_at hl 2 rfl) ?_
  refine law_ldv (kv := 1) hx hb hX hbl hbA hS hl dL_law_1696 dL_law_1697 dL_law_1698 dL_law_1699 dL_law_1700 (by decide) (li_in hi0 hi6 hL (k := 1) (by decide) (by decide)) ?_
  refine law_ldv (kv := 2) hx hb hX hbl hbA hS hl dL_law_1701 dL_law_1702 dL_law_1703 dL_law_1704 dL_law_1705 (by decide) (li_in hi0 hi6 hL (k := 2) (by decide) (by decide)) ?_
  refine va_calli (va_runV (As := [.int (xs (ii + 1).toNatClampNeg), .int (xs (ii + 2).toNatClampNeg)]) (rest := []) ⟨hx, hb, hml, hown, hts⟩ (wX9_have l dC dI gh (fun q : Nat => ¬ B q ∧ s.heap.size ≤ q) cc s.heap.size xx (xs (ii + 1).toNatClampNeg) (xs (ii + 2).toNatClampNeg) hAn) (cwV 2 hts gL41_x rfl rfl rfl hd_yX9_have ⟨lel 3 2048 rfl, lel 66 84000 rfl⟩) ⟨PX_fb, XI.recv hXI, PX_use hXI hN hX1 (Nat.le_refl _) hS (fun _ h => h) (fun q h => ⟨fun z => absurd (hBb q z) (Nat.not_lt.mpr h), Nat.le_trans hS.1 h⟩)⟩ rfl rfl hl.1 rfl (lv_room (Nat.le_of_ble_eq_true rfl)) dL_law_1706 ⟨(show N + 0 ≤ (600000 : Nat) from by omega), (show SL + 0 ≤ (7302250 : Nat) from by omega)⟩) hS (fun q _ h => h.2) (fun q h => h.2) (fun rx _ t H1 locs1 ht hvm hprx hB1 hz1 hk1 hS1 => ?_)
  have hXq := hB1.1
  rw [ht] at hXq
  have hMI := MI.kept (fun q h1 h2 => hk1 q h1 (fun z => z.1 h2)) hMI
  have hXI := XI.moved hvm.symm hXq
  have hBb : ∀ q, B q → q < H1.size := fun q h => Nat.lt_of_lt_of_le (hBb q h) hz1
  refine W.know (fun hkn => ?_)
  have hsz1 := hkn.2
  clear hB1 hk1 hz1 hkn hXq
  have hS := hS1
  clear hS1
  obtain ⟨H, eH⟩ : ∃ h : Heap, h = H1 := ⟨_, rfl⟩
  rw [← eH] at hXI hMI hBb hS hsz1 ⊢
  refine lv_pop hx hb dL_law_1709 rfl ?_
  refine lv_aload_n hx hb dL_law_1710 rfl (lv_at hl 1 rfl) ?_
  refine law_ldv (kv := 1) hx hb hX hbl hbA hS hl dL_law_1711 dL_law_1712 dL_law_1713 dL_law_1714 dL_law_1715 (by decide) (li_in hi0 hi6 hL (k := 1) (by decide) (by decide)) ?_
  refine law_ldv (kv := 2) hx hb hX hbl hbA hS hl dL_law_1716 dL_law_1717 dL_law_1718 dL_law_1719 dL_law_1720 (by decide) (li_in hi0 hi6 hL (k := 2) (by decide) (by decide)) ?_
  refine va_calli (va_runV (As := [.int (xs (ii + 1).toNatClampNeg), .int (xs (ii + 2).toNatClampNeg)]) (rest := []) ⟨hx, hb, hml, hown, hts⟩ (wX10_have l dC dI gh B (tot H) s.heap.size mm (xs (ii + 1).toNatClampNeg) (xs (ii + 2).toNatClampNeg) hB) (cwV 2 hts gL41_m rfl rfl rfl hd_yX10_have ⟨lel 3 2048 rfl, lel 70 84000 rfl⟩) ⟨PM_fb, MI.recv hMI, PM_use hMI (Nat.le_refl _) hN hX1 (Nat.le_refl _) hS (fun _ h => h) (fun q h z => absurd (hBb q z) (Nat.not_lt.mpr h))⟩ rfl rfl hl.1 rfl (lv_room (Nat.le_of_ble_eq_true rfl)) dL_law_1721 ⟨(show N + 0 + 0 ≤ (600000 : Nat) from by omega), (show SL + 0 + 0 ≤ (7302250 : Nat) from by omega)⟩) hS (fun q _ h => hB q h) (fun q h => hB q h) (fun rm _ t H1 locs1 ht hvm hprm hB1 hz1 hk1 hS1 => ?_)
  have hXq := hB1.1
  rw [ht] at hXq
  have htq := hB1.2.1
  rw [ht] at htq
  have hXI := XI.kept htq (fun q h1 h2 => hk1 q h1 (fun z => h2.1 z)) hXI
  have hMI := MI.moved hvm.symm hXq
  have hBb : ∀ q, B q → q < H1.size := fun q h => Nat.lt_of_lt_of_le (hBb q h) hz1
  refine W.know (fun hkn => ?_)
  have hsz1 := hkn.2
  clear hB1 hk1 hz1 hkn hXq
  have hS := hS1
  clear hS1
  obtain ⟨H, eH⟩ : ∃ h : Heap, h = H1 := ⟨_, rfl⟩
  rw [← eH] at hXI hMI hBb hS hsz1 ⊢
  refine lv_pop hx hb dL_law_1724 rfl ?_
  refine lv_goto (tgt := 2425) hx hb dL_law_1725 (by decide) ?_
  refine W.tight (n := SL) (by have q9 := XI.tot hXI; omega) ?_
  refine W.widen (k := N + 3) (n := SL) (by omega) (Nat.le_refl _) ?_
  exact kk _ _ _ _ hXI hMI hBb hS (by omega) hl
theorem gL42_x : GoodIn lw_tbl (wsV RL 189 RX9 yX9_at uX9_at) := gin_V tbq_4_99 tbq_4_100 tbq_4_101 tbq_1_1 tw_uX9_at guX9_at
theorem gL42_m : GoodIn lw_tbl (wsV RL 192 RX10 yX10_at uX10_at) := gin_V tbq_7_169 tbq_7_170 tbq_7_171 tbq_1_9 tw_uX10_at guX10_at
set_option maxHeartbeats 4000000 in
set_option maxRecDepth 100000 in
theorem law_c42 {p : Program} {e : Env} {s : State} {m : MethodId} {below : List Frame} {meth : Method} {c : Code} (l : Launch) {b L : Nat} {xs : Nat → Int32} (hL : L ≤ 3072) (C0 : lw_At p s m meth c b L xs) (dC : Nat → ClassId) (dI : Nat → Nat → Nat) (gh : Nat → Int32) (B : Nat → Prop) (cc SL xx mm : Nat) (hB : ∀ q, B q → s.heap.size ≤ q) (hcc : cc = tot s.heap + SL) (hSL : SL ≤ 5000000) (hN : nst s) (hX1 : sx s.heap.size s) {ii : Int32} {N : Nat} (hi0 : 0 ≤ ii.toInt) (hi6 : ii.toInt + 6 ≤ (L : Int)) (hNN : N ≤ 100000) {H : Heap} {locs : List Loc} {ls : Array Slot} (hXI : XI dC dI gh (fun q : Nat => ¬ B q ∧ s.heap.size ≤ q) cc xx s H) (hMI : MI dC dI gh B mm s H) (hBb : ∀ q, B q → q < H.size) (hS : va_S (fun q : Nat => s.heap.size ≤ q) s.heap H locs) (hl : lv_has ls 4 [(3, .int ii), (2, .ref mm), (1, .ref xx), (0, .ref b)]) (kk : ∀ (gh : Nat → Int32) (H : Heap) (locs : List Loc) (ls : Array Slot), XI dC dI gh (fun q : Nat => ¬ B q ∧ s.heap.size ≤ q) cc xx s H → MI dC dI gh B mm s H → (∀ q, B q → q < H.size) → va_S (fun q : Nat => s.heap.size ≤ q) s.heap H locs → H.size ≤ s.heap.size + (N + 3) → lv_has ls 4 [(3, .int ii), (2, .ref mm), (1, .ref xx), (0, .ref b)] → W p l e room_1 s m #[Value.ref b] below meth c H locs (N + 3) SL (lw_Z below #[Value.ref b] s) (F0 m 2425 ls [])) : W p l e room_1 s m #[Value.ref b] below meth c H locs N SL (lw_Z below #[Value.ref b] s) (F0 m 1728 ls []) := by
  obtain ⟨hx, hb, hr, hml, hown0, hts, hX, hbl, hlocks, hgv⟩ := id C0
  have hown : s.vm.findClass RL = some m.cls := hown0
  have hbA : ¬ (fun q : Nat => s.heap.size ≤ q) b := Nat.not_le.mpr hbl
  have hAn : ∀ q, (fun q : Nat => ¬ B q ∧ s.heap.size ≤ q) q → s.heap.size ≤ q := fun _ h => h.2
  refine lv_aload_n hx hb dL_law_1728 rfl (lv_at hl 2 rfl) ?_
  refine law_ldv (kv := 1) hx hb hX hbl hbA hS hl dL_law_1729 dL_law_1730 dL_law_1731 dL_law_1732 dL_law_1733 (by decide) (li_in hi0 hi6 hL (k := 1) (by decide) (by decide)) ?_
  refine law_ldv (kv := 2) hx hb hX hbl hbA hS hl dL_law_1734 dL_law_1735 dL_law_1736 dL_law_1737 dL_law_1738 (by decide) (li_in hi0 hi6 hL (k := 2) (by decide) (by decide)) ?_
  refine law_ldv (kv := 3) hx hb hX hbl hbA hS hl dL_law_1739 dL_law_1740 dL_law_1741 dL_law_1742 dL_law_1743 (by decide) (li_in hi0 hi6 hL (k := 3) (by decide) (by decide)) ?_
  refine va_calli (va_runV (As := [.int (xs (ii + 1).toNatClampNeg), .int (xs (ii + 2).toNatClampNeg), .int (xs (ii + 3).toNatClampNeg)]) (rest := []) ⟨hx, hb, hml, hown, hts⟩ (wX9_at l dC dI gh (fun q : Nat => ¬ B q ∧ s.heap.size ≤ q) cc s.heap.size xx (xs (ii + 1).toNatClampNeg) (xs (ii + 2).toNatClampNeg) (xs (ii + 3).toNatClampNeg) hAn) (cwV 3 hts gL42_x rfl rfl rfl hd_yX9_at ⟨lel 4 2048 rfl, lel 89 84000 rfl⟩) ⟨PX_fb, XI.recv hXI, PX_use hXI hN hX1 (Nat.le_refl _) hS (fun _ h => h) (fun q h => ⟨fun z => absurd (hBb q z) (Nat.not_lt.mpr h), Nat.le_trans hS.1 h⟩)⟩ rfl rfl hl.1 rfl (lv_room (Nat.le_of_ble_eq_true rfl)) dL_law_1744 ⟨(show N + 0 ≤ (600000 : Nat) from by omega), (show SL + 0 ≤ (7302250 : Nat) from by omega)⟩) hS (fun q _ h => h.2) (fun q h => h.2) (fun rx _ t H1 locs1 ht hvm hprx hB1 hz1 hk1 hS1 => ?_)
  have hXq := hB1.1
  rw [ht] at hXq
  have hMI := MI.kept (fun q h1 h2 => hk1 q h1 (fun z => z.1 h2)) hMI
  have hXI := XI.moved hvm.symm hXq
  have hBb : ∀ q, B q → q < H1.size := fun q h => Nat.lt_of_lt_of_le (hBb q h) hz1
  refine W.know (fun hkn => ?_)
  have hsz1 := hkn.2
  clear hB1 hk1 hz1 hkn hXq
  have hS := hS1
  clear hS1
  obtain ⟨H, eH⟩ : ∃ h : Heap, h = H1 := ⟨_, rfl⟩
  rw [← eH] at hXI hMI hBb hS hsz1 ⊢
  refine lv_pop hx hb dL_law_1747 rfl ?_
  refine lv_aload_n hx hb dL_law_1748 rfl (lv_at hl 1 rfl) ?_
  refine law_ldv (kv := 1) hx hb hX hbl hbA hS hl dL_law_1749 dL_law_1750 dL_law_1751 dL_law_1752 dL_law_1753 (by decide) (li_in hi0 hi6 hL (k := 1) (by decide) (by decide)) ?_
  refine law_ldv (kv := 2) hx hb hX hbl hbA hS hl dL_law_1754 dL_law_1755 dL_law_1756 dL_law_1757 dL_law_1758 (by decide) (li_in hi0 hi6 hL (k := 2) (by decide) (by decide)) ?_
  refine law_ldv (kv := 3) hx hb hX hbl hbA hS hl dL_law_1759 dL_law_1760 dL_law_1761 dL_law_1762 dL_law_1763 (by decide) (li_in hi0 hi6 hL (k := 3) (by decide) (by decide)) ?_
  refine va_calli (va_runV (As := [.int (xs (ii + 1).toNatClampNeg), .int (xs (ii + 2).toNatClampNeg), .int (xs (ii + 3).toNatClampNeg)]) (rest := []) ⟨hx, hb, hml, hown, hts⟩ (wX10_at l dC dI gh B (tot H) s.heap.size mm (xs (ii + 1).toNatClampNeg) (xs (ii + 2).toNatClampNeg) (xs (ii + 3).toNatClampNeg) hB) (cwV 3 hts gL42_m rfl rfl rfl hd_yX10_at ⟨lel 3 2048 rfl, lel 71 84000 rfl⟩) ⟨PM_fb, MI.recv hMI, PM_use hMI (Nat.le_refl _) hN hX1 (Nat.le_refl _) hS (fun _ h => h) (fun q h z => absurd (hBb q z) (Nat.not_lt.mpr h))⟩ rfl rfl hl.1 rfl (lv_room (Nat.le_of_ble_eq_true rfl)) dL_law_1764 ⟨(show N + 0 + 0 ≤ (600000 : Nat) from by omega), (show SL + 0 + 0 ≤ (7302250 : Nat) from by omega)⟩) hS (fun q _ h => hB q h) (fun q h => hB q h) (fun rm _ t H1 locs1 ht hvm hprm hB1 hz1 hk1 hS1 => ?_)
  have hXq := hB1.1
  rw [ht] at hXq
  have htq := hB1.2.1
  rw [ht] at htq
  have hXI := XI.kept htq (fun q h1 h2 => hk1 q h1 (fun z => h2.1 z)) hXI
  have hMI := MI.moved hvm.symm hXq
  have hBb : ∀ q, B q → q < H1.size := fun q h => Nat.lt_of_lt_of_le (hBb q h) hz1
  refine W.know (fun hkn => ?_)
  have hsz1 := hkn.2
  clear hB1 hk1 hz1 hkn hXq
  have hS := hS1
  clear hS1
  obtain ⟨H, eH⟩ : ∃ h : Heap, h = H1 := ⟨_, rfl⟩
  rw [← eH] at hXI hMI hBb hS hsz1 ⊢
  refine lv_pop hx hb dL_law_1767 rfl ?_
  refine lv_goto (tgt := 2425) hx hb dL_law_1768 (by decide) ?_
  refine W.tight (n := SL) (by have q9 := XI.tot hXI; omega) ?_
  refine W.widen (k := N + 3) (n := SL) (by omega) (Nat.le_refl _) ?_
  exact kk _ _ _ _ hXI hMI hBb hS (by omega) hl
theorem gL43_x : GoodIn lw_tbl (wsV RL 193 RX9 yX9_mostly uX9_mostly) := gin_V tbq_4_114 tbq_4_115 tbq_4_116 tbq_1_1 tw_uX9_mostly guX9_mostly
theorem gL43_m : GoodIn lw_tbl (wsV RL 196 RX10 yX10_mostly uX10_mostly) := gin_V tbq_7_177 tbq_7_178 tbq_7_179 tbq_1_9 tw_uX10_mostly guX10_mostly
set_option maxHeartbeats 4000000 in
set_option maxRecDepth 100000 in
theorem law_c43 {p : Program} {e : Env} {s : State} {m : MethodId} {below : List Frame} {meth : Method} {c : Code} (l : Launch) {b L : Nat} {xs : Nat → Int32} (hL : L ≤ 3072) (C0 : lw_At p s m meth c b L xs) (dC : Nat → ClassId) (dI : Nat → Nat → Nat) (gh : Nat → Int32) (B : Nat → Prop) (cc SL xx mm : Nat) (hB : ∀ q, B q → s.heap.size ≤ q) (hcc : cc = tot s.heap + SL) (hSL : SL ≤ 5000000) (hN : nst s) (hX1 : sx s.heap.size s) {ii : Int32} {N : Nat} (hi0 : 0 ≤ ii.toInt) (hi6 : ii.toInt + 6 ≤ (L : Int)) (hNN : N ≤ 100000) {H : Heap} {locs : List Loc} {ls : Array Slot} (hXI : XI dC dI gh (fun q : Nat => ¬ B q ∧ s.heap.size ≤ q) cc xx s H) (hMI : MI dC dI gh B mm s H) (hBb : ∀ q, B q → q < H.size) (hS : va_S (fun q : Nat => s.heap.size ≤ q) s.heap H locs) (hl : lv_has ls 4 [(3, .int ii), (2, .ref mm), (1, .ref xx), (0, .ref b)]) (kk : ∀ (gh : Nat → Int32) (H : Heap) (locs : List Loc) (ls : Array Slot), XI dC dI gh (fun q : Nat => ¬ B q ∧ s.heap.size ≤ q) cc xx s H → MI dC dI gh B mm s H → (∀ q, B q → q < H.size) → va_S (fun q : Nat => s.heap.size ≤ q) s.heap H locs → H.size ≤ s.heap.size + (N + 3) → lv_has ls 4 [(3, .int ii), (2, .ref mm), (1, .ref xx), (0, .ref b)] → W p l e room_1 s m #[Value.ref b] below meth c H locs (N + 3) SL (lw_Z below #[Value.ref b] s) (F0 m 2425 ls [])) : W p l e room_1 s m #[Value.ref b] below meth c H locs N SL (lw_Z below #[Value.ref b] s) (F0 m 1771 ls []) := by
  obtain ⟨hx, hb, hr, hml, hown0, hts, hX, hbl, hlocks, hgv⟩ := id C0
  have hown : s.vm.findClass RL = some m.cls := hown0
  have hbA : ¬ (fun q : Nat => s.heap.size ≤ q) b := Nat.not_le.mpr hbl
  have hAn : ∀ q, (fun q : Nat => ¬ B q ∧ s.heap.size ≤ q) q → s.heap.size ≤ q := fun _ h => h.2
  refine lv_aload_n hx hb dL_law_1771 rfl (lv_at hl 2 rfl) ?_
  refine law_ldv (kv := 1) hx hb hX hbl hbA hS hl dL_law_1772 dL_law_1773 dL_law_1774 dL_law_1775 dL_law_1776 (by decide) (li_in hi0 hi6 hL (k := 1) (by decide) (by decide)) ?_
  refine law_ldv (kv := 2) hx hb hX hbl hbA hS hl dL_law_1777 dL_law_1778 dL_law_1779 dL_law_1780 dL_law_1781 (by decide) (li_in hi0 hi6 hL (k := 2) (by decide) (by decide)) ?_
  refine va_calli (va_runV (As := [.int (xs (ii + 1).toNatClampNeg), .int (xs (ii + 2).toNatClampNeg)]) (rest := []) ⟨hx, hb, hml, hown, hts⟩ (wX9_mostly l dC dI gh (fun q : Nat => ¬ B q ∧ s.heap.size ≤ q) cc s.heap.size xx (xs (ii + 1).toNatClampNeg) (xs (ii + 2).toNatClampNeg) hAn) (cwV 2 hts gL43_x rfl rfl rfl hd_yX9_mostly ⟨lel 4 2048 rfl, lel 91 84000 rfl⟩) ⟨PX_fb, XI.recv hXI, PX_use hXI hN hX1 (Nat.le_refl _) hS (fun _ h => h) (fun q h => ⟨fun z => absurd (hBb q z) (Nat.not_lt.mpr h), Nat.le_trans hS.1 h⟩)⟩ rfl rfl hl.1 rfl (lv_room (Nat.le_of_ble_eq_true rfl)) dL_law_1782 ⟨(show N + 0 ≤ (600000 : Nat) from by omega), (show SL + 0 ≤ (7302250 : Nat) from by omega)⟩) hS (fun q _ h => h.2) (fun q h => h.2) (fun rx _ t H1 locs1 ht hvm hprx hB1 hz1 hk1 hS1 => ?_)
  have hXq := hB1.1
  rw [ht] at hXq
  have hMI := MI.kept (fun q h1 h2 => hk1 q h1 (fun z => z.1 h2)) hMI
  have hXI := XI.moved hvm.symm hXq
  have hBb : ∀ q, B q → q < H1.size := fun q h => Nat.lt_of_lt_of_le (hBb q h) hz1
  refine W.know (fun hkn => ?_)
  have hsz1 := hkn.2
  clear hB1 hk1 hz1 hkn hXq
  have hS := hS1
  clear hS1
  obtain ⟨H, eH⟩ : ∃ h : Heap, h = H1 := ⟨_, rfl⟩
  rw [← eH] at hXI hMI hBb hS hsz1 ⊢
  refine lv_pop hx hb dL_law_1785 rfl ?_
  refine lv_aload_n hx hb dL_law_1786 rfl (lv_at hl 1 rfl) ?_
  refine law_ldv (kv := 1) hx hb hX hbl hbA hS hl dL_law_1787 dL_law_1788 dL_law_1789 dL_law_1790 dL_law_1791 (by decide) (li_in hi0 hi6 hL (k := 1) (by decide) (by decide)) ?_
  refine law_ldv (kv := 2) hx hb hX hbl hbA hS hl dL_law_1792 dL_law_1793 dL_law_1794 dL_law_1795 dL_law_1796 (by decide) (li_in hi0 hi6 hL (k := 2) (by decide) (by decide)) ?_
  refine va_calli (va_runV (As := [.int (xs (ii + 1).toNatClampNeg), .int (xs (ii + 2).toNatClampNeg)]) (rest := []) ⟨hx, hb, hml, hown, hts⟩ (wX10_mostly l dC dI gh B (tot H) s.heap.size mm (xs (ii + 1).toNatClampNeg) (xs (ii + 2).toNatClampNeg) hB) (cwV 2 hts gL43_m rfl rfl rfl hd_yX10_mostly ⟨lel 3 2048 rfl, lel 74 84000 rfl⟩) ⟨PM_fb, MI.recv hMI, PM_use hMI (Nat.le_refl _) hN hX1 (Nat.le_refl _) hS (fun _ h => h) (fun q h z => absurd (hBb q z) (Nat.not_lt.mpr h))⟩ rfl rfl hl.1 rfl (lv_room (Nat.le_of_ble_eq_true rfl)) dL_law_1797 ⟨(show N + 0 + 0 ≤ (600000 : Nat) from by omega), (show SL + 0 + 0 ≤ (7302250 : Nat) from by omega)⟩) hS (fun q _ h => hB q h) (fun q h => hB q h) (fun rm _ t H1 locs1 ht hvm hprm hB1 hz1 hk1 hS1 => ?_)
  have hXq := hB1.1
  rw [ht] at hXq
  have htq := hB1.2.1
  rw [ht] at htq
  have hXI := XI.kept htq (fun q h1 h2 => hk1 q h1 (fun z => h2.1 z)) hXI
  have hMI := MI.moved hvm.symm hXq
  have hBb : ∀ q, B q → q < H1.size := fun q h => Nat.lt_of_lt_of_le (hBb q h) hz1
  refine W.know (fun hkn => ?_)
  have hsz1 := hkn.2
  clear hB1 hk1 hz1 hkn hXq
  have hS := hS1
  clear hS1
  obtain ⟨H, eH⟩ : ∃ h : Heap, h = H1 := ⟨_, rfl⟩
  rw [← eH] at hXI hMI hBb hS hsz1 ⊢
  refine lv_pop hx hb dL_law_1800 rfl ?_
  refine lv_goto (tgt := 2425) hx hb dL_law_1801 (by decide) ?_
  refine W.tight (n := SL) (by have q9 := XI.tot hXI; omega) ?_
  refine W.widen (k := N + 3) (n := SL) (by omega) (Nat.le_refl _) ?_
  exact kk _ _ _ _ hXI hMI hBb hS (by omega) hl
theorem gL44_x : GoodIn lw_tbl (wsV RL 197 RX9 yX9_same uX9_same) := gin_V tbq_4_118 tbq_4_119 tbq_4_120 tbq_1_1 tw_uX9_same guX9_same
theorem gL44_m : GoodIn lw_tbl (wsV RL 200 RX10 yX10_same uX10_same) := gin_V tbq_7_181 tbq_7_182 tbq_7_183 tbq_1_9 tw_uX10_same guX10_same
set_option maxHeartbeats 4000000 in
set_option maxRecDepth 100000 in
theorem law_c44 {p : Program} {e : Env} {s : State} {m : MethodId} {below : List Frame} {meth : Method} {c : Code} (l : Launch) {b L : Nat} {xs : Nat → Int32} (hL : L ≤ 3072) (C0 : lw_At p s m meth c b L xs) (dC : Nat → ClassId) (dI : Nat → Nat → Nat) (gh : Nat → Int32) (B : Nat → Prop) (cc SL xx mm : Nat) (hB : ∀ q, B q → s.heap.size ≤ q) (hcc : cc = tot s.heap + SL) (hSL : SL ≤ 5000000) (hN : nst s) (hX1 : sx s.heap.size s) {ii : Int32} {N : Nat} (hi0 : 0 ≤ ii.toInt) (hi6 : ii.toInt + 6 ≤ (L : Int)) (hNN : N ≤ 100000) {H : Heap} {locs : List Loc} {ls : Array Slot} (hXI : XI dC dI gh (fun q : Nat => ¬ B q ∧ s.heap.size ≤ q) cc xx s H) (hMI : MI dC dI gh B mm s H) (hBb : ∀ q, B q → q < H.size) (hS : va_S (fun q : Nat => s.heap.size ≤ q) s.heap H locs) (hl : lv_has ls 4 [(3, .int ii), (2, .ref mm), (1, .ref xx), (0, .ref b)]) (kk : ∀ (gh : Nat → Int32) (H : Heap) (locs : List Loc) (ls : Array Slot), XI dC dI gh (fun q : Nat => ¬ B q ∧ s.heap.size ≤ q) cc xx s H → MI dC dI gh B mm s H → (∀ q, B q → q < H.size) → va_S (fun q : Nat => s.heap.size ≤ q) s.heap H locs → H.size ≤ s.heap.size + (N + 3) → lv_has ls 4 [(3, .int ii), (2, .ref mm), (1, .ref xx), (0, .ref b)] → W p l e room_1 s m #[Value.ref b] below meth c H locs (N + 3) SL (lw_Z below #[Value.ref b] s) (F0 m 2425 ls [])) : W p l e room_1 s m #[Value.ref b] below meth c H locs N SL (lw_Z below #[Value.ref b] s) (F0 m 1804 ls []) := by
  obtain ⟨hx, hb, hr, hml, hown0, hts, hX, hbl, hlocks, hgv⟩ := id C0
  have hown : s.vm.findClass RL = some m.cls := hown0
  have hbA : ¬ (fun q : Nat => s.heap.size ≤ q) b := Nat.not_le.mpr hbl
  have hAn : ∀ q, (fun q : Nat => ¬ B q ∧ s.heap.size ≤ q) q → s.heap.size ≤ q := fun _ h => h.2
  refine lv_aload_n hx hb dL_law_1804 rfl (lv_at hl 2 rfl) ?_
  refine law_ldv (kv := 1) hx hb hX hbl hbA hS hl dL_law_1805 dL_law_1806 dL_law_1807 dL_law_1808 dL_law_1809 (by decide) (li_in hi0 hi6 hL (k := 1) (by decide) (by decide)) ?_
  refine law_ldv (kv := 2) hx hb hX hbl hbA hS hl dL_law_1810 dL_law_1811 dL_law_1812 dL_law_1813 dL_law_1814 (by decide) (li_in hi0 hi6 hL (k := 2) (by decide) (by decide)) ?_
  refine law_ldv (kv := 3) hx hb hX hbl hbA hS hl dL_law_1815 dL_law_1816 dL_law_1817 dL_law_1818 dL_law_1819 (by decide) (li_in hi0 hi6 hL (k := 3) (by decide) (by decide)) ?_
  refine va_calli (va_runV (As := [.int (xs (ii + 1).toNatClampNeg), .int (xs (ii + 2).toNatClampNeg), .int (xs (ii + 3).toNatClampNeg)]) (rest := []) ⟨hx, hb, hml, hown, hts⟩ (wX9_same l dC dI gh (fun q : Nat => ¬ B q ∧ s.heap.size ≤ q) cc s.heap.size xx (xs (ii + 1).toNatClampNeg) (xs (ii + 2).toNatClampNeg) (xs (ii + 3).toNatClampNeg) hAn) (cwV 3 hts gL44_x rfl rfl rfl hd_yX9_same ⟨lel 3 2048 rfl, lel 76 84000 rfl⟩) ⟨PX_fb, XI.recv hXI, PX_use hXI hN hX1 (Nat.le_refl _) hS (fun _ h => h) (fun q h => ⟨fun z => absurd (hBb q z) (Nat.not_lt.mpr h), Nat.le_trans hS.1 h⟩)⟩ rfl rfl hl.1 rfl (lv_room (Nat.le_of_ble_eq_true rfl)) dL_law_1820 ⟨(show N + 0 ≤ (600000 : Nat) from by omega), (show SL + 0 ≤ (7302250 : Nat) from by omega)⟩) hS (fun q _ h => h.2) (fun q h => h.2) (fun rx _ t H1 locs1 ht hvm hprx hB1 hz1 hk1 hS1 => ?_)
  have hXq := hB1.1
  rw [ht] at hXq
  have hMI := MI.kept (fun q h1 h2 => hk1 q h1 (fun z => z.1 h2)) hMI
  have hXI := XI.moved hvm.symm hXq
  have hBb : ∀ q, B q → q < H1.size := fun q h => Nat.lt_of_lt_of_le (hBb q h) hz1
  refine W.know (fun hkn => ?_)
  have hsz1 := hkn.2
  clear hB1 hk1 hz1 hkn hXq
  have hS := hS1
  clear hS1
  obtain ⟨H, eH⟩ : ∃ h : Heap, h = H1 := ⟨_, rfl⟩
  rw [← eH] at hXI hMI hBb hS hsz1 ⊢
  refine lv_pop hx hb dL_law_1823 rfl ?_
  refine lv_aload_n hx hb dL_law_1824 rfl (lv_at hl 1 rfl) ?_
  refine law_ldv (kv := 1) hx hb hX hbl hbA hS hl dL_law_1825 dL_law_1826 dL_law_1827 dL_law_1828 dL_law_1829 (by decide) (li_in hi0 hi6 hL (k := 1) (by decide) (by decide)) ?_
  refine law_ldv (kv := 2) hx hb hX hbl hbA hS hl dL_law_1830 dL_law_1831 dL_law_1832 dL_law_1833 dL_law_1834 (by decide) (li_in hi0 hi6 hL (k := 2) (by decide) (by decide)) ?_
  refine law_ldv (kv := 3) hx hb hX hbl hbA hS hl dL_law_1835 dL_law_1836 dL_law_1837 dL_law_1838 dL_law_1839 (by decide) (li_in hi0 hi6 hL (k := 3) (by decide) (by decide)) ?_
  refine va_calli (va_runV (As := [.int (xs (ii + 1).toNatClampNeg), .int (xs (ii + 2).toNatClampNeg), .int (xs (ii + 3).toNatClampNeg)]) (rest := []) ⟨hx, hb, hml, hown, hts⟩ (wX10_same l dC dI gh B (tot H) s.heap.size mm (xs (ii + 1).toNatClampNeg) (xs (ii + 2).toNatClampNeg) (xs (ii + 3).toNatClampNeg) hB) (cwV 3 hts gL44_m rfl rfl rfl hd_yX10_same ⟨lel 4 2048 rfl, lel 96 84000 rfl⟩) ⟨PM_fb, MI.recv hMI, PM_use hMI (Nat.le_refl _) hN hX1 (Nat.le_refl _) hS (fun _ h => h) (fun q h z => absurd (hBb q z) (Nat.not_lt.mpr h))⟩ rfl rfl hl.1 rfl (lv_room (Nat.le_of_ble_eq_true rfl)) dL_law_1840 ⟨(show N + 0 + 0 ≤ (600000 : Nat) from by omega), (show SL + 0 + 0 ≤ (7302250 : Nat) from by omega)⟩) hS (fun q _ h => hB q h) (fun q h => hB q h) (fun rm _ t H1 locs1 ht hvm hprm hB1 hz1 hk1 hS1 => ?_)
  have hXq := hB1.1
  rw [ht] at hXq
  have htq := hB1.2.1
  rw [ht] at htq
  have hXI := XI.kept htq (fun q h1 h2 => hk1 q h1 (fun z => h2.1 z)) hXI
  have hMI := MI.moved hvm.symm hXq
  have hBb : ∀ q, B q → q < H1.size := fun q h => Nat.lt_of_lt_of_le (hBb q h) hz1
  refine W.know (fun hkn => ?_)
  have hsz1 := hkn.2
  clear hB1 hk1 hz1 hkn hXq
  have hS := hS1
  clear hS1
  obtain ⟨H, eH⟩ : ∃ h : Heap, h = H1 := ⟨_, rfl⟩
  rw [← eH] at hXI hMI hBb hS hsz1 ⊢
  refine lv_pop hx hb dL_law_1843 rfl ?_
  refine lv_goto (tgt := 2425) hx hb dL_law_1844 (by decide) ?_
  refine W.tight (n := SL) (by have q9 := XI.tot hXI; omega) ?_
  refine W.widen (k := N + 3) (n := SL) (by omega) (Nat.le_refl _) ?_
  exact kk _ _ _ _ hXI hMI hBb hS (by omega) hl
theorem gL45_x : GoodIn lw_tbl (wsV RL 201 RX9 yX9_walk uX9_walk) := gin_V tbq_4_125 tbq_4_126 tbq_4_127 tbq_1_1 tw_uX9_walk guX9_walk
theorem gL45_m : GoodIn lw_tbl (wsV RL 204 RX10 yX10_walk uX10_walk) := gin_V tbq_7_189 tbq_7_190 tbq_7_191 tbq_1_9 tw_uX10_walk guX10_walk
set_option maxHeartbeats 4000000 in
set_option maxRecDepth 100000 in
theorem law_c45 {p : Program} {e : Env} {s : State} {m : MethodId} {below : List Frame} {meth : Method} {c : Code} (l : Launch) {b L : Nat} {xs : Nat → Int32} (hL : L ≤ 3072) (C0 : lw_At p s m meth c b L xs) (dC : Nat → ClassId) (dI : Nat → Nat → Nat) (gh : Nat → Int32) (B : Nat → Prop) (cc SL xx mm : Nat) (hB : ∀ q, B q → s.heap.size ≤ q) (hcc : cc = tot s.heap + SL) (hSL : SL ≤ 5000000) (hN : nst s) (hX1 : sx s.heap.size s) {ii : Int32} {N : Nat} (hi0 : 0 ≤ ii.toInt) (hi6 : ii.toInt + 6 ≤ (L : Int)) (hNN : N ≤ 100000) {H : Heap} {locs : List Loc} {ls : Array Slot} (hXI : XI dC dI gh (fun q : Nat => ¬ B q ∧ s.heap.size ≤ q) cc xx s H) (hMI : MI dC dI gh B mm s H) (hBb : ∀ q, B q → q < H.size) (hS : va_S (fun q : Nat => s.heap.size ≤ q) s.heap H locs) (hl : lv_has ls 4 [(3, .int ii), (2, .ref mm), (1, .ref xx), (0, .ref b)]) (kk : ∀ (gh : Nat → Int32) (H : Heap) (locs : List Loc) (ls : Array Slot), XI dC dI gh (fun q : Nat => ¬ B q ∧ s.heap.size ≤ q) cc xx s H → MI dC dI gh B mm s H → (∀ q, B q → q < H.size) → va_S (fun q : Nat => s.heap.size ≤ q) s.heap H locs → H.size ≤ s.heap.size + (N + 3) → lv_has ls 4 [(3, .int ii), (2, .ref mm), (1, .ref xx), (0, .ref b)] → W p l e room_1 s m #[Value.ref b] below meth c H locs (N + 3) SL (lw_Z below #[Value.ref b] s) (F0 m 2425 ls [])) : W p l e room_1 s m #[Value.ref b] below meth c H locs N SL (lw_Z below #[Value.ref b] s) (F0 m 1847 ls []) := by
  obtain ⟨hx, hb, hr, hml, hown0, hts, hX, hbl, hlocks, hgv⟩ := id C0
  have hown : s.vm.findClass RL = some m.cls := hown0
  have hbA : ¬ (fun q : Nat => s.heap.size ≤ q) b := Nat.not_le.mpr hbl
  have hAn : ∀ q, (fun q : Nat => ¬ B q ∧ s.heap.size ≤ q) q → s.heap.size ≤ q := fun _ h => h.2
  refine lv_aload_n hx hb dL_law_1847 rfl (lv_at hl 2 rfl) ?_
  refine law_ldv (kv := 1) hx hb hX hbl hbA hS hl dL_law_1848 dL_law_1849 dL_law_1850 dL_law_1851 dL_law_1852 (by decide) (li_in hi0 hi6 hL (k := 1) (by decide) (by decide)) ?_
  refine law_ldv (kv := 2) hx hb hX hbl hbA hS hl dL_law_1853 dL_law_1854 dL_law_1855 dL_law_1856 dL_law_1857 (by decide) (li_in hi0 hi6 hL (k := 2) (by decide) (by decide)) ?_
  refine law_ldv (kv := 3) hx hb hX hbl hbA hS hl dL_law_1858 dL_law_1859 dL_law_1860 dL_law_1861 dL_law_1862 (by decide) (li_in hi0 hi6 hL (k := 3) (by decide) (by decide)) ?_
  refine va_calli (va_runV (As := [.int (xs (ii + 1).toNatClampNeg), .int (xs (ii + 2).toNatClampNeg), .int (xs (ii + 3).toNatClampNeg)]) (rest := []) ⟨hx, hb, hml, hown, hts⟩ (wX9_walk l dC dI gh (fun q : Nat => ¬ B q ∧ s.heap.size ≤ q) cc s.heap.size xx (xs (ii + 1).toNatClampNeg) (xs (ii + 2).toNatClampNeg) (xs (ii + 3).toNatClampNeg) hAn) (cwV 3 hts gL45_x rfl rfl rfl hd_yX9_walk ⟨lel 6 2048 rfl, lel 152 84000 rfl⟩) ⟨PX_fb, XI.recv hXI, PX_use hXI hN hX1 (Nat.le_refl _) hS (fun _ h => h) (fun q h => ⟨fun z => absurd (hBb q z) (Nat.not_lt.mpr h), Nat.le_trans hS.1 h⟩)⟩ rfl rfl hl.1 rfl (lv_room (Nat.le_of_ble_eq_true rfl)) dL_law_1863 ⟨(show N + 3 ≤ (600000 : Nat) from by omega), (show SL + 170000 ≤ (7302250 : Nat) from by omega)⟩) hS (fun q _ h => h.2) (fun q h => h.2) (fun rx _ t H1 locs1 ht hvm hprx hB1 hz1 hk1 hS1 => ?_)
  have hXq := hB1.1
  rw [ht] at hXq
  have hMI := MI.kept (fun q h1 h2 => hk1 q h1 (fun z => z.1 h2)) hMI
  have hXI := XI.moved hvm.symm hXq
  have hBb : ∀ q, B q → q < H1.size := fun q h => Nat.lt_of_lt_of_le (hBb q h) hz1
  refine W.know (fun hkn => ?_)
  have hsz1 := hkn.2
  clear hB1 hk1 hz1 hkn hXq
  have hS := hS1
  clear hS1
  obtain ⟨H, eH⟩ : ∃ h : Heap, h = H1 := ⟨_, rfl⟩
  rw [← eH] at hXI hMI hBb hS hsz1 ⊢
  refine lv_pop hx hb dL_law_1866 rfl ?_
  refine lv_aload_n hx hb dL_law_1867 rfl (lv_at hl 1 rfl) ?_
  refine law_ldv (kv := 1) hx hb hX hbl hbA hS hl dL_law_1868 dL_law_1869 dL_law_1870 dL_law_1871 dL_law_1872 (by decide) (li_in hi0 hi6 hL (k := 1) (by decide) (by decide)) ?_
  refine law_ldv (kv := 2) hx hb hX hbl hbA hS hl dL_law_1873 dL_law_1874 dL_law_1875 dL_law_1876 dL_law_1877 (by decide) (li_in hi0 hi6 hL (k := 2) (by decide) (by decide)) ?_
  refine law_ldv (kv := 3) hx hb hX hbl hbA hS hl dL_law_1878 dL_law_1879 dL_law_1880 dL_law_1881 dL_law_1882 (by decide) (li_in hi0 hi6 hL (k := 3) (by decide) (by decide)) ?_
  refine va_calli (va_runV (As := [.int (xs (ii + 1).toNatClampNeg), .int (xs (ii + 2).toNatClampNeg), .int (xs (ii + 3).toNatClampNeg)]) (rest := []) ⟨hx, hb, hml, hown, hts⟩ (wX10_walk l dC dI gh B (tot H) s.heap.size mm (xs (ii + 1).toNatClampNeg) (xs (ii + 2).toNatClampNeg) (xs (ii + 3).toNatClampNeg) hB) (cwV 3 hts gL45_m rfl rfl rfl hd_yX10_walk ⟨lel 4 2048 rfl, lel 92 84000 rfl⟩) ⟨PM_fb, MI.recv hMI, PM_use hMI (Nat.le_refl _) hN hX1 (Nat.le_refl _) hS (fun _ h => h) (fun q h z => absurd (hBb q z) (Nat.not_lt.mpr h))⟩ rfl rfl hl.1 rfl (lv_room (Nat.le_of_ble_eq_true rfl)) dL_law_1883 ⟨(show N + 3 + 0 ≤ (600000 : Nat) from by omega), (show SL + 170000 + 0 ≤ (7302250 : Nat) from by omega)⟩) hS (fun q _ h => hB q h) (fun q h => hB q h) (fun rm _ t H1 locs1 ht hvm hprm hB1 hz1 hk1 hS1 => ?_)
  have hXq := hB1.1
  rw [ht] at hXq
  have htq := hB1.2.1
  rw [ht] at htq
  have hXI := XI.kept htq (fun q h1 h2 => hk1 q h1 (fun z => h2.1 z)) hXI
  have hMI := MI.moved hvm.symm hXq
  have hBb : ∀ q, B q → q < H1.size := fun q h => Nat.lt_of_lt_of_le (hBb q h) hz1
  refine W.know (fun hkn => ?_)
  have hsz1 := hkn.2
  clear hB1 hk1 hz1 hkn hXq
  have hS := hS1
  clear hS1
  obtain ⟨H, eH⟩ : ∃ h : Heap, h = H1 := ⟨_, rfl⟩
  rw [← eH] at hXI hMI hBb hS hsz1 ⊢
  refine lv_pop hx hb dL_law_1886 rfl ?_
  refine lv_goto (tgt := 2425) hx hb dL_law_1887 (by decide) ?_
  refine W.tight (n := SL) (by have q9 := XI.tot hXI; omega) ?_
  refine W.widen (k := N + 3) (n := SL) (by omega) (Nat.le_refl _) ?_
  exact kk _ _ _ _ hXI hMI hBb hS (by omega) hl
theorem gL46_x : GoodIn lw_tbl (wsV RL 205 RX9 yX9_islands uX9_islands) := gin_V tbq_4_167 tbq_4_168 tbq_4_169 tbq_1_1 tw_uX9_islands guX9_islands
theorem gL46_m : GoodIn lw_tbl (wsV RL 208 RX10 yX10_islands uX10_islands) := gin_V tbq_7_201 tbq_7_202 tbq_7_203 tbq_1_9 tw_uX10_islands guX10_islands
set_option maxHeartbeats 4000000 in
set_option maxRecDepth 100000 in
theorem law_c46 {p : Program} {e : Env} {s : State} {m : MethodId} {below : List Frame} {meth : Method} {c : Code} (l : Launch) {b L : Nat} {xs : Nat → Int32} (hL : L ≤ 3072) (C0 : lw_At p s m meth c b L xs) (dC : Nat → ClassId) (dI : Nat → Nat → Nat) (gh : Nat → Int32) (B : Nat → Prop) (cc SL xx mm : Nat) (hB : ∀ q, B q → s.heap.size ≤ q) (hcc : cc = tot s.heap + SL) (hSL : SL ≤ 5000000) (hN : nst s) (hX1 : sx s.heap.size s) {ii : Int32} {N : Nat} (hi0 : 0 ≤ ii.toInt) (hi6 : ii.toInt + 6 ≤ (L : Int)) (hNN : N ≤ 100000) {H : Heap} {locs : List Loc} {ls : Array Slot} (hXI : XI dC dI gh (fun q : Nat => ¬ B q ∧ s.heap.size ≤ q) cc xx s H) (hMI : MI dC dI gh B mm s H) (hBb : ∀ q, B q → q < H.size) (hS : va_S (fun q : Nat => s.heap.size ≤ q) s.heap H locs) (hl : lv_has ls 4 [(3, .int ii), (2, .ref mm), (1, .ref xx), (0, .ref b)]) (kk : ∀ (gh : Nat → Int32) (H : Heap) (locs : List Loc) (ls : Array Slot), XI dC dI gh (fun q : Nat => ¬ B q ∧ s.heap.size ≤ q) cc xx s H → MI dC dI gh B mm s H → (∀ q, B q → q < H.size) → va_S (fun q : Nat => s.heap.size ≤ q) s.heap H locs → H.size ≤ s.heap.size + (N + 3) → lv_has ls 4 [(3, .int ii), (2, .ref mm), (1, .ref xx), (0, .ref b)] → W p l e room_1 s m #[Value.ref b] below meth c H locs (N + 3) SL (lw_Z below #[Value.ref b] s) (F0 m 2425 ls [])) : W p l e room_1 s m #[Value.ref b] below meth c H locs N SL (lw_Z below #[Value.ref b] s) (F0 m 1890 ls []) := by
  obtain ⟨hx, hb, hr, hml, hown0, hts, hX, hbl, hlocks, hgv⟩ := id C0
  have hown : s.vm.findClass RL = some m.cls := hown0
  have hbA : ¬ (fun q : Nat => s.heap.size ≤ q) b := Nat.not_le.mpr hbl
  have hAn : ∀ q, (fun q : Nat => ¬ B q ∧ s.heap.size ≤ q) q → s.heap.size ≤ q := fun _ h => h.2
  refine lv_aload_n hx hb dL_law_1890 rfl (lv_at hl 2 rfl) ?_
  refine law_ldv (kv := 1) hx hb hX hbl hbA hS hl dL_law_1891 dL_law_1892 dL_law_1893 dL_law_1894 dL_law_1895 (by decide) (li_in hi0 hi6 hL (k := 1) (by decide) (by decide)) ?_
  refine law_ldv (kv := 2) hx hb hX hbl hbA hS hl dL_law_1896 dL_law_1897 dL_law_1898 dL_law_1899 dL_law_1900 (by decide) (li_in hi0 hi6 hL (k := 2) (by decide) (by decide)) ?_
  refine va_calli (va_runV (As := [.int (xs (ii + 1).toNatClampNeg), .int (xs (ii + 2).toNatClampNeg)]) (rest := []) ⟨hx, hb, hml, hown, hts⟩ (wX9_islands l dC dI gh (fun q : Nat => ¬ B q ∧ s.heap.size ≤ q) cc s.heap.size xx (xs (ii + 1).toNatClampNeg) (xs (ii + 2).toNatClampNeg) hAn) (cwV 2 hts gL46_x rfl rfl rfl hd_yX9_islands ⟨lel 6 2048 rfl, lel 156 84000 rfl⟩) ⟨PX_fb, XI.recv hXI, PX_use hXI hN hX1 (Nat.le_refl _) hS (fun _ h => h) (fun q h => ⟨fun z => absurd (hBb q z) (Nat.not_lt.mpr h), Nat.le_trans hS.1 h⟩)⟩ rfl rfl hl.1 rfl (lv_room (Nat.le_of_ble_eq_true rfl)) dL_law_1901 ⟨(show N + 3 ≤ (600000 : Nat) from by omega), (show SL + 170000 ≤ (7302250 : Nat) from by omega)⟩) hS (fun q _ h => h.2) (fun q h => h.2) (fun rx _ t H1 locs1 ht hvm hprx hB1 hz1 hk1 hS1 => ?_)
  have hXq := hB1.1
  rw [ht] at hXq
  have hMI := MI.kept (fun q h1 h2 => hk1 q h1 (fun z => z.1 h2)) hMI
  have hXI := XI.moved hvm.symm hXq
  have hBb : ∀ q, B q → q < H1.size := fun q h => Nat.lt_of_lt_of_le (hBb q h) hz1
  refine W.know (fun hkn => ?_)
  have hsz1 := hkn.2
  clear hB1 hk1 hz1 hkn hXq
  have hS := hS1
  clear hS1
  obtain ⟨H, eH⟩ : ∃ h : Heap, h = H1 := ⟨_, rfl⟩
  rw [← eH] at hXI hMI hBb hS hsz1 ⊢
  refine lv_pop hx hb dL_law_1904 rfl ?_
  refine lv_aload_n hx hb dL_law_1905 rfl (lv_at hl 1 rfl) ?_
  refine law_ldv (kv := 1) hx hb hX hbl hbA hS hl dL_law_1906 dL_law_1907 dL_law_1908 dL_law_1909 dL_law_1910 (by decide) (li_in hi0 hi6 hL (k := 1) (by decide) (by decide)) ?_
  refine law_ldv (kv := 2) hx hb hX hbl hbA hS hl dL_law_1911 dL_law_1912 dL_law_1913 dL_law_1914 dL_law_1915 (by decide) (li_in hi0 hi6 hL (k := 2) (by decide) (by decide)) ?_
  refine va_calli (va_runV (As := [.int (xs (ii + 1).toNatClampNeg), .int (xs (ii + 2).toNatClampNeg)]) (rest := []) ⟨hx, hb, hml, hown, hts⟩ (wX10_islands l dC dI gh B (tot H) s.heap.size mm (xs (ii + 1).toNatClampNeg) (xs (ii + 2).toNatClampNeg) hB) (cwV 2 hts gL46_m rfl rfl rfl hd_yX10_islands ⟨lel 3 2048 rfl, lel 79 84000 rfl⟩) ⟨PM_fb, MI.recv hMI, PM_use hMI (Nat.le_refl _) hN hX1 (Nat.le_refl _) hS (fun _ h => h) (fun q h z => absurd (hBb q z) (Nat.not_lt.mpr h))⟩ rfl rfl hl.1 rfl (lv_room (Nat.le_of_ble_eq_true rfl)) dL_law_1916 ⟨(show N + 3 + 0 ≤ (600000 : Nat) from by omega), (show SL + 170000 + 0 ≤ (7302250 : Nat) from by omega)⟩) hS (fun q _ h => hB q h) (fun q h => hB q h) (fun rm _ t H1 locs1 ht hvm hprm hB1 hz1 hk1 hS1 => ?_)
  have hXq := hB1.1
  rw [ht] at hXq
  have htq := hB1.2.1
  rw [ht] at htq
  have hXI := XI.kept htq (fun q h1 h2 => hk1 q h1 (fun z => h2.1 z)) hXI
  have hMI := MI.moved hvm.symm hXq
  have hBb : ∀ q, B q → q < H1.size := fun q h => Nat.lt_of_lt_of_le (hBb q h) hz1
  refine W.know (fun hkn => ?_)
  have hsz1 := hkn.2
  clear hB1 hk1 hz1 hkn hXq
  have hS := hS1
  clear hS1
  obtain ⟨H, eH⟩ : ∃ h : Heap, h = H1 := ⟨_, rfl⟩
  rw [← eH] at hXI hMI hBb hS hsz1 ⊢
  refine lv_pop hx hb dL_law_1919 rfl ?_
  refine lv_goto (tgt := 2425) hx hb dL_law_1920 (by decide) ?_
  refine W.tight (n := SL) (by have q9 := XI.tot hXI; omega) ?_
  refine W.widen (k := N + 3) (n := SL) (by omega) (Nat.le_refl _) ?_
  exact kk _ _ _ _ hXI hMI hBb hS (by omega) hl
set_option maxRecDepth 20000 in
theorem gL47_x : GoodIn lw_tbl (wsV RL 209 RX9 yX9_date quX9_date) := goodIn_sub (List.forall_mem_append.mpr ⟨List.forall_mem_cons.mpr ⟨(tb_4 (List.mem_of_getElem? (i := 172) rfl)), List.forall_mem_cons.mpr ⟨(tb_4 (List.mem_of_getElem? (i := 173) rfl)), List.forall_mem_cons.mpr ⟨(tb_4 (List.mem_of_getElem? (i := 174) rfl)), List.forall_mem_cons.mpr ⟨(tb_1 (List.mem_of_getElem? (i := 1) rfl)), (fun _ h => absurd h List.not_mem_nil)⟩⟩⟩⟩, tw_quX9_date⟩) (by decide +kernel)
set_option maxRecDepth 20000 in
theorem gL47_m : GoodIn lw_tbl (wsV RL 212 RX10 yX10_date quX10_date) := goodIn_sub (List.forall_mem_append.mpr ⟨List.forall_mem_cons.mpr ⟨(tb_7 (List.mem_of_getElem? (i := 205) rfl)), List.forall_mem_cons.mpr ⟨(tb_7 (List.mem_of_getElem? (i := 206) rfl)), List.forall_mem_cons.mpr ⟨(tb_7 (List.mem_of_getElem? (i := 207) rfl)), List.forall_mem_cons.mpr ⟨(tb_1 (List.mem_of_getElem? (i := 9) rfl)), (fun _ h => absurd h List.not_mem_nil)⟩⟩⟩⟩, tw_quX10_date⟩) (by decide +kernel)
set_option maxHeartbeats 4000000 in
set_option maxRecDepth 100000 in
theorem law_c47 {p : Program} {e : Env} {s : State} {m : MethodId} {below : List Frame} {meth : Method} {c : Code} (l : Launch) {b L : Nat} {xs : Nat → Int32} (hL : L ≤ 3072) (C0 : lw_At p s m meth c b L xs) (dC : Nat → ClassId) (dI : Nat → Nat → Nat) (gh : Nat → Int32) (B : Nat → Prop) (cc SL xx mm : Nat) (hB : ∀ q, B q → s.heap.size ≤ q) (hcc : cc = tot s.heap + SL) (hSL : SL ≤ 5000000) (hN : nst s) (hX1 : sx s.heap.size s) {ii : Int32} {N : Nat} (hi0 : 0 ≤ ii.toInt) (hi6 : ii.toInt + 6 ≤ (L : Int)) (hNN : N ≤ 100000) {H : Heap} {locs : List Loc} {ls : Array Slot} (hXI : XI dC dI gh (fun q : Nat => ¬ B q ∧ s.heap.size ≤ q) cc xx s H) (hMI : MI dC dI gh B mm s H) (hBb : ∀ q, B q → q < H.size) (hS : va_S (fun q : Nat => s.heap.size ≤ q) s.heap H locs) (hl : lv_has ls 4 [(3, .int ii), (2, .ref mm), (1, .ref xx), (0, .ref b)]) (kk : ∀ (gh : Nat → Int32) (H : Heap) (locs : List Loc) (ls : Array Slot), XI dC dI gh (fun q : Nat => ¬ B q ∧ s.heap.size ≤ q) cc xx s H → MI dC dI gh B mm s H → (∀ q, B q → q < H.size) → va_S (fun q : Nat => s.heap.size ≤ q) s.heap H locs → H.size ≤ s.heap.size + (N + 3) → lv_has ls 4 [(3, .int ii), (2, .ref mm), (1, .ref xx), (0, .ref b)] → W p l e room_1 s m #[Value.ref b] below meth c H locs (N + 3) SL (lw_Z below #[Value.ref b] s) (F0 m 2425 ls [])) : W p l e room_1 s m #[Value.ref b] below meth c H locs N SL (lw_Z below #[Value.ref b] s) (F0 m 1923 ls []) := by
  obtain ⟨hx, hb, hr, hml, hown0, hts, hX, hbl, hlocks, hgv⟩ := id C0
  have hown : s.vm.findClass RL = some m.cls := hown0
  have hbA : ¬ (fun q : Nat => s.heap.size ≤ q) b := Nat.not_le.mpr hbl
  have hAn : ∀ q, (fun q : Nat => ¬ B q ∧ s.heap.size ≤ q) q → s.heap.size ≤ q := fun _ h => h.2
  refine lv_aload_n hx hb dL_law_1923 rfl (lv_at hl 2 rfl) ?_
  refine law_ldv (kv := 1) hx hb hX hbl hbA hS hl dL_law_1924 dL_law_1925 dL_law_1926 dL_law_1927 dL_law_1928 (by decide) (li_in hi0 hi6 hL (k := 1) (by decide) (by decide)) ?_
  refine va_calli (va_runV (As := [.int (xs (ii + 1).toNatClampNeg)]) (rest := []) ⟨hx, hb, hml, hown, hts⟩ (wX9_date l dC dI gh (fun q : Nat => ¬ B q ∧ s.heap.size ≤ q) cc s.heap.size xx (xs (ii + 1).toNatClampNeg) hAn) (cwV 1 hts gL47_x rfl rfl rfl (by decide +kernel) ⟨lel 3 2048 rfl, lel 63 84000 rfl⟩) ⟨PX_fb, XI.recv hXI, PX_use hXI hN hX1 (Nat.le_refl _) hS (fun _ h => h) (fun q h => ⟨fun z => absurd (hBb q z) (Nat.not_lt.mpr h), Nat.le_trans hS.1 h⟩)⟩ rfl rfl hl.1 rfl (lv_room (Nat.le_of_ble_eq_true rfl)) dL_law_1929 ⟨(show N + 0 ≤ (600000 : Nat) from by omega), (show SL + 0 ≤ (7302250 : Nat) from by omega)⟩) hS (fun q _ h => h.2) (fun q h => h.2) (fun rx _ t H1 locs1 ht hvm hprx hB1 hz1 hk1 hS1 => ?_)
  have hXq := hB1.1
  rw [ht] at hXq
  have hMI := MI.kept (fun q h1 h2 => hk1 q h1 (fun z => z.1 h2)) hMI
  have hXI := XI.moved hvm.symm hXq
  have hBb : ∀ q, B q → q < H1.size := fun q h => Nat.lt_of_lt_of_le (hBb q h) hz1
  refine W.know (fun hkn => ?_)
  have hsz1 := hkn.2
  clear hB1 hk1 hz1 hkn hXq
  have hS := hS1
  clear hS1
  obtain ⟨H, eH⟩ : ∃ h : Heap, h = H1 := ⟨_, rfl⟩
  rw [← eH] at hXI hMI hBb hS hsz1 ⊢
  refine lv_pop hx hb dL_law_1932 rfl ?_
  refine lv_aload_n hx hb dL_law_1933 rfl (lv_at hl 1 rfl) ?_
  refine law_ldv (kv := 1) hx hb hX hbl hbA hS hl dL_law_1934 dL_law_1935 dL_law_1936 dL_law_1937 dL_law_1938 (by decide) (li_in hi0 hi6 hL (k := 1) (by decide) (by decide)) ?_
  refine va_calli (va_runV (As := [.int (xs (ii + 1).toNatClampNeg)]) (rest := []) ⟨hx, hb, hml, hown, hts⟩ (wX10_date l dC dI gh B (tot H) s.heap.size mm (xs (ii + 1).toNatClampNeg) hB) (cwV 1 hts gL47_m rfl rfl rfl (by decide +kernel) ⟨lel 3 2048 rfl, lel 66 84000 rfl⟩) ⟨PM_fb, MI.recv hMI, PM_use hMI (Nat.le_refl _) hN hX1 (Nat.le_refl _) hS (fun _ h => h) (fun q h z => absurd (hBb q z) (Nat.not_lt.mpr h))⟩ rfl rfl hl.1 rfl (lv_room (Nat.le_of_ble_eq_true rfl)) dL_law_1939 ⟨(show N + 0 + 0 ≤ (600000 : Nat) from by omega), (show SL + 0 + 0 ≤ (7302250 : Nat) from by omega)⟩) hS (fun q _ h => hB q h) (fun q h => hB q h) (fun rm _ t H1 locs1 ht hvm hprm hB1 hz1 hk1 hS1 => ?_)
  have hXq := hB1.1
  rw [ht] at hXq
  have htq := hB1.2.1
  rw [ht] at htq
  have hXI := XI.kept htq (fun q h1 h2 => hk1 q h1 (fun z => h2.1 z)) hXI
  have hMI := MI.moved hvm.symm hXq
  have hBb : ∀ q, B q → q < H1.size := fun q h => Nat.lt_of_lt_of_le (hBb q h) hz1
  refine W.know (fun hkn => ?_)
  have hsz1 := hkn.2
  clear hB1 hk1 hz1 hkn hXq
  have hS := hS1
  clear hS1
  obtain ⟨H, eH⟩ : ∃ h : Heap, h = H1 := ⟨_, rfl⟩
  rw [← eH] at hXI hMI hBb hS hsz1 ⊢
  refine lv_pop hx hb dL_law_1942 rfl ?_
  refine lv_goto (tgt := 2425) hx hb dL_law_1943 (by decide) ?_
  refine W.tight (n := SL) (by have q9 := XI.tot hXI; omega) ?_
  refine W.widen (k := N + 3) (n := SL) (by omega) (Nat.le_refl _) ?_
  exact kk _ _ _ _ hXI hMI hBb hS (by omega) hl
