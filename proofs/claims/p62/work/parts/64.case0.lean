set_option maxRecDepth 16384
theorem gL0_x : GoodIn lw_tbl (wsV RL 13 RX9 yX9_feed uX9_feed) := gin_V tbq_2_0 tbq_2_1 tbq_2_2 tbq_1_1 tw_uX9_feed guX9_feed
theorem gL0_m : GoodIn lw_tbl (wsV RL 17 RX10 yX10_feed uX10_feed) := gin_V tbq_5_224 tbq_5_225 tbq_5_226 tbq_1_9 tw_uX10_feed guX10_feed
set_option maxHeartbeats 4000000 in
set_option maxRecDepth 100000 in
theorem law_c0 {p : Program} {e : Env} {s : State} {m : MethodId} {below : List Frame} {meth : Method} {c : Code} (l : Launch) {b L : Nat} {xs : Nat → Int32} (hL : L ≤ 3072) (C0 : lw_At p s m meth c b L xs) (dC : Nat → ClassId) (dI : Nat → Nat → Nat) (gh : Nat → Int32) (B : Nat → Prop) (cc SL xx mm : Nat) (hB : ∀ q, B q → s.heap.size ≤ q) (hcc : cc = tot s.heap + SL) (hSL : SL ≤ 5000000) (hN : nst s) (hX1 : sx s.heap.size s) {ii : Int32} {N : Nat} (hi0 : 0 ≤ ii.toInt) (hi6 : ii.toInt + 6 ≤ (L : Int)) (hNN : N ≤ 100000) {H : Heap} {locs : List Loc} {ls : Array Slot} (hXI : XI dC dI gh (fun q : Nat => ¬ B q ∧ s.heap.size ≤ q) cc xx s H) (hMI : MI dC dI gh B mm s H) (hBb : ∀ q, B q → q < H.size) (hS : va_S (fun q : Nat => s.heap.size ≤ q) s.heap H locs) (hl : lv_has ls 4 [(3, .int ii), (2, .ref mm), (1, .ref xx), (0, .ref b)]) (kk : ∀ (gh : Nat → Int32) (H : Heap) (locs : List Loc) (ls : Array Slot), XI dC dI gh (fun q : Nat => ¬ B q ∧ s.heap.size ≤ q) cc xx s H → MI dC dI gh B mm s H → (∀ q, B q → q < H.size) → va_S (fun q : Nat => s.heap.size ≤ q) s.heap H locs → H.size ≤ s.heap.size + (N + 3) → lv_has ls 4 [(3, .int ii), (2, .ref mm), (1, .ref xx), (0, .ref b)] → W p l e room_1 s m #[Value.ref b] below meth c H locs (N + 3) SL (lw_Z below #[Value.ref b] s) (F0 m 2425 ls [])) : W p l e room_1 s m #[Value.ref b] below meth c H locs N SL (lw_Z below #[Value.ref b] s) (F0 m 292 ls []) := by
  obtain ⟨hx, hb, hr, hml, hown0, hts, hX, hbl, hlocks, hgv⟩ := id C0
  have hown : s.vm.findClass RL = some m.cls := hown0
  have hbA : ¬ (fun q : Nat => s.heap.size ≤ q) b := Nat.not_le.mpr hbl
  have hAn : ∀ q, (fun q : Nat => ¬ B q ∧ s.heap.size ≤ q) q → s.heap.size ≤ q := fun _ h => h.2
  refine lv_aload_n hx hb dL_law_292 rfl (lv_at hl 2 rfl) ?_
  refine law_ldv (kv := 1) hx hb hX hbl hbA hS hl dL_law_293 dL_law_294 dL_law_295 dL_law_296 dL_law_297 (by decide) (li_in hi0 hi6 hL (k := 1) (by decide) (by decide)) ?_
  refine law_ldv (kv := 2) hx hb hX hbl hbA hS hl dL_law_298 dL_law_299 dL_law_300 dL_law_301 dL_law_302 (by decide) (li_in hi0 hi6 hL (k := 2) (by decide) (by decide)) ?_
  refine law_ldv (kv := 3) hx hb hX hbl hbA hS hl dL_law_303 dL_law_304 dL_law_305 dL_law_306 dL_law_307 (by decide) (li_in hi0 hi6 hL (k := 3) (by decide) (by decide)) ?_
  refine law_ldv (kv := 4) hx hb hX hbl hbA hS hl dL_law_308 dL_law_309 dL_law_310 dL_law_311 dL_law_312 (by decide) (li_in hi0 hi6 hL (k := 4) (by decide) (by decide)) ?_
  refine law_ldv (kv := 5) hx hb hX hbl hbA hS hl dL_law_313 dL_law_314 dL_law_315 dL_law_316 dL_law_317 (by decide) (li_in hi0 hi6 hL (k := 5) (by decide) (by decide)) ?_
  refine va_calli (va_runV (As := [.int (xs (ii + 1).toNatClampNeg), .int (xs (ii + 2).toNatClampNeg), .int (xs (ii + 3).toNatClampNeg), .int (xs (ii + 4).toNatClampNeg), .int (xs (ii + 5).toNatClampNeg)]) (rest := []) ⟨hx, hb, hml, hown, hts⟩ (wX9_feed l dC dI gh (fun q : Nat => ¬ B q ∧ s.heap.size ≤ q) cc s.heap.size xx (xs (ii + 1).toNatClampNeg) (xs (ii + 2).toNatClampNeg) (xs (ii + 3).toNatClampNeg) (xs (ii + 4).toNatClampNeg) (xs (ii + 5).toNatClampNeg) hAn) (cwV 5 hts gL0_x rfl rfl rfl hd_yX9_feed ⟨lel 2 2048 rfl, lel 47 84000 rfl⟩) ⟨PX_fb, XI.recv hXI, PX_use hXI hN hX1 (Nat.le_refl _) hS (fun _ h => h) (fun q h => ⟨fun z => absurd (hBb q z) (Nat.not_lt.mpr h), Nat.le_trans hS.1 h⟩)⟩ rfl rfl hl.1 rfl (lv_room (Nat.le_of_ble_eq_true rfl)) dL_law_318 ⟨(show N + 0 ≤ (600000 : Nat) from by omega), (show SL + 0 ≤ (7302250 : Nat) from by omega)⟩) hS (fun q _ h => h.2) (fun q h => h.2) (fun rx _ t H1 locs1 ht hvm hprx hB1 hz1 hk1 hS1 => ?_)
  have hXq := hB1.1
  rw [ht] at hXq
  have hMI := MI.kept (fun q h1 h2 => hk1 q h1 (fun z => z.1 h2)) hMI
  have hXI := XI.moved hvm.symm hXq
  have hBb : ∀ q, B q → q < H1.size := fun q h => Nat.lt_of_lt_of_le (hBb q h) hz1
  refine W.know (fun hkn => ?_)
  have hsz1 := hkn.2
  clear hB1 hk1 hz1 hkn hXq
  have hS := hS1
  clear hS1
  obtain ⟨H, eH⟩ : ∃ h : Heap, h = H1 := ⟨_, rfl⟩
  rw [← eH] at hXI hMI hBb hS hsz1 ⊢
  refine lv_pop hx hb dL_law_321 rfl ?_
  refine lv_aload_n hx hb dL_law_322 rfl (lv_at hl 1 rfl) ?_
  refine law_ldv (kv := 1) hx hb hX hbl hbA hS hl dL_law_323 dL_law_324 dL_law_325 dL_law_326 dL_law_327 (by decide) (li_in hi0 hi6 hL (k := 1) (by decide) (by decide)) ?_
  refine law_ldv (kv := 2) hx hb hX hbl hbA hS hl dL_law_328 dL_law_329 dL_law_330 dL_law_331 dL_law_332 (by decide) (li_in hi0 hi6 hL (k := 2) (by decide) (by decide)) ?_
  refine law_ldv (kv := 3) hx hb hX hbl hbA hS hl dL_law_333 dL_law_334 dL_law_335 dL_law_336 dL_law_337 (by decide) (li_in hi0 hi6 hL (k := 3) (by decide) (by decide)) ?_
  refine law_ldv (kv := 4) hx hb hX hbl hbA hS hl dL_law_338 dL_law_339 dL_law_340 dL_law_341 dL_law_342 (by decide) (li_in hi0 hi6 hL (k := 4) (by decide) (by decide)) ?_
  refine law_ldv (kv := 5) hx hb hX hbl hbA hS hl dL_law_343 dL_law_344 dL_law_345 dL_law_346 dL_law_347 (by decide) (li_in hi0 hi6 hL (k := 5) (by decide) (by decide)) ?_
  refine va_calli (va_runV (As := [.int (xs (ii + 1).toNatClampNeg), .int (xs (ii + 2).toNatClampNeg), .int (xs (ii + 3).toNatClampNeg), .int (xs (ii + 4).toNatClampNeg), .int (xs (ii + 5).toNatClampNeg)]) (rest := []) ⟨hx, hb, hml, hown, hts⟩ (wX10_feed l dC dI gh B (tot H) s.heap.size mm (xs (ii + 1).toNatClampNeg) (xs (ii + 2).toNatClampNeg) (xs (ii + 3).toNatClampNeg) (xs (ii + 4).toNatClampNeg) (xs (ii + 5).toNatClampNeg) hB) (cwV 5 hts gL0_m rfl rfl rfl hd_yX10_feed ⟨lel 1 2048 rfl, lel 26 84000 rfl⟩) ⟨PM_fb, MI.recv hMI, PM_use hMI (Nat.le_refl _) hN hX1 (Nat.le_refl _) hS (fun _ h => h) (fun q h z => absurd (hBb q z) (Nat.not_lt.mpr h))⟩ rfl rfl hl.1 rfl (lv_room (Nat.le_of_ble_eq_true rfl)) dL_law_348 ⟨(show N + 0 + 0 ≤ (600000 : Nat) from by omega), (show SL + 0 + 0 ≤ (7302250 : Nat) from by omega)⟩) hS (fun q _ h => hB q h) (fun q h => hB q h) (fun rm _ t H1 locs1 ht hvm hprm hB1 hz1 hk1 hS1 => ?_)
  have hXq := hB1.1
  rw [ht] at hXq
  have htq := hB1.2.1
  rw [ht] at htq
  have hXI := XI.kept htq (fun q h1 h2 => hk1 q h1 (fun z => h2.1 z)) hXI
  have hMI := MI.moved hvm.symm hXq
  have hBb : ∀ q, B q → q < H1.size := fun q h => Nat.lt_of_lt_of_le (hBb q h) hz1
  refine W.know (fun hkn => ?_)
  have hsz1 := hkn.2
  clear hB1 hk1 hz1 hkn hXq
  have hS := hS1
  clear hS1
  obtain ⟨H, eH⟩ : ∃ h : Heap, h = H1 := ⟨_, rfl⟩
  rw [← eH] at hXI hMI hBb hS hsz1 ⊢
  refine lv_pop hx hb dL_law_351 rfl ?_
  refine lv_goto (tgt := 2425) hx hb dL_law_352 (by decide) ?_
  refine W.tight (n := SL) (by have q9 := XI.tot hXI; omega) ?_
  refine W.widen (k := N + 3) (n := SL) (by omega) (Nat.le_refl _) ?_
  exact kk _ _ _ _ hXI hMI hBb hS (by omega) hl
theorem gL1_x : GoodIn lw_tbl (wsV RL 18 RX9 yX9_end uX9_end) := gin_V tbq_2_12 tbq_2_13 tbq_2_14 tbq_1_1 tw_uX9_end guX9_end
theorem gL1_m : GoodIn lw_tbl (wsV RL 22 RX10 yX10_end uX10_end) := gin_V tbq_5_228 tbq_5_229 tbq_5_230 tbq_1_9 tw_uX10_end guX10_end
set_option maxHeartbeats 4000000 in
set_option maxRecDepth 100000 in
theorem law_c1 {p : Program} {e : Env} {s : State} {m : MethodId} {below : List Frame} {meth : Method} {c : Code} (l : Launch) {b L : Nat} {xs : Nat → Int32} (hL : L ≤ 3072) (C0 : lw_At p s m meth c b L xs) (dC : Nat → ClassId) (dI : Nat → Nat → Nat) (gh : Nat → Int32) (B : Nat → Prop) (cc SL xx mm : Nat) (hB : ∀ q, B q → s.heap.size ≤ q) (hcc : cc = tot s.heap + SL) (hSL : SL ≤ 5000000) (hN : nst s) (hX1 : sx s.heap.size s) {ii : Int32} {N : Nat} (hi0 : 0 ≤ ii.toInt) (hi6 : ii.toInt + 6 ≤ (L : Int)) (hNN : N ≤ 100000) {H : Heap} {locs : List Loc} {ls : Array Slot} (hXI : XI dC dI gh (fun q : Nat => ¬ B q ∧ s.heap.size ≤ q) cc xx s H) (hMI : MI dC dI gh B mm s H) (hBb : ∀ q, B q → q < H.size) (hS : va_S (fun q : Nat => s.heap.size ≤ q) s.heap H locs) (hl : lv_has ls 4 [(3, .int ii), (2, .ref mm), (1, .ref xx), (0, .ref b)]) (kk : ∀ (gh : Nat → Int32) (H : Heap) (locs : List Loc) (ls : Array Slot), XI dC dI gh (fun q : Nat => ¬ B q ∧ s.heap.size ≤ q) cc xx s H → MI dC dI gh B mm s H → (∀ q, B q → q < H.size) → va_S (fun q : Nat => s.heap.size ≤ q) s.heap H locs → H.size ≤ s.heap.size + (N + 3) → lv_has ls 4 [(3, .int ii), (2, .ref mm), (1, .ref xx), (0, .ref b)] → W p l e room_1 s m #[Value.ref b] below meth c H locs (N + 3) SL (lw_Z below #[Value.ref b] s) (F0 m 2425 ls [])) : W p l e room_1 s m #[Value.ref b] below meth c H locs N SL (lw_Z below #[Value.ref b] s) (F0 m 355 ls []) := by
  obtain ⟨hx, hb, hr, hml, hown0, hts, hX, hbl, hlocks, hgv⟩ := id C0
  have hown : s.vm.findClass RL = some m.cls := hown0
  have hbA : ¬ (fun q : Nat => s.heap.size ≤ q) b := Nat.not_le.mpr hbl
  have hAn : ∀ q, (fun q : Nat => ¬ B q ∧ s.heap.size ≤ q) q → s.heap.size ≤ q := fun _ h => h.2
  refine lv_aload_n hx hb dL_law_355 rfl (lv_at hl 2 rfl) ?_
  refine law_ldv (kv := 1) hx hb hX hbl hbA hS hl dL_law_356 dL_law_357 dL_law_358 dL_law_359 dL_law_360 (by decide) (li_in hi0 hi6 hL (k := 1) (by decide) (by decide)) ?_
  refine va_calli (va_runV (As := [.int (xs (ii + 1).toNatClampNeg)]) (rest := []) ⟨hx, hb, hml, hown, hts⟩ (wX9_end l dC dI gh (fun q : Nat => ¬ B q ∧ s.heap.size ≤ q) cc s.heap.size xx (xs (ii + 1).toNatClampNeg) hAn) (cwV 1 hts gL1_x rfl rfl rfl hd_yX9_end ⟨lel 1 2048 rfl, lel 21 84000 rfl⟩) ⟨PX_fb, XI.recv hXI, PX_use hXI hN hX1 (Nat.le_refl _) hS (fun _ h => h) (fun q h => ⟨fun z => absurd (hBb q z) (Nat.not_lt.mpr h), Nat.le_trans hS.1 h⟩)⟩ rfl rfl hl.1 rfl (lv_room (Nat.le_of_ble_eq_true rfl)) dL_law_361 ⟨(show N + 0 ≤ (600000 : Nat) from by omega), (show SL + 0 ≤ (7302250 : Nat) from by omega)⟩) hS (fun q _ h => h.2) (fun q h => h.2) (fun rx _ t H1 locs1 ht hvm hprx hB1 hz1 hk1 hS1 => ?_)
  have hXq := hB1.1
  rw [ht] at hXq
  have hMI := MI.kept (fun q h1 h2 => hk1 q h1 (fun z => z.1 h2)) hMI
  have hXI := XI.moved hvm.symm hXq
  have hBb : ∀ q, B q → q < H1.size := fun q h => Nat.lt_of_lt_of_le (hBb q h) hz1
  refine W.know (fun hkn => ?_)
  have hsz1 := hkn.2
  clear hB1 hk1 hz1 hkn hXq
  have hS := hS1
  clear hS1
  obtain ⟨H, eH⟩ : ∃ h : Heap, h = H1 := ⟨_, rfl⟩
  rw [← eH] at hXI hMI hBb hS hsz1 ⊢
  refine lv_pop hx hb dL_law_364 rfl ?_
  refine lv_aload_n hx hb dL_law_365 rfl (lv_at hl 1 rfl) ?_
  refine law_ldv (kv := 1) hx hb hX hbl hbA hS hl dL_law_366 dL_law_367 dL_law_368 dL_law_369 dL_law_370 (by decide) (li_in hi0 hi6 hL (k := 1) (by decide) (by decide)) ?_
  refine va_calli (va_runV (As := [.int (xs (ii + 1).toNatClampNeg)]) (rest := []) ⟨hx, hb, hml, hown, hts⟩ (wX10_end l dC dI gh B (tot H) s.heap.size mm (xs (ii + 1).toNatClampNeg) hB) (cwV 1 hts gL1_m rfl rfl rfl hd_yX10_end ⟨lel 2 2048 rfl, lel 46 84000 rfl⟩) ⟨PM_fb, MI.recv hMI, PM_use hMI (Nat.le_refl _) hN hX1 (Nat.le_refl _) hS (fun _ h => h) (fun q h z => absurd (hBb q z) (Nat.not_lt.mpr h))⟩ rfl rfl hl.1 rfl (lv_room (Nat.le_of_ble_eq_true rfl)) dL_law_371 ⟨(show N + 0 + 0 ≤ (600000 : Nat) from by omega), (show SL + 0 + 0 ≤ (7302250 : Nat) from by omega)⟩) hS (fun q _ h => hB q h) (fun q h => hB q h) (fun rm _ t H1 locs1 ht hvm hprm hB1 hz1 hk1 hS1 => ?_)
  have hXq := hB1.1
  rw [ht] at hXq
  have htq := hB1.2.1
  rw [ht] at htq
  have hXI := XI.kept htq (fun q h1 h2 => hk1 q h1 (fun z => h2.1 z)) hXI
  have hMI := MI.moved hvm.symm hXq
  have hBb : ∀ q, B q → q < H1.size := fun q h => Nat.lt_of_lt_of_le (hBb q h) hz1
  refine W.know (fun hkn => ?_)
  have hsz1 := hkn.2
  clear hB1 hk1 hz1 hkn hXq
  have hS := hS1
  clear hS1
  obtain ⟨H, eH⟩ : ∃ h : Heap, h = H1 := ⟨_, rfl⟩
  rw [← eH] at hXI hMI hBb hS hsz1 ⊢
  refine lv_pop hx hb dL_law_374 rfl ?_
  refine lv_goto (tgt := 2425) hx hb dL_law_375 (by decide) ?_
  refine W.tight (n := SL) (by have q9 := XI.tot hXI; omega) ?_
  refine W.widen (k := N + 3) (n := SL) (by omega) (Nat.le_refl _) ?_
  exact kk _ _ _ _ hXI hMI hBb hS (by omega) hl
theorem gL2_x : GoodIn lw_tbl (wsV RL 23 RX9 yX9_roll uX9_roll) := gin_V tbq_2_16 tbq_2_17 tbq_2_18 tbq_1_1 tw_uX9_roll guX9_roll
theorem gL2_m : GoodIn lw_tbl (wsV RL 27 RX10 yX10_roll uX10_roll) := gin_V tbq_5_236 tbq_5_237 tbq_5_238 tbq_1_9 tw_uX10_roll guX10_roll
set_option maxHeartbeats 4000000 in
set_option maxRecDepth 100000 in
theorem law_c2 {p : Program} {e : Env} {s : State} {m : MethodId} {below : List Frame} {meth : Method} {c : Code} (l : Launch) {b L : Nat} {xs : Nat → Int32} (hL : L ≤ 3072) (C0 : lw_At p s m meth c b L xs) (dC : Nat → ClassId) (dI : Nat → Nat → Nat) (gh : Nat → Int32) (B : Nat → Prop) (cc SL xx mm : Nat) (hB : ∀ q, B q → s.heap.size ≤ q) (hcc : cc = tot s.heap + SL) (hSL : SL ≤ 5000000) (hN : nst s) (hX1 : sx s.heap.size s) {ii : Int32} {N : Nat} (hi0 : 0 ≤ ii.toInt) (hi6 : ii.toInt + 6 ≤ (L : Int)) (hNN : N ≤ 100000) {H : Heap} {locs : List Loc} {ls : Array Slot} (hXI : XI dC dI gh (fun q : Nat => ¬ B q ∧ s.heap.size ≤ q) cc xx s H) (hMI : MI dC dI gh B mm s H) (hBb : ∀ q, B q → q < H.size) (hS : va_S (fun q : Nat => s.heap.size ≤ q) s.heap H locs) (hl : lv_has ls 4 [(3, .int ii), (2, .ref mm), (1, .ref xx), (0, .ref b)]) (kk : ∀ (gh : Nat → Int32) (H : Heap) (locs : List Loc) (ls : Array Slot), XI dC dI gh (fun q : Nat => ¬ B q ∧ s.heap.size ≤ q) cc xx s H → MI dC dI gh B mm s H → (∀ q, B q → q < H.size) → va_S (fun q : Nat => s.heap.size ≤ q) s.heap H locs → H.size ≤ s.heap.size + (N + 3) → lv_has ls 4 [(3, .int ii), (2, .ref mm), (1, .ref xx), (0, .ref b)] → W p l e room_1 s m #[Value.ref b] below meth c H locs (N + 3) SL (lw_Z below #[Value.ref b] s) (F0 m 2425 ls [])) : W p l e room_1 s m #[Value.ref b] below meth c H locs N SL (lw_Z below #[Value.ref b] s) (F0 m 378 ls []) := by
  obtain ⟨hx, hb, hr, hml, hown0, hts, hX, hbl, hlocks, hgv⟩ := id C0
  have hown : s.vm.findClass RL = some m.cls := hown0
  have hbA : ¬ (fun q : Nat => s.heap.size ≤ q) b := Nat.not_le.mpr hbl
  have hAn : ∀ q, (fun q : Nat => ¬ B q ∧ s.heap.size ≤ q) q → s.heap.size ≤ q := fun _ h => h.2
  refine lv_aload_n hx hb dL_law_378 rfl (lv_at hl 2 rfl) ?_
  refine va_calli (va_runV (As := []) (rest := []) ⟨hx, hb, hml, hown, hts⟩ (wX9_roll l dC dI gh (fun q : Nat => ¬ B q ∧ s.heap.size ≤ q) cc s.heap.size xx  hAn) (cwV 0 hts gL2_x rfl rfl rfl hd_yX9_roll ⟨lel 30 2048 rfl, lel 674 84000 rfl⟩) ⟨PX_fb, XI.recv hXI, PX_use hXI hN hX1 (Nat.le_refl _) hS (fun _ h => h) (fun q h => ⟨fun z => absurd (hBb q z) (Nat.not_lt.mpr h), Nat.le_trans hS.1 h⟩)⟩ rfl rfl hl.1 rfl (lv_room (Nat.le_of_ble_eq_true rfl)) dL_law_379 ⟨(show N + 2 ≤ (600000 : Nat) from by omega), (show SL + 40000 ≤ (7302250 : Nat) from by omega)⟩) hS (fun q _ h => h.2) (fun q h => h.2) (fun rx _ t H1 locs1 ht hvm hprx hB1 hz1 hk1 hS1 => ?_)
  have hXq := hB1.1
  rw [ht] at hXq
  have hMI := MI.kept (fun q h1 h2 => hk1 q h1 (fun z => z.1 h2)) hMI
  have hXI := XI.moved hvm.symm hXq
  have hBb : ∀ q, B q → q < H1.size := fun q h => Nat.lt_of_lt_of_le (hBb q h) hz1
  refine W.know (fun hkn => ?_)
  have hsz1 := hkn.2
  clear hB1 hk1 hz1 hkn hXq
  have hS := hS1
  clear hS1
  obtain ⟨H, eH⟩ : ∃ h : Heap, h = H1 := ⟨_, rfl⟩
  rw [← eH] at hXI hMI hBb hS hsz1 ⊢
  refine lv_pop hx hb dL_law_382 rfl ?_
  refine lv_aload_n hx hb dL_law_383 rfl (lv_at hl 1 rfl) ?_
  refine va_calli (va_runV (As := []) (rest := []) ⟨hx, hb, hml, hown, hts⟩ (wX10_roll l dC dI gh B (tot H) s.heap.size mm  hB) (cwV 0 hts gL2_m rfl rfl rfl hd_yX10_roll ⟨lel 12 2048 rfl, lel 257 84000 rfl⟩) ⟨PM_fb, MI.recv hMI, PM_use hMI (Nat.le_refl _) hN hX1 (Nat.le_refl _) hS (fun _ h => h) (fun q h z => absurd (hBb q z) (Nat.not_lt.mpr h))⟩ rfl rfl hl.1 rfl (lv_room (Nat.le_of_ble_eq_true rfl)) dL_law_384 ⟨(show N + 2 + 0 ≤ (600000 : Nat) from by omega), (show SL + 40000 + 0 ≤ (7302250 : Nat) from by omega)⟩) hS (fun q _ h => hB q h) (fun q h => hB q h) (fun rm _ t H1 locs1 ht hvm hprm hB1 hz1 hk1 hS1 => ?_)
  have hXq := hB1.1
  rw [ht] at hXq
  have htq := hB1.2.1
  rw [ht] at htq
  have hXI := XI.kept htq (fun q h1 h2 => hk1 q h1 (fun z => h2.1 z)) hXI
  have hMI := MI.moved hvm.symm hXq
  have hBb : ∀ q, B q → q < H1.size := fun q h => Nat.lt_of_lt_of_le (hBb q h) hz1
  refine W.know (fun hkn => ?_)
  have hsz1 := hkn.2
  clear hB1 hk1 hz1 hkn hXq
  have hS := hS1
  clear hS1
  obtain ⟨H, eH⟩ : ∃ h : Heap, h = H1 := ⟨_, rfl⟩
  rw [← eH] at hXI hMI hBb hS hsz1 ⊢
  refine lv_pop hx hb dL_law_387 rfl ?_
  refine lv_goto (tgt := 2425) hx hb dL_law_388 (by decide) ?_
  refine W.tight (n := SL) (by have q9 := XI.tot hXI; omega) ?_
  refine W.widen (k := N + 3) (n := SL) (by omega) (Nat.le_refl _) ?_
  exact kk _ _ _ _ hXI hMI hBb hS (by omega) hl
theorem gL3_x : GoodIn lw_tbl (wsV RL 28 RX9 yX9_fault uX9_fault) := gin_V tbq_2_230 tbq_2_231 tbq_2_232 tbq_1_1 tw_uX9_fault guX9_fault
theorem gL3_m : GoodIn lw_tbl (wsV RL 31 RX10 yX10_fault uX10_fault) := gin_V tbq_5_232 tbq_5_233 tbq_5_234 tbq_1_9 tw_uX10_fault guX10_fault
set_option maxHeartbeats 4000000 in
set_option maxRecDepth 100000 in
theorem law_c3 {p : Program} {e : Env} {s : State} {m : MethodId} {below : List Frame} {meth : Method} {c : Code} (l : Launch) {b L : Nat} {xs : Nat → Int32} (hL : L ≤ 3072) (C0 : lw_At p s m meth c b L xs) (dC : Nat → ClassId) (dI : Nat → Nat → Nat) (gh : Nat → Int32) (B : Nat → Prop) (cc SL xx mm : Nat) (hB : ∀ q, B q → s.heap.size ≤ q) (hcc : cc = tot s.heap + SL) (hSL : SL ≤ 5000000) (hN : nst s) (hX1 : sx s.heap.size s) {ii : Int32} {N : Nat} (hi0 : 0 ≤ ii.toInt) (hi6 : ii.toInt + 6 ≤ (L : Int)) (hNN : N ≤ 100000) {H : Heap} {locs : List Loc} {ls : Array Slot} (hXI : XI dC dI gh (fun q : Nat => ¬ B q ∧ s.heap.size ≤ q) cc xx s H) (hMI : MI dC dI gh B mm s H) (hBb : ∀ q, B q → q < H.size) (hS : va_S (fun q : Nat => s.heap.size ≤ q) s.heap H locs) (hl : lv_has ls 4 [(3, .int ii), (2, .ref mm), (1, .ref xx), (0, .ref b)]) (kk : ∀ (gh : Nat → Int32) (H : Heap) (locs : List Loc) (ls : Array Slot), XI dC dI gh (fun q : Nat => ¬ B q ∧ s.heap.size ≤ q) cc xx s H → MI dC dI gh B mm s H → (∀ q, B q → q < H.size) → va_S (fun q : Nat => s.heap.size ≤ q) s.heap H locs → H.size ≤ s.heap.size + (N + 3) → lv_has ls 4 [(3, .int ii), (2, .ref mm), (1, .ref xx), (0, .ref b)] → W p l e room_1 s m #[Value.ref b] below meth c H locs (N + 3) SL (lw_Z below #[Value.ref b] s) (F0 m 2425 ls [])) : W p l e room_1 s m #[Value.ref b] below meth c H locs N SL (lw_Z below #[Value.ref b] s) (F0 m 391 ls []) := by
  obtain ⟨hx, hb, hr, hml, hown0, hts, hX, hbl, hlocks, hgv⟩ := id C0
  have hown : s.vm.findClass RL = some m.cls := hown0
  have hbA : ¬ (fun q : Nat => s.heap.size ≤ q) b := Nat.not_le.mpr hbl
  have hAn : ∀ q, (fun q : Nat => ¬ B q ∧ s.heap.size ≤ q) q → s.heap.size ≤ q := fun _ h => h.2
  refine lv_aload_n hx hb dL_law_391 rfl (lv_at hl 2 rfl) ?_
  refine law_ldv (kv := 1) hx hb hX hbl hbA hS hl dL_law_392 dL_law_393 dL_law_394 dL_law_395 dL_law_396 (by decide) (li_in hi0 hi6 hL (k := 1) (by decide) (by decide)) ?_
  refine va_calli (va_runV (As := [.int (xs (ii + 1).toNatClampNeg)]) (rest := []) ⟨hx, hb, hml, hown, hts⟩ (wX9_fault l dC dI gh (fun q : Nat => ¬ B q ∧ s.heap.size ≤ q) cc s.heap.size xx (xs (ii + 1).toNatClampNeg) hAn) (cwV 1 hts gL3_x rfl rfl rfl hd_yX9_fault ⟨lel 1 2048 rfl, lel 21 84000 rfl⟩) ⟨PX_fb, XI.recv hXI, PX_use hXI hN hX1 (Nat.le_refl _) hS (fun _ h => h) (fun q h => ⟨fun z => absurd (hBb q z) (Nat.not_lt.mpr h), Nat.le_trans hS.1 h⟩)⟩ rfl rfl hl.1 rfl (lv_room (Nat.le_of_ble_eq_true rfl)) dL_law_397 ⟨(show N + 0 ≤ (600000 : Nat) from by omega), (show SL + 0 ≤ (7302250 : Nat) from by omega)⟩) hS (fun q _ h => h.2) (fun q h => h.2) (fun rx _ t H1 locs1 ht hvm hprx hB1 hz1 hk1 hS1 => ?_)
  have hXq := hB1.1
  rw [ht] at hXq
  have hMI := MI.kept (fun q h1 h2 => hk1 q h1 (fun z => z.1 h2)) hMI
  have hXI := XI.moved hvm.symm hXq
  have hBb : ∀ q, B q → q < H1.size := fun q h => Nat.lt_of_lt_of_le (hBb q h) hz1
  refine W.know (fun hkn => ?_)
  have hsz1 := hkn.2
  clear hB1 hk1 hz1 hkn hXq
  have hS := hS1
  clear hS1
  obtain ⟨H, eH⟩ : ∃ h : Heap, h = H1 := ⟨_, rfl⟩
  rw [← eH] at hXI hMI hBb hS hsz1 ⊢
  refine lv_pop hx hb dL_law_400 rfl ?_
  refine lv_aload_n hx hb dL_law_401 rfl (lv_at hl 1 rfl) ?_
  refine law_ldv (kv := 1) hx hb hX hbl hbA hS hl dL_law_402 dL_law_403 dL_law_404 dL_law_405 dL_law_406 (by decide) (li_in hi0 hi6 hL (k := 1) (by decide) (by decide)) ?_
  refine va_calli (va_runV (As := [.int (xs (ii + 1).toNatClampNeg)]) (rest := []) ⟨hx, hb, hml, hown, hts⟩ (wX10_fault l dC dI gh B (tot H) s.heap.size mm (xs (ii + 1).toNatClampNeg) hB) (cwV 1 hts gL3_m rfl rfl rfl hd_yX10_fault ⟨lel 1 2048 rfl, lel 21 84000 rfl⟩) ⟨PM_fb, MI.recv hMI, PM_use hMI (Nat.le_refl _) hN hX1 (Nat.le_refl _) hS (fun _ h => h) (fun q h z => absurd (hBb q z) (Nat.not_lt.mpr h))⟩ rfl rfl hl.1 rfl (lv_room (Nat.le_of_ble_eq_true rfl)) dL_law_407 ⟨(show N + 0 + 0 ≤ (600000 : Nat) from by omega), (show SL + 0 + 0 ≤ (7302250 : Nat) from by omega)⟩) hS (fun q _ h => hB q h) (fun q h => hB q h) (fun rm _ t H1 locs1 ht hvm hprm hB1 hz1 hk1 hS1 => ?_)
  have hXq := hB1.1
  rw [ht] at hXq
  have htq := hB1.2.1
  rw [ht] at htq
  have hXI := XI.kept htq (fun q h1 h2 => hk1 q h1 (fun z => h2.1 z)) hXI
  have hMI := MI.moved hvm.symm hXq
  have hBb : ∀ q, B q → q < H1.size := fun q h => Nat.lt_of_lt_of_le (hBb q h) hz1
  refine W.know (fun hkn => ?_)
  have hsz1 := hkn.2
  clear hB1 hk1 hz1 hkn hXq
  have hS := hS1
  clear hS1
  obtain ⟨H, eH⟩ : ∃ h : Heap, h = H1 := ⟨_, rfl⟩
  rw [← eH] at hXI hMI hBb hS hsz1 ⊢
  refine lv_pop hx hb dL_law_410 rfl ?_
  refine lv_goto (tgt := 2425) hx hb dL_law_411 (by decide) ?_
  refine W.tight (n := SL) (by have q9 := XI.tot hXI; omega) ?_
  refine W.widen (k := N + 3) (n := SL) (by omega) (Nat.le_refl _) ?_
  exact kk _ _ _ _ hXI hMI hBb hS (by omega) hl
theorem gL4_x : GoodIn lw_tbl (wsV RL 32 RX9 yX9_figure uX9_figure) := gin_V tbq_2_234 tbq_2_235 tbq_2_236 tbq_1_1 tw_uX9_figure guX9_figure
theorem gL4_m : GoodIn lw_tbl (wsV RL 36 RX10 yX10_figure uX10_figure) := gin_V tbq_6_127 tbq_6_128 tbq_6_129 tbq_1_9 tw_uX10_figure guX10_figure
set_option maxHeartbeats 4000000 in
set_option maxRecDepth 100000 in
theorem law_c4 {p : Program} {e : Env} {s : State} {m : MethodId} {below : List Frame} {meth : Method} {c : Code} (l : Launch) {b L : Nat} {xs : Nat → Int32} (hL : L ≤ 3072) (C0 : lw_At p s m meth c b L xs) (dC : Nat → ClassId) (dI : Nat → Nat → Nat) (gh : Nat → Int32) (B : Nat → Prop) (cc SL xx mm : Nat) (hB : ∀ q, B q → s.heap.size ≤ q) (hcc : cc = tot s.heap + SL) (hSL : SL ≤ 5000000) (hN : nst s) (hX1 : sx s.heap.size s) {ii : Int32} {N : Nat} (hi0 : 0 ≤ ii.toInt) (hi6 : ii.toInt + 6 ≤ (L : Int)) (hNN : N ≤ 100000) {H : Heap} {locs : List Loc} {ls : Array Slot} (hXI : XI dC dI gh (fun q : Nat => ¬ B q ∧ s.heap.size ≤ q) cc xx s H) (hMI : MI dC dI gh B mm s H) (hBb : ∀ q, B q → q < H.size) (hS : va_S (fun q : Nat => s.heap.size ≤ q) s.heap H locs) (hl : lv_has ls 4 [(3, .int ii), (2, .ref mm), (1, .ref xx), (0, .ref b)]) (kk : ∀ (gh : Nat → Int32) (H : Heap) (locs : List Loc) (ls : Array Slot), XI dC dI gh (fun q : Nat => ¬ B q ∧ s.heap.size ≤ q) cc xx s H → MI dC dI gh B mm s H → (∀ q, B q → q < H.size) → va_S (fun q : Nat => s.heap.size ≤ q) s.heap H locs → H.size ≤ s.heap.size + (N + 3) → lv_has ls 4 [(3, .int ii), (2, .ref mm), (1, .ref xx), (0, .ref b)] → W p l e room_1 s m #[Value.ref b] below meth c H locs (N + 3) SL (lw_Z below #[Value.ref b] s) (F0 m 2425 ls [])) : W p l e room_1 s m #[Value.ref b] below meth c H locs N SL (lw_Z below #[Value.ref b] s) (F0 m 414 ls []) := by
  obtain ⟨hx, hb, hr, hml, hown0, hts, hX, hbl, hlocks, hgv⟩ := id C0
  have hown : s.vm.findClass RL = some m.cls := hown0
  have hbA : ¬ (fun q : Nat => s.heap.size ≤ q) b := Nat.not_le.mpr hbl
  have hAn : ∀ q, (fun q : Nat => ¬ B q ∧ s.heap.size ≤ q) q → s.heap.size ≤ q := fun _ h => h.2
  refine lv_aload_n hx hb dL_law_414 rfl (lv_at hl 2 rfl) ?_
  refine law_ldv (kv := 1) hx hb hX hbl hbA hS hl dL_law_415 dL_law_416 dL_law_417 dL_law_418 dL_law_419 (by decide) (li_in hi0 hi6 hL (k := 1) (by decide) (by decide)) ?_
  refine law_ldv (kv := 2) hx hb hX hbl hbA hS hl dL_law_420 dL_law_421 dL_law_422 dL_law_423 dL_law_424 (by decide) (li_in hi0 hi6 hL (k := 2) (by decide) (by decide)) ?_
  refine va_calli (va_runV (As := [.int (xs (ii + 1).toNatClampNeg), .int (xs (ii + 2).toNatClampNeg)]) (rest := []) ⟨hx, hb, hml, hown, hts⟩ (wX9_figure l dC dI gh (fun q : Nat => ¬ B q ∧ s.heap.size ≤ q) cc s.heap.size xx (xs (ii + 1).toNatClampNeg) (xs (ii + 2).toNatClampNeg) hAn) (cwV 2 hts gL4_x rfl rfl rfl hd_yX9_figure ⟨lel 3 2048 rfl, lel 64 84000 rfl⟩) ⟨PX_fb, XI.recv hXI, PX_use hXI hN hX1 (Nat.le_refl _) hS (fun _ h => h) (fun q h => ⟨fun z => absurd (hBb q z) (Nat.not_lt.mpr h), Nat.le_trans hS.1 h⟩)⟩ rfl rfl hl.1 rfl (lv_room (Nat.le_of_ble_eq_true rfl)) dL_law_425 ⟨(show N + 0 ≤ (600000 : Nat) from by omega), (show SL + 0 ≤ (7302250 : Nat) from by omega)⟩) hS (fun q _ h => h.2) (fun q h => h.2) (fun rx _ t H1 locs1 ht hvm hprx hB1 hz1 hk1 hS1 => ?_)
  have hXq := hB1.1
  rw [ht] at hXq
  have hMI := MI.kept (fun q h1 h2 => hk1 q h1 (fun z => z.1 h2)) hMI
  have hXI := XI.moved hvm.symm hXq
  have hBb : ∀ q, B q → q < H1.size := fun q h => Nat.lt_of_lt_of_le (hBb q h) hz1
  refine W.know (fun hkn => ?_)
  have hsz1 := hkn.2
  clear hB1 hk1 hz1 hkn hXq
  have hS := hS1
  clear hS1
  obtain ⟨H, eH⟩ : ∃ h : Heap, h = H1 := ⟨_, rfl⟩
  rw [← eH] at hXI hMI hBb hS hsz1 ⊢
  refine lv_pop hx hb dL_law_428 rfl ?_
  refine lv_aload_n hx hb dL_law_429 rfl (lv_at hl 1 rfl) ?_
  refine law_ldv (kv := 1) hx hb hX hbl hbA hS hl dL_law_430 dL_law_431 dL_law_432 dL_law_433 dL_law_434 (by decide) (li_in hi0 hi6 hL (k := 1) (by decide) (by decide)) ?_
  refine law_ldv (kv := 2) hx hb hX hbl hbA hS hl dL_law_435 dL_law_436 dL_law_437 dL_law_438 dL_law_439 (by decide) (li_in hi0 hi6 hL (k := 2) (by decide) (by decide)) ?_
  refine va_calli (va_runV (As := [.int (xs (ii + 1).toNatClampNeg), .int (xs (ii + 2).toNatClampNeg)]) (rest := []) ⟨hx, hb, hml, hown, hts⟩ (wX10_figure l dC dI gh B (tot H) s.heap.size mm (xs (ii + 1).toNatClampNeg) (xs (ii + 2).toNatClampNeg) hB) (cwV 2 hts gL4_m rfl rfl rfl hd_yX10_figure ⟨lel 3 2048 rfl, lel 69 84000 rfl⟩) ⟨PM_fb, MI.recv hMI, PM_use hMI (Nat.le_refl _) hN hX1 (Nat.le_refl _) hS (fun _ h => h) (fun q h z => absurd (hBb q z) (Nat.not_lt.mpr h))⟩ rfl rfl hl.1 rfl (lv_room (Nat.le_of_ble_eq_true rfl)) dL_law_440 ⟨(show N + 0 + 0 ≤ (600000 : Nat) from by omega), (show SL + 0 + 0 ≤ (7302250 : Nat) from by omega)⟩) hS (fun q _ h => hB q h) (fun q h => hB q h) (fun rm _ t H1 locs1 ht hvm hprm hB1 hz1 hk1 hS1 => ?_)
  have hXq := hB1.1
  rw [ht] at hXq
  have htq := hB1.2.1
  rw [ht] at htq
  have hXI := XI.kept htq (fun q h1 h2 => hk1 q h1 (fun z => h2.1 z)) hXI
  have hMI := MI.moved hvm.symm hXq
  have hBb : ∀ q, B q → q < H1.size := fun q h => Nat.lt_of_lt_of_le (hBb q h) hz1
  refine W.know (fun hkn => ?_)
  have hsz1 := hkn.2
  clear hB1 hk1 hz1 hkn hXq
  have hS := hS1
  clear hS1
  obtain ⟨H, eH⟩ : ∃ h : Heap, h = H1 := ⟨_, rfl⟩
  rw [← eH] at hXI hMI hBb hS hsz1 ⊢
  refine lv_pop hx hb dL_law_443 rfl ?_
  refine lv_goto (tgt := 2425) hx hb dL_law_444 (by decide) ?_
  refine W.tight (n := SL) (by have q9 := XI.tot hXI; omega) ?_
  refine W.widen (k := N + 3) (n := SL) (by omega) (Nat.le_refl _) ?_
  exact kk _ _ _ _ hXI hMI hBb hS (by omega) hl
theorem gL5_x : GoodIn lw_tbl (wsV RL 37 RX9 yX9_sums uX9_sums) := gin_V tbq_3_14 tbq_3_15 tbq_3_16 tbq_1_1 tw_uX9_sums guX9_sums
theorem gL5_m : GoodIn lw_tbl (wsV RL 40 RX10 yX10_sums uX10_sums) := gin_V tbq_6_139 tbq_6_140 tbq_6_141 tbq_1_9 tw_uX10_sums guX10_sums
set_option maxHeartbeats 4000000 in
set_option maxRecDepth 100000 in
theorem law_c5 {p : Program} {e : Env} {s : State} {m : MethodId} {below : List Frame} {meth : Method} {c : Code} (l : Launch) {b L : Nat} {xs : Nat → Int32} (hL : L ≤ 3072) (C0 : lw_At p s m meth c b L xs) (dC : Nat → ClassId) (dI : Nat → Nat → Nat) (gh : Nat → Int32) (B : Nat → Prop) (cc SL xx mm : Nat) (hB : ∀ q, B q → s.heap.size ≤ q) (hcc : cc = tot s.heap + SL) (hSL : SL ≤ 5000000) (hN : nst s) (hX1 : sx s.heap.size s) {ii : Int32} {N : Nat} (hi0 : 0 ≤ ii.toInt) (hi6 : ii.toInt + 6 ≤ (L : Int)) (hNN : N ≤ 100000) {H : Heap} {locs : List Loc} {ls : Array Slot} (hXI : XI dC dI gh (fun q : Nat => ¬ B q ∧ s.heap.size ≤ q) cc xx s H) (hMI : MI dC dI gh B mm s H) (hBb : ∀ q, B q → q < H.size) (hS : va_S (fun q : Nat => s.heap.size ≤ q) s.heap H locs) (hl : lv_has ls 4 [(3, .int ii), (2, .ref mm), (1, .ref xx), (0, .ref b)]) (kk : ∀ (gh : Nat → Int32) (H : Heap) (locs : List Loc) (ls : Array Slot), XI dC dI gh (fun q : Nat => ¬ B q ∧ s.heap.size ≤ q) cc xx s H → MI dC dI gh B mm s H → (∀ q, B q → q < H.size) → va_S (fun q : Nat => s.heap.size ≤ q) s.heap H locs → H.size ≤ s.heap.size + (N + 3) → lv_has ls 4 [(3, .int ii), (2, .ref mm), (1, .ref xx), (0, .ref b)] → W p l e room_1 s m #[Value.ref b] below meth c H locs (N + 3) SL (lw_Z below #[Value.ref b] s) (F0 m 2425 ls [])) : W p l e room_1 s m #[Value.ref b] below meth c H locs N SL (lw_Z below #[Value.ref b] s) (F0 m 447 ls []) := by
  obtain ⟨hx, hb, hr, hml, hown0, hts, hX, hbl, hlocks, hgv⟩ := id C0
  have hown : s.vm.findClass RL = some m.cls := hown0
  have hbA : ¬ (fun q : Nat => s.heap.size ≤ q) b := Nat.not_le.mpr hbl
  have hAn : ∀ q, (fun q : Nat => ¬ B q ∧ s.heap.size ≤ q) q → s.heap.size ≤ q := fun _ h => h.2
  refine lv_aload_n hx hb dL_law_447 rfl (lv_at hl 2 rfl) ?_
  refine law_ldv (kv := 1) hx hb hX hbl hbA hS hl dL_law_448 dL_law_449 dL_law_450 dL_law_451 dL_law_452 (by decide) (li_in hi0 hi6 hL (k := 1) (by decide) (by decide)) ?_
  refine law_ldv (kv := 2) hx hb hX hbl hbA hS hl dL_law_453 dL_law_454 dL_law_455 dL_law_456 dL_law_457 (by decide) (li_in hi0 hi6 hL (k := 2) (by decide) (by decide)) ?_
  refine va_calli (va_runV (As := [.int (xs (ii + 1).toNatClampNeg), .int (xs (ii + 2).toNatClampNeg)]) (rest := []) ⟨hx, hb, hml, hown, hts⟩ (wX9_sums l dC dI gh (fun q : Nat => ¬ B q ∧ s.heap.size ≤ q) cc s.heap.size xx (xs (ii + 1).toNatClampNeg) (xs (ii + 2).toNatClampNeg) hAn) (cwV 2 hts gL5_x rfl rfl rfl hd_yX9_sums ⟨lel 4 2048 rfl, lel 91 84000 rfl⟩) ⟨PX_fb, XI.recv hXI, PX_use hXI hN hX1 (Nat.le_refl _) hS (fun _ h => h) (fun q h => ⟨fun z => absurd (hBb q z) (Nat.not_lt.mpr h), Nat.le_trans hS.1 h⟩)⟩ rfl rfl hl.1 rfl (lv_room (Nat.le_of_ble_eq_true rfl)) dL_law_458 ⟨(show N + 0 ≤ (600000 : Nat) from by omega), (show SL + 0 ≤ (7302250 : Nat) from by omega)⟩) hS (fun q _ h => h.2) (fun q h => h.2) (fun rx _ t H1 locs1 ht hvm hprx hB1 hz1 hk1 hS1 => ?_)
  have hXq := hB1.1
  rw [ht] at hXq
  have hMI := MI.kept (fun q h1 h2 => hk1 q h1 (fun z => z.1 h2)) hMI
  have hXI := XI.moved hvm.symm hXq
  have hBb : ∀ q, B q → q < H1.size := fun q h => Nat.lt_of_lt_of_le (hBb q h) hz1
  refine W.know (fun hkn => ?_)
  have hsz1 := hkn.2
  clear hB1 hk1 hz1 hkn hXq
  have hS := hS1
  clear hS1
  obtain ⟨H, eH⟩ : ∃ h : Heap, h = H1 := ⟨_, rfl⟩
  rw [← eH] at hXI hMI hBb hS hsz1 ⊢
  refine lv_pop hx hb dL_law_461 rfl ?_
  refine lv_aload_n hx hb dL_law_462 rfl (lv_at hl 1 rfl) ?_
  refine law_ldv (kv := 1) hx hb hX hbl hbA hS hl dL_law_463 dL_law_464 dL_law_465 dL_law_466 dL_law_467 (by decide) (li_in hi0 hi6 hL (k := 1) (by decide) (by decide)) ?_
  refine law_ldv (kv := 2) hx hb hX hbl hbA hS hl dL_law_468 dL_law_469 dL_law_470 dL_law_471 dL_law_472 (by decide) (li_in hi0 hi6 hL (k := 2) (by decide) (by decide)) ?_
  refine va_calli (va_runV (As := [.int (xs (ii + 1).toNatClampNeg), .int (xs (ii + 2).toNatClampNeg)]) (rest := []) ⟨hx, hb, hml, hown, hts⟩ (wX10_sums l dC dI gh B (tot H) s.heap.size mm (xs (ii + 1).toNatClampNeg) (xs (ii + 2).toNatClampNeg) hB) (cwV 2 hts gL5_m rfl rfl rfl hd_yX10_sums ⟨lel 3 2048 rfl, lel 69 84000 rfl⟩) ⟨PM_fb, MI.recv hMI, PM_use hMI (Nat.le_refl _) hN hX1 (Nat.le_refl _) hS (fun _ h => h) (fun q h z => absurd (hBb q z) (Nat.not_lt.mpr h))⟩ rfl rfl hl.1 rfl (lv_room (Nat.le_of_ble_eq_true rfl)) dL_law_473 ⟨(show N + 0 + 0 ≤ (600000 : Nat) from by omega), (show SL + 0 + 0 ≤ (7302250 : Nat) from by omega)⟩) hS (fun q _ h => hB q h) (fun q h => hB q h) (fun rm _ t H1 locs1 ht hvm hprm hB1 hz1 hk1 hS1 => ?_)
  have hXq := hB1.1
  rw [ht] at hXq
  have htq := hB1.2.1
  rw [ht] at htq
  have hXI := XI.kept htq (fun q h1 h2 => hk1 q h1 (fun z => h2.1 z)) hXI
  have hMI := MI.moved hvm.symm hXq
  have hBb : ∀ q, B q → q < H1.size := fun q h => Nat.lt_of_lt_of_le (hBb q h) hz1
  refine W.know (fun hkn => ?_)
  have hsz1 := hkn.2
  clear hB1 hk1 hz1 hkn hXq
  have hS := hS1
  clear hS1
  obtain ⟨H, eH⟩ : ∃ h : Heap, h = H1 := ⟨_, rfl⟩
  rw [← eH] at hXI hMI hBb hS hsz1 ⊢
  refine lv_pop hx hb dL_law_476 rfl ?_
  refine lv_goto (tgt := 2425) hx hb dL_law_477 (by decide) ?_
  refine W.tight (n := SL) (by have q9 := XI.tot hXI; omega) ?_
  refine W.widen (k := N + 3) (n := SL) (by omega) (Nat.le_refl _) ?_
  exact kk _ _ _ _ hXI hMI hBb hS (by omega) hl
theorem gL6_x : GoodIn lw_tbl (wsV RL 41 RX9 yX9_lucky uX9_lucky) := gin_V tbq_3_23 tbq_3_24 tbq_3_25 tbq_1_1 tw_uX9_lucky guX9_lucky
theorem gL6_m : GoodIn lw_tbl (wsV RL 44 RX10 yX10_lucky uX10_lucky) := gin_V tbq_6_144 tbq_6_145 tbq_6_146 tbq_1_9 tw_uX10_lucky guX10_lucky
set_option maxHeartbeats 4000000 in
set_option maxRecDepth 100000 in
theorem law_c6 {p : Program} {e : Env} {s : State} {m : MethodId} {below : List Frame} {meth : Method} {c : Code} (l : Launch) {b L : Nat} {xs : Nat → Int32} (hL : L ≤ 3072) (C0 : lw_At p s m meth c b L xs) (dC : Nat → ClassId) (dI : Nat → Nat → Nat) (gh : Nat → Int32) (B : Nat → Prop) (cc SL xx mm : Nat) (hB : ∀ q, B q → s.heap.size ≤ q) (hcc : cc = tot s.heap + SL) (hSL : SL ≤ 5000000) (hN : nst s) (hX1 : sx s.heap.size s) {ii : Int32} {N : Nat} (hi0 : 0 ≤ ii.toInt) (hi6 : ii.toInt + 6 ≤ (L : Int)) (hNN : N ≤ 100000) {H : Heap} {locs : List Loc} {ls : Array Slot} (hXI : XI dC dI gh (fun q : Nat => ¬ B q ∧ s.heap.size ≤ q) cc xx s H) (hMI : MI dC dI gh B mm s H) (hBb : ∀ q, B q → q < H.size) (hS : va_S (fun q : Nat => s.heap.size ≤ q) s.heap H locs) (hl : lv_has ls 4 [(3, .int ii), (2, .ref mm), (1, .ref xx), (0, .ref b)]) (kk : ∀ (gh : Nat → Int32) (H : Heap) (locs : List Loc) (ls : Array Slot), XI dC dI gh (fun q : Nat => ¬ B q ∧ s.heap.size ≤ q) cc xx s H → MI dC dI gh B mm s H → (∀ q, B q → q < H.size) → va_S (fun q : Nat => s.heap.size ≤ q) s.heap H locs → H.size ≤ s.heap.size + (N + 3) → lv_has ls 4 [(3, .int ii), (2, .ref mm), (1, .ref xx), (0, .ref b)] → W p l e room_1 s m #[Value.ref b] below meth c H locs (N + 3) SL (lw_Z below #[Value.ref b] s) (F0 m 2425 ls [])) : W p l e room_1 s m #[Value.ref b] below meth c H locs N SL (lw_Z below #[Value.ref b] s) (F0 m 480 ls []) := by
  obtain ⟨hx, hb, hr, hml, hown0, hts, hX, hbl, hlocks, hgv⟩ := id C0
  have hown : s.vm.findClass RL = some m.cls := hown0
  have hbA : ¬ (fun q : Nat => s.heap.size ≤ q) b := Nat.not_le.mpr hbl
  have hAn : ∀ q, (fun q : Nat => ¬ B q ∧ s.heap.size ≤ q) q → s.heap.size ≤ q := fun _ h => h.2
  refine lv_aload_n hx hb dL_law_480 rfl (lv_at hl 2 rfl) ?_
  refine law_ldv (kv := 1) hx hb hX hbl hbA hS hl dL_law_481 dL_law_482 dL_law_483 dL_law_484 dL_law_485 (by decide) (li_in hi0 hi6 hL (k := 1) (by decide) (by decide)) ?_
  refine law_ldv (kv := 2) hx hb hX hbl hbA hS hl dL_law_486 dL_law_487 dL_law_488 dL_law_489 dL_law_490 (by decide) (li_in hi0 hi6 hL (k := 2) (by decide) (by decide)) ?_
  refine va_calli (va_runV (As := [.int (xs (ii + 1).toNatClampNeg), .int (xs (ii + 2).toNatClampNeg)]) (rest := []) ⟨hx, hb, hml, hown, hts⟩ (wX9_lucky l dC dI gh (fun q : Nat => ¬ B q ∧ s.heap.size ≤ q) cc s.heap.size xx (xs (ii + 1).toNatClampNeg) (xs (ii + 2).toNatClampNeg) hAn) (cwV 2 hts gL6_x rfl rfl rfl hd_yX9_lucky ⟨lel 3 2048 rfl, lel 65 84000 rfl⟩) ⟨PX_fb, XI.recv hXI, PX_use hXI hN hX1 (Nat.le_refl _) hS (fun _ h => h) (fun q h => ⟨fun z => absurd (hBb q z) (Nat.not_lt.mpr h), Nat.le_trans hS.1 h⟩)⟩ rfl rfl hl.1 rfl (lv_room (Nat.le_of_ble_eq_true rfl)) dL_law_491 ⟨(show N + 0 ≤ (600000 : Nat) from by omega), (show SL + 0 ≤ (7302250 : Nat) from by omega)⟩) hS (fun q _ h => h.2) (fun q h => h.2) (fun rx _ t H1 locs1 ht hvm hprx hB1 hz1 hk1 hS1 => ?_)
  have hXq := hB1.1
  rw [ht] at hXq
  have hMI := MI.kept (fun q h1 h2 => hk1 q h1 (fun z => z.1 h2)) hMI
  have hXI := XI.moved hvm.symm hXq
  have hBb : ∀ q, B q → q < H1.size := fun q h => Nat.lt_of_lt_of_le (hBb q h) hz1
  refine W.know (fun hkn => ?_)
  have hsz1 := hkn.2
  clear hB1 hk1 hz1 hkn hXq
  have hS := hS1
  clear hS1
  obtain ⟨H, eH⟩ : ∃ h : Heap, h = H1 := ⟨_, rfl⟩
  rw [← eH] at hXI hMI hBb hS hsz1 ⊢
  refine lv_pop hx hb dL_law_494 rfl ?_
  refine lv_aload_n hx hb dL_law_495 rfl (lv_at hl 1 rfl) ?_
  refine law_ldv (kv := 1) hx hb hX hbl hbA hS hl dL_law_496 dL_law_497 dL_law_498 dL_law_499 dL_law_500 (by decide) (li_in hi0 hi6 hL (k := 1) (by decide) (by decide)) ?_
  refine law_ldv (kv := 2) hx hb hX hbl hbA hS hl dL_law_501 dL_law_502 dL_law_503 dL_law_504 dL_law_505 (by decide) (li_in hi0 hi6 hL (k := 2) (by decide) (by decide)) ?_
  refine va_calli (va_runV (As := [.int (xs (ii + 1).toNatClampNeg), .int (xs (ii + 2).toNatClampNeg)]) (rest := []) ⟨hx, hb, hml, hown, hts⟩ (wX10_lucky l dC dI gh B (tot H) s.heap.size mm (xs (ii + 1).toNatClampNeg) (xs (ii + 2).toNatClampNeg) hB) (cwV 2 hts gL6_m rfl rfl rfl hd_yX10_lucky ⟨lel 4 2048 rfl, lel 91 84000 rfl⟩) ⟨PM_fb, MI.recv hMI, PM_use hMI (Nat.le_refl _) hN hX1 (Nat.le_refl _) hS (fun _ h => h) (fun q h z => absurd (hBb q z) (Nat.not_lt.mpr h))⟩ rfl rfl hl.1 rfl (lv_room (Nat.le_of_ble_eq_true rfl)) dL_law_506 ⟨(show N + 0 + 0 ≤ (600000 : Nat) from by omega), (show SL + 0 + 0 ≤ (7302250 : Nat) from by omega)⟩) hS (fun q _ h => hB q h) (fun q h => hB q h) (fun rm _ t H1 locs1 ht hvm hprm hB1 hz1 hk1 hS1 => ?_)
  have hXq := hB1.1
  rw [ht] at hXq
  have htq := hB1.2.1
  rw [ht] at htq
  have hXI := XI.kept htq (fun q h1 h2 => hk1 q h1 (fun z => h2.1 z)) hXI
  have hMI := MI.moved hvm.symm hXq
  have hBb : ∀ q, B q → q < H1.size := fun q h => Nat.lt_of_lt_of_le (hBb q h) hz1
  refine W.know (fun hkn => ?_)
  have hsz1 := hkn.2
  clear hB1 hk1 hz1 hkn hXq
  have hS := hS1
  clear hS1
  obtain ⟨H, eH⟩ : ∃ h : Heap, h = H1 := ⟨_, rfl⟩
  rw [← eH] at hXI hMI hBb hS hsz1 ⊢
  refine lv_pop hx hb dL_law_509 rfl ?_
  refine lv_goto (tgt := 2425) hx hb dL_law_510 (by decide) ?_
  refine W.tight (n := SL) (by have q9 := XI.tot hXI; omega) ?_
  refine W.widen (k := N + 3) (n := SL) (by omega) (Nat.le_refl _) ?_
  exact kk _ _ _ _ hXI hMI hBb hS (by omega) hl
theorem gL7_x : GoodIn lw_tbl (wsV RL 45 RX9 yX9_laws uX9_laws) := gin_V tbq_3_39 tbq_3_40 tbq_3_41 tbq_1_1 tw_uX9_laws guX9_laws
theorem gL7_m : GoodIn lw_tbl (wsV RL 48 RX10 yX10_laws uX10_laws) := gin_V tbq_6_160 tbq_6_161 tbq_6_162 tbq_1_9 tw_uX10_laws guX10_laws
set_option maxHeartbeats 4000000 in
set_option maxRecDepth 100000 in
theorem law_c7 {p : Program} {e : Env} {s : State} {m : MethodId} {below : List Frame} {meth : Method} {c : Code} (l : Launch) {b L : Nat} {xs : Nat → Int32} (hL : L ≤ 3072) (C0 : lw_At p s m meth c b L xs) (dC : Nat → ClassId) (dI : Nat → Nat → Nat) (gh : Nat → Int32) (B : Nat → Prop) (cc SL xx mm : Nat) (hB : ∀ q, B q → s.heap.size ≤ q) (hcc : cc = tot s.heap + SL) (hSL : SL ≤ 5000000) (hN : nst s) (hX1 : sx s.heap.size s) {ii : Int32} {N : Nat} (hi0 : 0 ≤ ii.toInt) (hi6 : ii.toInt + 6 ≤ (L : Int)) (hNN : N ≤ 100000) {H : Heap} {locs : List Loc} {ls : Array Slot} (hXI : XI dC dI gh (fun q : Nat => ¬ B q ∧ s.heap.size ≤ q) cc xx s H) (hMI : MI dC dI gh B mm s H) (hBb : ∀ q, B q → q < H.size) (hS : va_S (fun q : Nat => s.heap.size ≤ q) s.heap H locs) (hl : lv_has ls 4 [(3, .int ii), (2, .ref mm), (1, .ref xx), (0, .ref b)]) (kk : ∀ (gh : Nat → Int32) (H : Heap) (locs : List Loc) (ls : Array Slot), XI dC dI gh (fun q : Nat => ¬ B q ∧ s.heap.size ≤ q) cc xx s H → MI dC dI gh B mm s H → (∀ q, B q → q < H.size) → va_S (fun q : Nat => s.heap.size ≤ q) s.heap H locs → H.size ≤ s.heap.size + (N + 3) → lv_has ls 4 [(3, .int ii), (2, .ref mm), (1, .ref xx), (0, .ref b)] → W p l e room_1 s m #[Value.ref b] below meth c H locs (N + 3) SL (lw_Z below #[Value.ref b] s) (F0 m 2425 ls [])) : W p l e room_1 s m #[Value.ref b] below meth c H locs N SL (lw_Z below #[Value.ref b] s) (F0 m 513 ls []) := by
  obtain ⟨hx, hb, hr, hml, hown0, hts, hX, hbl, hlocks, hgv⟩ := id C0
  have hown : s.vm.findClass RL = some m.cls := hown0
  have hbA : ¬ (fun q : Nat => s.heap.size ≤ q) b := Nat.not_le.mpr hbl
  have hAn : ∀ q, (fun q : Nat => ¬ B q ∧ s.heap.size ≤ q) q → s.heap.size ≤ q := fun _ h => h.2
  refine lv_aload_n hx hb dL_law_513 rfl (lv_at hl 2 rfl) ?_
  refine law_ldv (kv := 1) hx hb hX hbl hbA hS hl dL_law_514 dL_law_515 dL_law_516 dL_law_517 dL_law_518 (by decide) (li_in hi0 hi6 hL (k := 1) (by decide) (by decide)) ?_
  refine va_calli (va_runV (As := [.int (xs (ii + 1).toNatClampNeg)]) (rest := []) ⟨hx, hb, hml, hown, hts⟩ (wX9_laws l dC dI gh (fun q : Nat => ¬ B q ∧ s.heap.size ≤ q) cc s.heap.size xx (xs (ii + 1).toNatClampNeg) hAn) (cwV 1 hts gL7_x rfl rfl rfl hd_yX9_laws ⟨lel 3 2048 rfl, lel 63 84000 rfl⟩) ⟨PX_fb, XI.recv hXI, PX_use hXI hN hX1 (Nat.le_refl _) hS (fun _ h => h) (fun q h => ⟨fun z => absurd (hBb q z) (Nat.not_lt.mpr h), Nat.le_trans hS.1 h⟩)⟩ rfl rfl hl.1 rfl (lv_room (Nat.le_of_ble_eq_true rfl)) dL_law_519 ⟨(show N + 0 ≤ (600000 : Nat) from by omega), (show SL + 0 ≤ (7302250 : Nat) from by omega)⟩) hS (fun q _ h => h.2) (fun q h => h.2) (fun rx _ t H1 locs1 ht hvm hprx hB1 hz1 hk1 hS1 => ?_)
  have hXq := hB1.1
  rw [ht] at hXq
  have hMI := MI.kept (fun q h1 h2 => hk1 q h1 (fun z => z.1 h2)) hMI
  have hXI := XI.moved hvm.symm hXq
  have hBb : ∀ q, B q → q < H1.size := fun q h => Nat.lt_of_lt_of_le (hBb q h) hz1
  refine W.know (fun hkn => ?_)
  have hsz1 := hkn.2
  clear hB1 hk1 hz1 hkn hXq
  have hS := hS1
  clear hS1
  obtain ⟨H, eH⟩ : ∃ h : Heap, h = H1 := ⟨_, rfl⟩
  rw [← eH] at hXI hMI hBb hS hsz1 ⊢
  refine lv_pop hx hb dL_law_522 rfl ?_
  refine lv_aload_n hx hb dL_law_523 rfl (lv_at hl 1 rfl) ?_
  refine law_ldv (kv := 1) hx hb hX hbl hbA hS hl dL_law_524 dL_law_525 dL_law_526 dL_law_527 dL_law_528 (by decide) (li_in hi0 hi6 hL (k := 1) (by decide) (by decide)) ?_
  refine va_calli (va_runV (As := [.int (xs (ii + 1).toNatClampNeg)]) (rest := []) ⟨hx, hb, hml, hown, hts⟩ (wX10_laws l dC dI gh B (tot H) s.heap.size mm (xs (ii + 1).toNatClampNeg) hB) (cwV 1 hts gL7_m rfl rfl rfl hd_yX10_laws ⟨lel 3 2048 rfl, lel 68 84000 rfl⟩) ⟨PM_fb, MI.recv hMI, PM_use hMI (Nat.le_refl _) hN hX1 (Nat.le_refl _) hS (fun _ h => h) (fun q h z => absurd (hBb q z) (Nat.not_lt.mpr h))⟩ rfl rfl hl.1 rfl (lv_room (Nat.le_of_ble_eq_true rfl)) dL_law_529 ⟨(show N + 0 + 0 ≤ (600000 : Nat) from by omega), (show SL + 0 + 0 ≤ (7302250 : Nat) from by omega)⟩) hS (fun q _ h => hB q h) (fun q h => hB q h) (fun rm _ t H1 locs1 ht hvm hprm hB1 hz1 hk1 hS1 => ?_)
  have hXq := hB1.1
  rw [ht] at hXq
  have htq := hB1.2.1
  rw [ht] at htq
  have hXI := XI.kept htq (fun q h1 h2 => hk1 q h1 (fun z => h2.1 z)) hXI
  have hMI := MI.moved hvm.symm hXq
  have hBb : ∀ q, B q → q < H1.size := fun q h => Nat.lt_of_lt_of_le (hBb q h) hz1
  refine W.know (fun hkn => ?_)
  have hsz1 := hkn.2
  clear hB1 hk1 hz1 hkn hXq
  have hS := hS1
  clear hS1
  obtain ⟨H, eH⟩ : ∃ h : Heap, h = H1 := ⟨_, rfl⟩
  rw [← eH] at hXI hMI hBb hS hsz1 ⊢
  refine lv_pop hx hb dL_law_532 rfl ?_
  refine lv_goto (tgt := 2425) hx hb dL_law_533 (by decide) ?_
  refine W.tight (n := SL) (by have q9 := XI.tot hXI; omega) ?_
  refine W.widen (k := N + 3) (n := SL) (by omega) (Nat.le_refl _) ?_
  exact kk _ _ _ _ hXI hMI hBb hS (by omega) hl
theorem gL8_x : GoodIn lw_tbl (wsV RL 49 RX9 yX9_many uX9_many) := gin_V tbq_3_47 tbq_3_48 tbq_3_49 tbq_1_1 tw_uX9_many guX9_many
theorem gL8_m : GoodIn lw_tbl (wsV RL 52 RX10 yX10_many uX10_many) := gin_V tbq_6_164 tbq_6_165 tbq_6_166 tbq_1_9 tw_uX10_many guX10_many
set_option maxHeartbeats 4000000 in
set_option maxRecDepth 100000 in
theorem law_c8 {p : Program} {e : Env} {s : State} {m : MethodId} {below : List Frame} {meth : Method} {c : Code} (l : Launch) {b L : Nat} {xs : Nat → Int32} (hL : L ≤ 3072) (C0 : lw_At p s m meth c b L xs) (dC : Nat → ClassId) (dI : Nat → Nat → Nat) (gh : Nat → Int32) (B : Nat → Prop) (cc SL xx mm : Nat) (hB : ∀ q, B q → s.heap.size ≤ q) (hcc : cc = tot s.heap + SL) (hSL : SL ≤ 5000000) (hN : nst s) (hX1 : sx s.heap.size s) {ii : Int32} {N : Nat} (hi0 : 0 ≤ ii.toInt) (hi6 : ii.toInt + 6 ≤ (L : Int)) (hNN : N ≤ 100000) {H : Heap} {locs : List Loc} {ls : Array Slot} (hXI : XI dC dI gh (fun q : Nat => ¬ B q ∧ s.heap.size ≤ q) cc xx s H) (hMI : MI dC dI gh B mm s H) (hBb : ∀ q, B q → q < H.size) (hS : va_S (fun q : Nat => s.heap.size ≤ q) s.heap H locs) (hl : lv_has ls 4 [(3, .int ii), (2, .ref mm), (1, .ref xx), (0, .ref b)]) (kk : ∀ (gh : Nat → Int32) (H : Heap) (locs : List Loc) (ls : Array Slot), XI dC dI gh (fun q : Nat => ¬ B q ∧ s.heap.size ≤ q) cc xx s H → MI dC dI gh B mm s H → (∀ q, B q → q < H.size) → va_S (fun q : Nat => s.heap.size ≤ q) s.heap H locs → H.size ≤ s.heap.size + (N + 3) → lv_has ls 4 [(3, .int ii), (2, .ref mm), (1, .ref xx), (0, .ref b)] → W p l e room_1 s m #[Value.ref b] below meth c H locs (N + 3) SL (lw_Z below #[Value.ref b] s) (F0 m 2425 ls [])) : W p l e room_1 s m #[Value.ref b] below meth c H locs N SL (lw_Z below #[Value.ref b] s) (F0 m 536 ls []) := by
  obtain ⟨hx, hb, hr, hml, hown0, hts, hX, hbl, hlocks, hgv⟩ := id C0
  have hown : s.vm.findClass RL = some m.cls := hown0
  have hbA : ¬ (fun q : Nat => s.heap.size ≤ q) b := Nat.not_le.mpr hbl
  have hAn : ∀ q, (fun q : Nat => ¬ B q ∧ s.heap.size ≤ q) q → s.heap.size ≤ q := fun _ h => h.2
  refine lv_aload_n hx hb dL_law_536 rfl (lv_at hl 2 rfl) ?_
  refine law_ldv (kv := 1) hx hb hX hbl hbA hS hl dL_law_537 dL_law_538 dL_law_539 dL_law_540 dL_law_541 (by decide) (li_in hi0 hi6 hL (k := 1) (by decide) (by decide)) ?_
  refine va_calli (va_runV (As := [.int (xs (ii + 1).toNatClampNeg)]) (rest := []) ⟨hx, hb, hml, hown, hts⟩ (wX9_many l dC dI gh (fun q : Nat => ¬ B q ∧ s.heap.size ≤ q) cc s.heap.size xx (xs (ii + 1).toNatClampNeg) hAn) (cwV 1 hts gL8_x rfl rfl rfl hd_yX9_many ⟨lel 4 2048 rfl, lel 81 84000 rfl⟩) ⟨PX_fb, XI.recv hXI, PX_use hXI hN hX1 (Nat.le_refl _) hS (fun _ h => h) (fun q h => ⟨fun z => absurd (hBb q z) (Nat.not_lt.mpr h), Nat.le_trans hS.1 h⟩)⟩ rfl rfl hl.1 rfl (lv_room (Nat.le_of_ble_eq_true rfl)) dL_law_542 ⟨(show N + 0 ≤ (600000 : Nat) from by omega), (show SL + 0 ≤ (7302250 : Nat) from by omega)⟩) hS (fun q _ h => h.2) (fun q h => h.2) (fun rx _ t H1 locs1 ht hvm hprx hB1 hz1 hk1 hS1 => ?_)
  have hXq := hB1.1
  rw [ht] at hXq
  have hMI := MI.kept (fun q h1 h2 => hk1 q h1 (fun z => z.1 h2)) hMI
  have hXI := XI.moved hvm.symm hXq
  have hBb : ∀ q, B q → q < H1.size := fun q h => Nat.lt_of_lt_of_le (hBb q h) hz1
  refine W.know (fun hkn => ?_)
  have hsz1 := hkn.2
  clear hB1 hk1 hz1 hkn hXq
  have hS := hS1
  clear hS1
  obtain ⟨H, eH⟩ : ∃ h : Heap, h = H1 := ⟨_, rfl⟩
  rw [← eH] at hXI hMI hBb hS hsz1 ⊢
  refine lv_pop hx hb dL_law_545 rfl ?_
  refine lv_aload_n hx hb dL_law_546 rfl (lv_at hl 1 rfl) ?_
  refine law_ldv (kv := 1) hx hb hX hbl hbA hS hl dL_law_547 dL_law_548 dL_law_549 dL_law_550 dL_law_551 (by decide) (li_in hi0 hi6 hL (k := 1) (by decide) (by decide)) ?_
  refine va_calli (va_runV (As := [.int (xs (ii + 1).toNatClampNeg)]) (rest := []) ⟨hx, hb, hml, hown, hts⟩ (wX10_many l dC dI gh B (tot H) s.heap.size mm (xs (ii + 1).toNatClampNeg) hB) (cwV 1 hts gL8_m rfl rfl rfl hd_yX10_many ⟨lel 3 2048 rfl, lel 67 84000 rfl⟩) ⟨PM_fb, MI.recv hMI, PM_use hMI (Nat.le_refl _) hN hX1 (Nat.le_refl _) hS (fun _ h => h) (fun q h z => absurd (hBb q z) (Nat.not_lt.mpr h))⟩ rfl rfl hl.1 rfl (lv_room (Nat.le_of_ble_eq_true rfl)) dL_law_552 ⟨(show N + 0 + 0 ≤ (600000 : Nat) from by omega), (show SL + 0 + 0 ≤ (7302250 : Nat) from by omega)⟩) hS (fun q _ h => hB q h) (fun q h => hB q h) (fun rm _ t H1 locs1 ht hvm hprm hB1 hz1 hk1 hS1 => ?_)
  have hXq := hB1.1
  rw [ht] at hXq
  have htq := hB1.2.1
  rw [ht] at htq
  have hXI := XI.kept htq (fun q h1 h2 => hk1 q h1 (fun z => h2.1 z)) hXI
  have hMI := MI.moved hvm.symm hXq
  have hBb : ∀ q, B q → q < H1.size := fun q h => Nat.lt_of_lt_of_le (hBb q h) hz1
  refine W.know (fun hkn => ?_)
  have hsz1 := hkn.2
  clear hB1 hk1 hz1 hkn hXq
  have hS := hS1
  clear hS1
  obtain ⟨H, eH⟩ : ∃ h : Heap, h = H1 := ⟨_, rfl⟩
  rw [← eH] at hXI hMI hBb hS hsz1 ⊢
  refine lv_pop hx hb dL_law_555 rfl ?_
  refine lv_goto (tgt := 2425) hx hb dL_law_556 (by decide) ?_
  refine W.tight (n := SL) (by have q9 := XI.tot hXI; omega) ?_
  refine W.widen (k := N + 3) (n := SL) (by omega) (Nat.le_refl _) ?_
  exact kk _ _ _ _ hXI hMI hBb hS (by omega) hl
theorem gL9_x : GoodIn lw_tbl (wsV RL 53 RX9 yX9_rank uX9_rank) := gin_V tbq_3_65 tbq_3_66 tbq_3_67 tbq_1_1 tw_uX9_rank guX9_rank
theorem gL9_m : GoodIn lw_tbl (wsV RL 56 RX10 yX10_rank uX10_rank) := gin_V tbq_6_176 tbq_6_177 tbq_6_178 tbq_1_9 tw_uX10_rank guX10_rank
set_option maxHeartbeats 4000000 in
set_option maxRecDepth 100000 in
theorem law_c9 {p : Program} {e : Env} {s : State} {m : MethodId} {below : List Frame} {meth : Method} {c : Code} (l : Launch) {b L : Nat} {xs : Nat → Int32} (hL : L ≤ 3072) (C0 : lw_At p s m meth c b L xs) (dC : Nat → ClassId) (dI : Nat → Nat → Nat) (gh : Nat → Int32) (B : Nat → Prop) (cc SL xx mm : Nat) (hB : ∀ q, B q → s.heap.size ≤ q) (hcc : cc = tot s.heap + SL) (hSL : SL ≤ 5000000) (hN : nst s) (hX1 : sx s.heap.size s) {ii : Int32} {N : Nat} (hi0 : 0 ≤ ii.toInt) (hi6 : ii.toInt + 6 ≤ (L : Int)) (hNN : N ≤ 100000) {H : Heap} {locs : List Loc} {ls : Array Slot} (hXI : XI dC dI gh (fun q : Nat => ¬ B q ∧ s.heap.size ≤ q) cc xx s H) (hMI : MI dC dI gh B mm s H) (hBb : ∀ q, B q → q < H.size) (hS : va_S (fun q : Nat => s.heap.size ≤ q) s.heap H locs) (hl : lv_has ls 4 [(3, .int ii), (2, .ref mm), (1, .ref xx), (0, .ref b)]) (kk : ∀ (gh : Nat → Int32) (H : Heap) (locs : List Loc) (ls : Array Slot), XI dC dI gh (fun q : Nat => ¬ B q ∧ s.heap.size ≤ q) cc xx s H → MI dC dI gh B mm s H → (∀ q, B q → q < H.size) → va_S (fun q : Nat => s.heap.size ≤ q) s.heap H locs → H.size ≤ s.heap.size + (N + 3) → lv_has ls 4 [(3, .int ii), (2, .ref mm), (1, .ref xx), (0, .ref b)] → W p l e room_1 s m #[Value.ref b] below meth c H locs (N + 3) SL (lw_Z below #[Value.ref b] s) (F0 m 2425 ls [])) : W p l e room_1 s m #[Value.ref b] below meth c H locs N SL (lw_Z below #[Value.ref b] s) (F0 m 559 ls []) := by
  obtain ⟨hx, hb, hr, hml, hown0, hts, hX, hbl, hlocks, hgv⟩ := id C0
  have hown : s.vm.findClass RL = some m.cls := hown0
  have hbA : ¬ (fun q : Nat => s.heap.size ≤ q) b := Nat.not_le.mpr hbl
  have hAn : ∀ q, (fun q : Nat => ¬ B q ∧ s.heap.size ≤ q) q → s.heap.size ≤ q := fun _ h => h.2
  refine lv_aload_n hx hb dL_law_559 rfl (lv_at hl 2 rfl) ?_
  refine law_ldv (kv := 1) hx hb hX hbl hbA hS hl dL_law_560 dL_law_561 dL_law_562 dL_law_563 dL_law_564 (by decide) (li_in hi0 hi6 hL (k := 1) (by decide) (by decide)) ?_
  refine law_ldv (kv := 2) hx hb hX hbl hbA hS hl dL_law_565 dL_law_566 dL_law_567 dL_law_568 dL_law_569 (by decide) (li_in hi0 hi6 hL (k := 2) (by decide) (by decide)) ?_
  refine va_calli (va_runV (As := [.int (xs (ii + 1).toNatClampNeg), .int (xs (ii + 2).toNatClampNeg)]) (rest := []) ⟨hx, hb, hml, hown, hts⟩ (wX9_rank l dC dI gh (fun q : Nat => ¬ B q ∧ s.heap.size ≤ q) cc s.heap.size xx (xs (ii + 1).toNatClampNeg) (xs (ii + 2).toNatClampNeg) hAn) (cwV 2 hts gL9_x rfl rfl rfl hd_yX9_rank ⟨lel 3 2048 rfl, lel 61 84000 rfl⟩) ⟨PX_fb, XI.recv hXI, PX_use hXI hN hX1 (Nat.le_refl _) hS (fun _ h => h) (fun q h => ⟨fun z => absurd (hBb q z) (Nat.not_lt.mpr h), Nat.le_trans hS.1 h⟩)⟩ rfl rfl hl.1 rfl (lv_room (Nat.le_of_ble_eq_true rfl)) dL_law_570 ⟨(show N + 0 ≤ (600000 : Nat) from by omega), (show SL + 0 ≤ (7302250 : Nat) from by omega)⟩) hS (fun q _ h => h.2) (fun q h => h.2) (fun rx _ t H1 locs1 ht hvm hprx hB1 hz1 hk1 hS1 => ?_)
  have hXq := hB1.1
  rw [ht] at hXq
  have hMI := MI.kept (fun q h1 h2 => hk1 q h1 (fun z => z.1 h2)) hMI
  have hXI := XI.moved hvm.symm hXq
  have hBb : ∀ q, B q → q < H1.size := fun q h => Nat.lt_of_lt_of_le (hBb q h) hz1
  refine W.know (fun hkn => ?_)
  have hsz1 := hkn.2
  clear hB1 hk1 hz1 hkn hXq
  have hS := hS1
  clear hS1
  obtain ⟨H, eH⟩ : ∃ h : Heap, h = H1 := ⟨_, rfl⟩
  rw [← eH] at hXI hMI hBb hS hsz1 ⊢
  refine lv_pop hx hb dL_law_573 rfl ?_
  refine lv_aload_n hx hb dL_law_574 rfl (lv_at hl 1 rfl) ?_
  refine law_ldv (kv := 1) hx hb hX hbl hbA hS hl dL_law_575 dL_law_576 dL_law_577 dL_law_578 dL_law_579 (by decide) (li_in hi0 hi6 hL (k := 1) (by decide) (by decide)) ?_
  refine law_ldv (kv := 2) hx hb hX hbl hbA hS hl dL_law_580 dL_law_581 dL_law_582 dL_law_583 dL_law_584 (by decide) (li_in hi0 hi6 hL (k := 2) (by decide) (by decide)) ?_
  refine va_calli (va_runV (As := [.int (xs (ii + 1).toNatClampNeg), .int (xs (ii + 2).toNatClampNeg)]) (rest := []) ⟨hx, hb, hml, hown, hts⟩ (wX10_rank l dC dI gh B (tot H) s.heap.size mm (xs (ii + 1).toNatClampNeg) (xs (ii + 2).toNatClampNeg) hB) (cwV 2 hts gL9_m rfl rfl rfl hd_yX10_rank ⟨lel 3 2048 rfl, lel 68 84000 rfl⟩) ⟨PM_fb, MI.recv hMI, PM_use hMI (Nat.le_refl _) hN hX1 (Nat.le_refl _) hS (fun _ h => h) (fun q h z => absurd (hBb q z) (Nat.not_lt.mpr h))⟩ rfl rfl hl.1 rfl (lv_room (Nat.le_of_ble_eq_true rfl)) dL_law_585 ⟨(show N + 0 + 0 ≤ (600000 : Nat) from by omega), (show SL + 0 + 0 ≤ (7302250 : Nat) from by omega)⟩) hS (fun q _ h => hB q h) (fun q h => hB q h) (fun rm _ t H1 locs1 ht hvm hprm hB1 hz1 hk1 hS1 => ?_)
  have hXq := hB1.1
  rw [ht] at hXq
  have htq := hB1.2.1
  rw [ht] at htq
  have hXI := XI.kept htq (fun q h1 h2 => hk1 q h1 (fun z => h2.1 z)) hXI
  have hMI := MI.moved hvm.symm hXq
  have hBb : ∀ q, B q → q < H1.size := fun q h => Nat.lt_of_lt_of_le (hBb q h) hz1
  refine W.know (fun hkn => ?_)
  have hsz1 := hkn.2
  clear hB1 hk1 hz1 hkn hXq
  have hS := hS1
  clear hS1
  obtain ⟨H, eH⟩ : ∃ h : Heap, h = H1 := ⟨_, rfl⟩
  rw [← eH] at hXI hMI hBb hS hsz1 ⊢
  refine lv_pop hx hb dL_law_588 rfl ?_
  refine lv_goto (tgt := 2425) hx hb dL_law_589 (by decide) ?_
  refine W.tight (n := SL) (by have q9 := XI.tot hXI; omega) ?_
  refine W.widen (k := N + 3) (n := SL) (by omega) (Nat.le_refl _) ?_
  exact kk _ _ _ _ hXI hMI hBb hS (by omega) hl
theorem gL10_x : GoodIn lw_tbl (wsV RL 57 RX9 yX9_next uX9_next) := gin_V tbq_3_73 tbq_3_74 tbq_3_75 tbq_1_1 tw_uX9_next guX9_next
theorem gL10_m : GoodIn lw_tbl (wsV RL 60 RX10 yX10_next uX10_next) := gin_V tbq_6_180 tbq_6_181 tbq_6_182 tbq_1_9 tw_uX10_next guX10_next
set_option maxHeartbeats 4000000 in
set_option maxRecDepth 100000 in
theorem law_c10 {p : Program} {e : Env} {s : State} {m : MethodId} {below : List Frame} {meth : Method} {c : Code} (l : Launch) {b L : Nat} {xs : Nat → Int32} (hL : L ≤ 3072) (C0 : lw_At p s m meth c b L xs) (dC : Nat → ClassId) (dI : Nat → Nat → Nat) (gh : Nat → Int32) (B : Nat → Prop) (cc SL xx mm : Nat) (hB : ∀ q, B q → s.heap.size ≤ q) (hcc : cc = tot s.heap + SL) (hSL : SL ≤ 5000000) (hN : nst s) (hX1 : sx s.heap.size s) {ii : Int32} {N : Nat} (hi0 : 0 ≤ ii.toInt) (hi6 : ii.toInt + 6 ≤ (L : Int)) (hNN : N ≤ 100000) {H : Heap} {locs : List Loc} {ls : Array Slot} (hXI : XI dC dI gh (fun q : Nat => ¬ B q ∧ s.heap.size ≤ q) cc xx s H) (hMI : MI dC dI gh B mm s H) (hBb : ∀ q, B q → q < H.size) (hS : va_S (fun q : Nat => s.heap.size ≤ q) s.heap H locs) (hl : lv_has ls 4 [(3, .int ii), (2, .ref mm), (1, .ref xx), (0, .ref b)]) (kk : ∀ (gh : Nat → Int32) (H : Heap) (locs : List Loc) (ls : Array Slot), XI dC dI gh (fun q : Nat => ¬ B q ∧ s.heap.size ≤ q) cc xx s H → MI dC dI gh B mm s H → (∀ q, B q → q < H.size) → va_S (fun q : Nat => s.heap.size ≤ q) s.heap H locs → H.size ≤ s.heap.size + (N + 3) → lv_has ls 4 [(3, .int ii), (2, .ref mm), (1, .ref xx), (0, .ref b)] → W p l e room_1 s m #[Value.ref b] below meth c H locs (N + 3) SL (lw_Z below #[Value.ref b] s) (F0 m 2425 ls [])) : W p l e room_1 s m #[Value.ref b] below meth c H locs N SL (lw_Z below #[Value.ref b] s) (F0 m 592 ls []) := by
  obtain ⟨hx, hb, hr, hml, hown0, hts, hX, hbl, hlocks, hgv⟩ := id C0
  have hown : s.vm.findClass RL = some m.cls := hown0
  have hbA : ¬ (fun q : Nat => s.heap.size ≤ q) b := Nat.not_le.mpr hbl
  have hAn : ∀ q, (fun q : Nat => ¬ B q ∧ s.heap.size ≤ q) q → s.heap.size ≤ q := fun _ h => h.2
  refine lv_aload_n hx hb dL_law_592 rfl (lv_at hl 2 rfl) ?_
  refine law_ldv (kv := 1) hx hb hX hbl hbA hS hl dL_law_593 dL_law_594 dL_law_595 dL_law_596 dL_law_597 (by decide) (li_in hi0 hi6 hL (k := 1) (by decide) (by decide)) ?_
  refine law_ldv (kv := 2) hx hb hX hbl hbA hS hl dL_law_598 dL_law_599 dL_law_600 dL_law_601 dL_law_602 (by decide) (li_in hi0 hi6 hL (k := 2) (by decide) (by decide)) ?_
  refine va_calli (va_runV (As := [.int (xs (ii + 1).toNatClampNeg), .int (xs (ii + 2).toNatClampNeg)]) (rest := []) ⟨hx, hb, hml, hown, hts⟩ (wX9_next l dC dI gh (fun q : Nat => ¬ B q ∧ s.heap.size ≤ q) cc s.heap.size xx (xs (ii + 1).toNatClampNeg) (xs (ii + 2).toNatClampNeg) hAn) (cwV 2 hts gL10_x rfl rfl rfl hd_yX9_next ⟨lel 3 2048 rfl, lel 67 84000 rfl⟩) ⟨PX_fb, XI.recv hXI, PX_use hXI hN hX1 (Nat.le_refl _) hS (fun _ h => h) (fun q h => ⟨fun z => absurd (hBb q z) (Nat.not_lt.mpr h), Nat.le_trans hS.1 h⟩)⟩ rfl rfl hl.1 rfl (lv_room (Nat.le_of_ble_eq_true rfl)) dL_law_603 ⟨(show N + 0 ≤ (600000 : Nat) from by omega), (show SL + 0 ≤ (7302250 : Nat) from by omega)⟩) hS (fun q _ h => h.2) (fun q h => h.2) (fun rx _ t H1 locs1 ht hvm hprx hB1 hz1 hk1 hS1 => ?_)
  have hXq := hB1.1
  rw [ht] at hXq
  have hMI := MI.kept (fun q h1 h2 => hk1 q h1 (fun z => z.1 h2)) hMI
  have hXI := XI.moved hvm.symm hXq
  have hBb : ∀ q, B q → q < H1.size := fun q h => Nat.lt_of_lt_of_le (hBb q h) hz1
  refine W.know (fun hkn => ?_)
  have hsz1 := hkn.2
  clear hB1 hk1 hz1 hkn hXq
  have hS := hS1
  clear hS1
  obtain ⟨H, eH⟩ : ∃ h : Heap, h = H1 := ⟨_, rfl⟩
  rw [← eH] at hXI hMI hBb hS hsz1 ⊢
  refine lv_pop hx hb dL_law_606 rfl ?_
  refine lv_aload_n hx hb dL_law_607 rfl (lv_at hl 1 rfl) ?_
  refine law_ldv (kv := 1) hx hb hX hbl hbA hS hl dL_law_608 dL_law_609 dL_law_610 dL_law_611 dL_law_612 (by decide) (li_in hi0 hi6 hL (k := 1) (by decide) (by decide)) ?_
  refine law_ldv (kv := 2) hx hb hX hbl hbA hS hl dL_law_613 dL_law_614 dL_law_615 dL_law_616 dL_law_617 (by decide) (li_in hi0 hi6 hL (k := 2) (by decide) (by decide)) ?_
  refine va_calli (va_runV (As := [.int (xs (ii + 1).toNatClampNeg), .int (xs (ii + 2).toNatClampNeg)]) (rest := []) ⟨hx, hb, hml, hown, hts⟩ (wX10_next l dC dI gh B (tot H) s.heap.size mm (xs (ii + 1).toNatClampNeg) (xs (ii + 2).toNatClampNeg) hB) (cwV 2 hts gL10_m rfl rfl rfl hd_yX10_next ⟨lel 4 2048 rfl, lel 91 84000 rfl⟩) ⟨PM_fb, MI.recv hMI, PM_use hMI (Nat.le_refl _) hN hX1 (Nat.le_refl _) hS (fun _ h => h) (fun q h z => absurd (hBb q z) (Nat.not_lt.mpr h))⟩ rfl rfl hl.1 rfl (lv_room (Nat.le_of_ble_eq_true rfl)) dL_law_618 ⟨(show N + 0 + 0 ≤ (600000 : Nat) from by omega), (show SL + 0 + 0 ≤ (7302250 : Nat) from by omega)⟩) hS (fun q _ h => hB q h) (fun q h => hB q h) (fun rm _ t H1 locs1 ht hvm hprm hB1 hz1 hk1 hS1 => ?_)
  have hXq := hB1.1
  rw [ht] at hXq
  have htq := hB1.2.1
  rw [ht] at htq
  have hXI := XI.kept htq (fun q h1 h2 => hk1 q h1 (fun z => h2.1 z)) hXI
  have hMI := MI.moved hvm.symm hXq
  have hBb : ∀ q, B q → q < H1.size := fun q h => Nat.lt_of_lt_of_le (hBb q h) hz1
  refine W.know (fun hkn => ?_)
  have hsz1 := hkn.2
  clear hB1 hk1 hz1 hkn hXq
  have hS := hS1
  clear hS1
  obtain ⟨H, eH⟩ : ∃ h : Heap, h = H1 := ⟨_, rfl⟩
  rw [← eH] at hXI hMI hBb hS hsz1 ⊢
  refine lv_pop hx hb dL_law_621 rfl ?_
  refine lv_goto (tgt := 2425) hx hb dL_law_622 (by decide) ?_
  refine W.tight (n := SL) (by have q9 := XI.tot hXI; omega) ?_
  refine W.widen (k := N + 3) (n := SL) (by omega) (Nat.le_refl _) ?_
  exact kk _ _ _ _ hXI hMI hBb hS (by omega) hl
theorem gL11_x : GoodIn lw_tbl (wsV RL 61 RX9 yX9_last uX9_last) := gin_V tbq_3_85 tbq_3_86 tbq_3_87 tbq_1_1 tw_uX9_last guX9_last
theorem gL11_m : GoodIn lw_tbl (wsV RL 64 RX10 yX10_last uX10_last) := gin_V tbq_6_188 tbq_6_189 tbq_6_190 tbq_1_9 tw_uX10_last guX10_last
set_option maxHeartbeats 4000000 in
set_option maxRecDepth 100000 in
theorem law_c11 {p : Program} {e : Env} {s : State} {m : MethodId} {below : List Frame} {meth : Method} {c : Code} (l : Launch) {b L : Nat} {xs : Nat → Int32} (hL : L ≤ 3072) (C0 : lw_At p s m meth c b L xs) (dC : Nat → ClassId) (dI : Nat → Nat → Nat) (gh : Nat → Int32) (B : Nat → Prop) (cc SL xx mm : Nat) (hB : ∀ q, B q → s.heap.size ≤ q) (hcc : cc = tot s.heap + SL) (hSL : SL ≤ 5000000) (hN : nst s) (hX1 : sx s.heap.size s) {ii : Int32} {N : Nat} (hi0 : 0 ≤ ii.toInt) (hi6 : ii.toInt + 6 ≤ (L : Int)) (hNN : N ≤ 100000) {H : Heap} {locs : List Loc} {ls : Array Slot} (hXI : XI dC dI gh (fun q : Nat => ¬ B q ∧ s.heap.size ≤ q) cc xx s H) (hMI : MI dC dI gh B mm s H) (hBb : ∀ q, B q → q < H.size) (hS : va_S (fun q : Nat => s.heap.size ≤ q) s.heap H locs) (hl : lv_has ls 4 [(3, .int ii), (2, .ref mm), (1, .ref xx), (0, .ref b)]) (kk : ∀ (gh : Nat → Int32) (H : Heap) (locs : List Loc) (ls : Array Slot), XI dC dI gh (fun q : Nat => ¬ B q ∧ s.heap.size ≤ q) cc xx s H → MI dC dI gh B mm s H → (∀ q, B q → q < H.size) → va_S (fun q : Nat => s.heap.size ≤ q) s.heap H locs → H.size ≤ s.heap.size + (N + 3) → lv_has ls 4 [(3, .int ii), (2, .ref mm), (1, .ref xx), (0, .ref b)] → W p l e room_1 s m #[Value.ref b] below meth c H locs (N + 3) SL (lw_Z below #[Value.ref b] s) (F0 m 2425 ls [])) : W p l e room_1 s m #[Value.ref b] below meth c H locs N SL (lw_Z below #[Value.ref b] s) (F0 m 625 ls []) := by
  obtain ⟨hx, hb, hr, hml, hown0, hts, hX, hbl, hlocks, hgv⟩ := id C0
  have hown : s.vm.findClass RL = some m.cls := hown0
  have hbA : ¬ (fun q : Nat => s.heap.size ≤ q) b := Nat.not_le.mpr hbl
  have hAn : ∀ q, (fun q : Nat => ¬ B q ∧ s.heap.size ≤ q) q → s.heap.size ≤ q := fun _ h => h.2
  refine lv_aload_n hx hb dL_law_625 rfl (lv_at hl 2 rfl) ?_
  refine law_ldv (kv := 1) hx hb hX hbl hbA hS hl dL_law_626 dL_law_627 dL_law_628 dL_law_629 dL_law_630 (by decide) (li_in hi0 hi6 hL (k := 1) (by decide) (by decide)) ?_
  refine law_ldv (kv := 2) hx hb hX hbl hbA hS hl dL_law_631 dL_law_632 dL_law_633 dL_law_634 dL_law_635 (by decide) (li_in hi0 hi6 hL (k := 2) (by decide) (by decide)) ?_
  refine va_calli (va_runV (As := [.int (xs (ii + 1).toNatClampNeg), .int (xs (ii + 2).toNatClampNeg)]) (rest := []) ⟨hx, hb, hml, hown, hts⟩ (wX9_last l dC dI gh (fun q : Nat => ¬ B q ∧ s.heap.size ≤ q) cc s.heap.size xx (xs (ii + 1).toNatClampNeg) (xs (ii + 2).toNatClampNeg) hAn) (cwV 2 hts gL11_x rfl rfl rfl hd_yX9_last ⟨lel 3 2048 rfl, lel 67 84000 rfl⟩) ⟨PX_fb, XI.recv hXI, PX_use hXI hN hX1 (Nat.le_refl _) hS (fun _ h => h) (fun q h => ⟨fun z => absurd (hBb q z) (Nat.not_lt.mpr h), Nat.le_trans hS.1 h⟩)⟩ rfl rfl hl.1 rfl (lv_room (Nat.le_of_ble_eq_true rfl)) dL_law_636 ⟨(show N + 0 ≤ (600000 : Nat) from by omega), (show SL + 0 ≤ (7302250 : Nat) from by omega)⟩) hS (fun q _ h => h.2) (fun q h => h.2) (fun rx _ t H1 locs1 ht hvm hprx hB1 hz1 hk1 hS1 => ?_)
  have hXq := hB1.1
  rw [ht] at hXq
  have hMI := MI.kept (fun q h1 h2 => hk1 q h1 (fun z => z.1 h2)) hMI
  have hXI := XI.moved hvm.symm hXq
  have hBb : ∀ q, B q → q < H1.size := fun q h => Nat.lt_of_lt_of_le (hBb q h) hz1
  refine W.know (fun hkn => ?_)
  have hsz1 := hkn.2
  clear hB1 hk1 hz1 hkn hXq
  have hS := hS1
  clear hS1
  obtain ⟨H, eH⟩ : ∃ h : Heap, h = H1 := ⟨_, rfl⟩
  rw [← eH] at hXI hMI hBb hS hsz1 ⊢
  refine lv_pop hx hb dL_law_639 rfl ?_
  refine lv_aload_n hx hb dL_law_640 rfl (lv_at hl 1 rfl) ?_
  refine law_ldv (kv := 1) hx hb hX hbl hbA hS hl dL_law_641 dL_law_642 dL_law_643 dL_law_644 dL_law_645 (by decide) (li_in hi0 hi6 hL (k := 1) (by decide) (by decide)) ?_
  refine law_ldv (kv := 2) hx hb hX hbl hbA hS hl dL_law_646 dL_law_647 dL_law_648 dL_law_649 dL_law_650 (by decide) (li_in hi0 hi6 hL (k := 2) (by decide) (by decide)) ?_
  refine va_calli (va_runV (As := [.int (xs (ii + 1).toNatClampNeg), .int (xs (ii + 2).toNatClampNeg)]) (rest := []) ⟨hx, hb, hml, hown, hts⟩ (wX10_last l dC dI gh B (tot H) s.heap.size mm (xs (ii + 1).toNatClampNeg) (xs (ii + 2).toNatClampNeg) hB) (cwV 2 hts gL11_m rfl rfl rfl hd_yX10_last ⟨lel 4 2048 rfl, lel 91 84000 rfl⟩) ⟨PM_fb, MI.recv hMI, PM_use hMI (Nat.le_refl _) hN hX1 (Nat.le_refl _) hS (fun _ h => h) (fun q h z => absurd (hBb q z) (Nat.not_lt.mpr h))⟩ rfl rfl hl.1 rfl (lv_room (Nat.le_of_ble_eq_true rfl)) dL_law_651 ⟨(show N + 0 + 0 ≤ (600000 : Nat) from by omega), (show SL + 0 + 0 ≤ (7302250 : Nat) from by omega)⟩) hS (fun q _ h => hB q h) (fun q h => hB q h) (fun rm _ t H1 locs1 ht hvm hprm hB1 hz1 hk1 hS1 => ?_)
  have hXq := hB1.1
  rw [ht] at hXq
  have htq := hB1.2.1
  rw [ht] at htq
  have hXI := XI.kept htq (fun q h1 h2 => hk1 q h1 (fun z => h2.1 z)) hXI
  have hMI := MI.moved hvm.symm hXq
  have hBb : ∀ q, B q → q < H1.size := fun q h => Nat.lt_of_lt_of_le (hBb q h) hz1
  refine W.know (fun hkn => ?_)
  have hsz1 := hkn.2
  clear hB1 hk1 hz1 hkn hXq
  have hS := hS1
  clear hS1
  obtain ⟨H, eH⟩ : ∃ h : Heap, h = H1 := ⟨_, rfl⟩
  rw [← eH] at hXI hMI hBb hS hsz1 ⊢
  refine lv_pop hx hb dL_law_654 rfl ?_
  refine lv_goto (tgt := 2425) hx hb dL_law_655 (by decide) ?_
  refine W.tight (n := SL) (by have q9 := XI.tot hXI; omega) ?_
  refine W.widen (k := N + 3) (n := SL) (by omega) (Nat.le_refl _) ?_
  exact kk _ _ _ _ hXI hMI hBb hS (by omega) hl
theorem gL12_x : GoodIn lw_tbl (wsV RL 65 RX9 yX9_nth uX9_nth) := gin_V tbq_3_93 tbq_3_94 tbq_3_95 tbq_1_1 tw_uX9_nth guX9_nth
theorem gL12_m : GoodIn lw_tbl (wsV RL 68 RX10 yX10_nth uX10_nth) := gin_V tbq_6_196 tbq_6_197 tbq_6_198 tbq_1_9 tw_uX10_nth guX10_nth
set_option maxHeartbeats 4000000 in
set_option maxRecDepth 100000 in
theorem law_c12 {p : Program} {e : Env} {s : State} {m : MethodId} {below : List Frame} {meth : Method} {c : Code} (l : Launch) {b L : Nat} {xs : Nat → Int32} (hL : L ≤ 3072) (C0 : lw_At p s m meth c b L xs) (dC : Nat → ClassId) (dI : Nat → Nat → Nat) (gh : Nat → Int32) (B : Nat → Prop) (cc SL xx mm : Nat) (hB : ∀ q, B q → s.heap.size ≤ q) (hcc : cc = tot s.heap + SL) (hSL : SL ≤ 5000000) (hN : nst s) (hX1 : sx s.heap.size s) {ii : Int32} {N : Nat} (hi0 : 0 ≤ ii.toInt) (hi6 : ii.toInt + 6 ≤ (L : Int)) (hNN : N ≤ 100000) {H : Heap} {locs : List Loc} {ls : Array Slot} (hXI : XI dC dI gh (fun q : Nat => ¬ B q ∧ s.heap.size ≤ q) cc xx s H) (hMI : MI dC dI gh B mm s H) (hBb : ∀ q, B q → q < H.size) (hS : va_S (fun q : Nat => s.heap.size ≤ q) s.heap H locs) (hl : lv_has ls 4 [(3, .int ii), (2, .ref mm), (1, .ref xx), (0, .ref b)]) (kk : ∀ (gh : Nat → Int32) (H : Heap) (locs : List Loc) (ls : Array Slot), XI dC dI gh (fun q : Nat => ¬ B q ∧ s.heap.size ≤ q) cc xx s H → MI dC dI gh B mm s H → (∀ q, B q → q < H.size) → va_S (fun q : Nat => s.heap.size ≤ q) s.heap H locs → H.size ≤ s.heap.size + (N + 3) → lv_has ls 4 [(3, .int ii), (2, .ref mm), (1, .ref xx), (0, .ref b)] → W p l e room_1 s m #[Value.ref b] below meth c H locs (N + 3) SL (lw_Z below #[Value.ref b] s) (F0 m 2425 ls [])) : W p l e room_1 s m #[Value.ref b] below meth c H locs N SL (lw_Z below #[Value.ref b] s) (F0 m 658 ls []) := by
  obtain ⟨hx, hb, hr, hml, hown0, hts, hX, hbl, hlocks, hgv⟩ := id C0
  have hown : s.vm.findClass RL = some m.cls := hown0
  have hbA : ¬ (fun q : Nat => s.heap.size ≤ q) b := Nat.not_le.mpr hbl
  have hAn : ∀ q, (fun q : Nat => ¬ B q ∧ s.heap.size ≤ q) q → s.heap.size ≤ q := fun _ h => h.2
  refine lv_aload_n hx hb dL_law_658 rfl (lv_at hl 2 rfl) ?_
  refine law_ldv (kv := 1) hx hb hX hbl hbA hS hl dL_law_659 dL_law_660 dL_law_661 dL_law_662 dL_law_663 (by decide) (li_in hi0 hi6 hL (k := 1) (by decide) (by decide)) ?_
  refine law_ldv (kv := 2) hx hb hX hbl hbA hS hl dL_law_664 dL_law_665 dL_law_666 dL_law_667 dL_law_668 (by decide) (li_in hi0 hi6 hL (k := 2) (by decide) (by decide)) ?_
  refine va_calli (va_runV (As := [.int (xs (ii + 1).toNatClampNeg), .int (xs (ii + 2).toNatClampNeg)]) (rest := []) ⟨hx, hb, hml, hown, hts⟩ (wX9_nth l dC dI gh (fun q : Nat => ¬ B q ∧ s.heap.size ≤ q) cc s.heap.size xx (xs (ii + 1).toNatClampNeg) (xs (ii + 2).toNatClampNeg) hAn) (cwV 2 hts gL12_x rfl rfl rfl hd_yX9_nth ⟨lel 3 2048 rfl, lel 68 84000 rfl⟩) ⟨PX_fb, XI.recv hXI, PX_use hXI hN hX1 (Nat.le_refl _) hS (fun _ h => h) (fun q h => ⟨fun z => absurd (hBb q z) (Nat.not_lt.mpr h), Nat.le_trans hS.1 h⟩)⟩ rfl rfl hl.1 rfl (lv_room (Nat.le_of_ble_eq_true rfl)) dL_law_669 ⟨(show N + 0 ≤ (600000 : Nat) from by omega), (show SL + 0 ≤ (7302250 : Nat) from by omega)⟩) hS (fun q _ h => h.2) (fun q h => h.2) (fun rx _ t H1 locs1 ht hvm hprx hB1 hz1 hk1 hS1 => ?_)
  have hXq := hB1.1
  rw [ht] at hXq
  have hMI := MI.kept (fun q h1 h2 => hk1 q h1 (fun z => z.1 h2)) hMI
  have hXI := XI.moved hvm.symm hXq
  have hBb : ∀ q, B q → q < H1.size := fun q h => Nat.lt_of_lt_of_le (hBb q h) hz1
  refine W.know (fun hkn => ?_)
  have hsz1 := hkn.2
  clear hB1 hk1 hz1 hkn hXq
  have hS := hS1
  clear hS1
  obtain ⟨H, eH⟩ : ∃ h : Heap, h = H1 := ⟨_, rfl⟩
  rw [← eH] at hXI hMI hBb hS hsz1 ⊢
  refine lv_pop hx hb dL_law_672 rfl ?_
  refine lv_aload_n hx hb dL_law_673 rfl (lv_at hl 1 rfl) ?_
  refine law_ldv (kv := 1) hx hb hX hbl hbA hS hl dL_law_674 dL_law_675 dL_law_676 dL_law_677 dL_law_678 (by decide) (li_in hi0 hi6 hL (k := 1) (by decide) (by decide)) ?_
  refine law_ldv (kv := 2) hx hb hX hbl hbA hS hl dL_law_679 dL_law_680 dL_law_681 dL_law_682 dL_law_683 (by decide) (li_in hi0 hi6 hL (k := 2) (by decide) (by decide)) ?_
  refine va_calli (va_runV (As := [.int (xs (ii + 1).toNatClampNeg), .int (xs (ii + 2).toNatClampNeg)]) (rest := []) ⟨hx, hb, hml, hown, hts⟩ (wX10_nth l dC dI gh B (tot H) s.heap.size mm (xs (ii + 1).toNatClampNeg) (xs (ii + 2).toNatClampNeg) hB) (cwV 2 hts gL12_m rfl rfl rfl hd_yX10_nth ⟨lel 3 2048 rfl, lel 68 84000 rfl⟩) ⟨PM_fb, MI.recv hMI, PM_use hMI (Nat.le_refl _) hN hX1 (Nat.le_refl _) hS (fun _ h => h) (fun q h z => absurd (hBb q z) (Nat.not_lt.mpr h))⟩ rfl rfl hl.1 rfl (lv_room (Nat.le_of_ble_eq_true rfl)) dL_law_684 ⟨(show N + 0 + 0 ≤ (600000 : Nat) from by omega), (show SL + 0 + 0 ≤ (7302250 : Nat) from by omega)⟩) hS (fun q _ h => hB q h) (fun q h => hB q h) (fun rm _ t H1 locs1 ht hvm hprm hB1 hz1 hk1 hS1 => ?_)
  have hXq := hB1.1
  rw [ht] at hXq
  have htq := hB1.2.1
  rw [ht] at htq
  have hXI := XI.kept htq (fun q h1 h2 => hk1 q h1 (fun z => h2.1 z)) hXI
  have hMI := MI.moved hvm.symm hXq
  have hBb : ∀ q, B q → q < H1.size := fun q h => Nat.lt_of_lt_of_le (hBb q h) hz1
  refine W.know (fun hkn => ?_)
  have hsz1 := hkn.2
  clear hB1 hk1 hz1 hkn hXq
  have hS := hS1
  clear hS1
  obtain ⟨H, eH⟩ : ∃ h : Heap, h = H1 := ⟨_, rfl⟩
  rw [← eH] at hXI hMI hBb hS hsz1 ⊢
  refine lv_pop hx hb dL_law_687 rfl ?_
  refine lv_goto (tgt := 2425) hx hb dL_law_688 (by decide) ?_
  refine W.tight (n := SL) (by have q9 := XI.tot hXI; omega) ?_
  refine W.widen (k := N + 3) (n := SL) (by omega) (Nat.le_refl _) ?_
  exact kk _ _ _ _ hXI hMI hBb hS (by omega) hl
theorem gL13_x : GoodIn lw_tbl (wsV RL 69 RX9 yX9_gap uX9_gap) := gin_V tbq_3_101 tbq_3_102 tbq_3_103 tbq_1_1 tw_uX9_gap guX9_gap
theorem gL13_m : GoodIn lw_tbl (wsV RL 72 RX10 yX10_gap uX10_gap) := gin_V tbq_6_204 tbq_6_205 tbq_6_206 tbq_1_9 tw_uX10_gap guX10_gap
set_option maxHeartbeats 4000000 in
set_option maxRecDepth 100000 in
theorem law_c13 {p : Program} {e : Env} {s : State} {m : MethodId} {below : List Frame} {meth : Method} {c : Code} (l : Launch) {b L : Nat} {xs : Nat → Int32} (hL : L ≤ 3072) (C0 : lw_At p s m meth c b L xs) (dC : Nat → ClassId) (dI : Nat → Nat → Nat) (gh : Nat → Int32) (B : Nat → Prop) (cc SL xx mm : Nat) (hB : ∀ q, B q → s.heap.size ≤ q) (hcc : cc = tot s.heap + SL) (hSL : SL ≤ 5000000) (hN : nst s) (hX1 : sx s.heap.size s) {ii : Int32} {N : Nat} (hi0 : 0 ≤ ii.toInt) (hi6 : ii.toInt + 6 ≤ (L : Int)) (hNN : N ≤ 100000) {H : Heap} {locs : List Loc} {ls : Array Slot} (hXI : XI dC dI gh (fun q : Nat => ¬ B q ∧ s.heap.size ≤ q) cc xx s H) (hMI : MI dC dI gh B mm s H) (hBb : ∀ q, B q → q < H.size) (hS : va_S (fun q : Nat => s.heap.size ≤ q) s.heap H locs) (hl : lv_has ls 4 [(3, .int ii), (2, .ref mm), (1, .ref xx), (0, .ref b)]) (kk : ∀ (gh : Nat → Int32) (H : Heap) (locs : List Loc) (ls : Array Slot), XI dC dI gh (fun q : Nat => ¬ B q ∧ s.heap.size ≤ q) cc xx s H → MI dC dI gh B mm s H → (∀ q, B q → q < H.size) → va_S (fun q : Nat => s.heap.size ≤ q) s.heap H locs → H.size ≤ s.heap.size + (N + 3) → lv_has ls 4 [(3, .int ii), (2, .ref mm), (1, .ref xx), (0, .ref b)] → W p l e room_1 s m #[Value.ref b] below meth c H locs (N + 3) SL (lw_Z below #[Value.ref b] s) (F0 m 2425 ls [])) : W p l e room_1 s m #[Value.ref b] below meth c H locs N SL (lw_Z below #[Value.ref b] s) (F0 m 691 ls []) := by
  obtain ⟨hx, hb, hr, hml, hown0, hts, hX, hbl, hlocks, hgv⟩ := id C0
  have hown : s.vm.findClass RL = some m.cls := hown0
  have hbA : ¬ (fun q : Nat => s.heap.size ≤ q) b := Nat.not_le.mpr hbl
  have hAn : ∀ q, (fun q : Nat => ¬ B q ∧ s.heap.size ≤ q) q → s.heap.size ≤ q := fun _ h => h.2
  refine lv_aload_n hx hb dL_law_691 rfl (lv_at hl 2 rfl) ?_
  refine law_ldv (kv := 1) hx hb hX hbl hbA hS hl dL_law_692 dL_law_693 dL_law_694 dL_law_695 dL_law_696 (by decide) (li_in hi0 hi6 hL (k := 1) (by decide) (by decide)) ?_
  refine law_ldv (kv := 2) hx hb hX hbl hbA hS hl dL_law_697 dL_law_698 dL_law_699 dL_law_700 dL_law_701 (by decide) (li_in hi0 hi6 hL (k := 2) (by decide) (by decide)) ?_
  refine va_calli (va_runV (As := [.int (xs (ii + 1).toNatClampNeg), .int (xs (ii + 2).toNatClampNeg)]) (rest := []) ⟨hx, hb, hml, hown, hts⟩ (wX9_gap l dC dI gh (fun q : Nat => ¬ B q ∧ s.heap.size ≤ q) cc s.heap.size xx (xs (ii + 1).toNatClampNeg) (xs (ii + 2).toNatClampNeg) hAn) (cwV 2 hts gL13_x rfl rfl rfl hd_yX9_gap ⟨lel 2 2048 rfl, lel 48 84000 rfl⟩) ⟨PX_fb, XI.recv hXI, PX_use hXI hN hX1 (Nat.le_refl _) hS (fun _ h => h) (fun q h => ⟨fun z => absurd (hBb q z) (Nat.not_lt.mpr h), Nat.le_trans hS.1 h⟩)⟩ rfl rfl hl.1 rfl (lv_room (Nat.le_of_ble_eq_true rfl)) dL_law_702 ⟨(show N + 0 ≤ (600000 : Nat) from by omega), (show SL + 0 ≤ (7302250 : Nat) from by omega)⟩) hS (fun q _ h => h.2) (fun q h => h.2) (fun rx _ t H1 locs1 ht hvm hprx hB1 hz1 hk1 hS1 => ?_)
  have hXq := hB1.1
  rw [ht] at hXq
  have hMI := MI.kept (fun q h1 h2 => hk1 q h1 (fun z => z.1 h2)) hMI
  have hXI := XI.moved hvm.symm hXq
  have hBb : ∀ q, B q → q < H1.size := fun q h => Nat.lt_of_lt_of_le (hBb q h) hz1
  refine W.know (fun hkn => ?_)
  have hsz1 := hkn.2
  clear hB1 hk1 hz1 hkn hXq
  have hS := hS1
  clear hS1
  obtain ⟨H, eH⟩ : ∃ h : Heap, h = H1 := ⟨_, rfl⟩
  rw [← eH] at hXI hMI hBb hS hsz1 ⊢
  refine lv_pop hx hb dL_law_705 rfl ?_
  refine lv_aload_n hx hb dL_law_706 rfl (lv_at hl 1 rfl) ?_
  refine law_ldv (kv := 1) hx hb hX hbl hbA hS hl dL_law_707 dL_law_708 dL_law_709 dL_law_710 dL_law_711 (by decide) (li_in hi0 hi6 hL (k := 1) (by decide) (by decide)) ?_
  refine law_ldv (kv := 2) hx hb hX hbl hbA hS hl dL_law_712 dL_law_713 dL_law_714 dL_law_715 dL_law_716 (by decide) (li_in hi0 hi6 hL (k := 2) (by decide) (by decide)) ?_
  refine va_calli (va_runV (As := [.int (xs (ii + 1).toNatClampNeg), .int (xs (ii + 2).toNatClampNeg)]) (rest := []) ⟨hx, hb, hml, hown, hts⟩ (wX10_gap l dC dI gh B (tot H) s.heap.size mm (xs (ii + 1).toNatClampNeg) (xs (ii + 2).toNatClampNeg) hB) (cwV 2 hts gL13_m rfl rfl rfl hd_yX10_gap ⟨lel 3 2048 rfl, lel 72 84000 rfl⟩) ⟨PM_fb, MI.recv hMI, PM_use hMI (Nat.le_refl _) hN hX1 (Nat.le_refl _) hS (fun _ h => h) (fun q h z => absurd (hBb q z) (Nat.not_lt.mpr h))⟩ rfl rfl hl.1 rfl (lv_room (Nat.le_of_ble_eq_true rfl)) dL_law_717 ⟨(show N + 0 + 0 ≤ (600000 : Nat) from by omega), (show SL + 0 + 0 ≤ (7302250 : Nat) from by omega)⟩) hS (fun q _ h => hB q h) (fun q h => hB q h) (fun rm _ t H1 locs1 ht hvm hprm hB1 hz1 hk1 hS1 => ?_)
  have hXq := hB1.1
  rw [ht] at hXq
  have htq := hB1.2.1
  rw [ht] at htq
  have hXI := XI.kept htq (fun q h1 h2 => hk1 q h1 (fun z => h2.1 z)) hXI
  have hMI := MI.moved hvm.symm hXq
  have hBb : ∀ q, B q → q < H1.size := fun q h => Nat.lt_of_lt_of_le (hBb q h) hz1
  refine W.know (fun hkn => ?_)
  have hsz1 := hkn.2
  clear hB1 hk1 hz1 hkn hXq
  have hS := hS1
  clear hS1
  obtain ⟨H, eH⟩ : ∃ h : Heap, h = H1 := ⟨_, rfl⟩
  rw [← eH] at hXI hMI hBb hS hsz1 ⊢
  refine lv_pop hx hb dL_law_720 rfl ?_
  refine lv_goto (tgt := 2425) hx hb dL_law_721 (by decide) ?_
  refine W.tight (n := SL) (by have q9 := XI.tot hXI; omega) ?_
  refine W.widen (k := N + 3) (n := SL) (by omega) (Nat.le_refl _) ?_
  exact kk _ _ _ _ hXI hMI hBb hS (by omega) hl
theorem gL14_x : GoodIn lw_tbl (wsV RL 73 RX9 yX9_waits uX9_waits) := gin_V tbq_3_106 tbq_3_107 tbq_3_108 tbq_1_1 tw_uX9_waits guX9_waits
theorem gL14_m : GoodIn lw_tbl (wsV RL 77 RX10 yX10_waits uX10_waits) := gin_V tbq_6_208 tbq_6_209 tbq_6_210 tbq_1_9 tw_uX10_waits guX10_waits
set_option maxHeartbeats 4000000 in
set_option maxRecDepth 100000 in
theorem law_c14 {p : Program} {e : Env} {s : State} {m : MethodId} {below : List Frame} {meth : Method} {c : Code} (l : Launch) {b L : Nat} {xs : Nat → Int32} (hL : L ≤ 3072) (C0 : lw_At p s m meth c b L xs) (dC : Nat → ClassId) (dI : Nat → Nat → Nat) (gh : Nat → Int32) (B : Nat → Prop) (cc SL xx mm : Nat) (hB : ∀ q, B q → s.heap.size ≤ q) (hcc : cc = tot s.heap + SL) (hSL : SL ≤ 5000000) (hN : nst s) (hX1 : sx s.heap.size s) {ii : Int32} {N : Nat} (hi0 : 0 ≤ ii.toInt) (hi6 : ii.toInt + 6 ≤ (L : Int)) (hNN : N ≤ 100000) {H : Heap} {locs : List Loc} {ls : Array Slot} (hXI : XI dC dI gh (fun q : Nat => ¬ B q ∧ s.heap.size ≤ q) cc xx s H) (hMI : MI dC dI gh B mm s H) (hBb : ∀ q, B q → q < H.size) (hS : va_S (fun q : Nat => s.heap.size ≤ q) s.heap H locs) (hl : lv_has ls 4 [(3, .int ii), (2, .ref mm), (1, .ref xx), (0, .ref b)]) (kk : ∀ (gh : Nat → Int32) (H : Heap) (locs : List Loc) (ls : Array Slot), XI dC dI gh (fun q : Nat => ¬ B q ∧ s.heap.size ≤ q) cc xx s H → MI dC dI gh B mm s H → (∀ q, B q → q < H.size) → va_S (fun q : Nat => s.heap.size ≤ q) s.heap H locs → H.size ≤ s.heap.size + (N + 3) → lv_has ls 4 [(3, .int ii), (2, .ref mm), (1, .ref xx), (0, .ref b)] → W p l e room_1 s m #[Value.ref b] below meth c H locs (N + 3) SL (lw_Z below #[Value.ref b] s) (F0 m 2425 ls [])) : W p l e room_1 s m #[Value.ref b] below meth c H locs N SL (lw_Z below #[Value.ref b] s) (F0 m 724 ls []) := by
  obtain ⟨hx, hb, hr, hml, hown0, hts, hX, hbl, hlocks, hgv⟩ := id C0
  have hown : s.vm.findClass RL = some m.cls := hown0
  have hbA : ¬ (fun q : Nat => s.heap.size ≤ q) b := Nat.not_le.mpr hbl
  have hAn : ∀ q, (fun q : Nat => ¬ B q ∧ s.heap.size ≤ q) q → s.heap.size ≤ q := fun _ h => h.2
  refine lv_aload_n hx hb dL_law_724 rfl (lv_at hl 2 rfl) ?_
  refine law_ldv (kv := 1) hx hb hX hbl hbA hS hl dL_law_725 dL_law_726 dL_law_727 dL_law_728 dL_law_729 (by decide) (li_in hi0 hi6 hL (k := 1) (by decide) (by decide)) ?_
  refine law_ldv (kv := 2) hx hb hX hbl hbA hS hl dL_law_730 dL_law_731 dL_law_732 dL_law_733 dL_law_734 (by decide) (li_in hi0 hi6 hL (k := 2) (by decide) (by decide)) ?_
  refine law_ldv (kv := 3) hx hb hX hbl hbA hS hl dL_law_735 dL_law_736 dL_law_737 dL_law_738 dL_law_739 (by decide) (li_in hi0 hi6 hL (k := 3) (by decide) (by decide)) ?_
  refine va_calli (va_runV (As := [.int (xs (ii + 1).toNatClampNeg), .int (xs (ii + 2).toNatClampNeg), .int (xs (ii + 3).toNatClampNeg)]) (rest := []) ⟨hx, hb, hml, hown, hts⟩ (wX9_waits l dC dI gh (fun q : Nat => ¬ B q ∧ s.heap.size ≤ q) cc s.heap.size xx (xs (ii + 1).toNatClampNeg) (xs (ii + 2).toNatClampNeg) (xs (ii + 3).toNatClampNeg) hAn) (cwV 3 hts gL14_x rfl rfl rfl hd_yX9_waits ⟨lel 3 2048 rfl, lel 68 84000 rfl⟩) ⟨PX_fb, XI.recv hXI, PX_use hXI hN hX1 (Nat.le_refl _) hS (fun _ h => h) (fun q h => ⟨fun z => absurd (hBb q z) (Nat.not_lt.mpr h), Nat.le_trans hS.1 h⟩)⟩ rfl rfl hl.1 rfl (lv_room (Nat.le_of_ble_eq_true rfl)) dL_law_740 ⟨(show N + 0 ≤ (600000 : Nat) from by omega), (show SL + 0 ≤ (7302250 : Nat) from by omega)⟩) hS (fun q _ h => h.2) (fun q h => h.2) (fun rx _ t H1 locs1 ht hvm hprx hB1 hz1 hk1 hS1 => ?_)
  have hXq := hB1.1
  rw [ht] at hXq
  have hMI := MI.kept (fun q h1 h2 => hk1 q h1 (fun z => z.1 h2)) hMI
  have hXI := XI.moved hvm.symm hXq
  have hBb : ∀ q, B q → q < H1.size := fun q h => Nat.lt_of_lt_of_le (hBb q h) hz1
  refine W.know (fun hkn => ?_)
  have hsz1 := hkn.2
  clear hB1 hk1 hz1 hkn hXq
  have hS := hS1
  clear hS1
  obtain ⟨H, eH⟩ : ∃ h : Heap, h = H1 := ⟨_, rfl⟩
  rw [← eH] at hXI hMI hBb hS hsz1 ⊢
  refine lv_pop hx hb dL_law_743 rfl ?_
  refine lv_aload_n hx hb dL_law_744 rfl (lv_at hl 1 rfl) ?_
  refine law_ldv (kv := 1) hx hb hX hbl hbA hS hl dL_law_745 dL_law_746 dL_law_747 dL_law_748 dL_law_749 (by decide) (li_in hi0 hi6 hL (k := 1) (by decide) (by decide)) ?_
  refine law_ldv (kv := 2) hx hb hX hbl hbA hS hl dL_law_750 dL_law_751 dL_law_752 dL_law_753 dL_law_754 (by decide) (li_in hi0 hi6 hL (k := 2) (by decide) (by decide)) ?_
  refine law_ldv (kv := 3) hx hb hX hbl hbA hS hl dL_law_755 dL_law_756 dL_law_757 dL_law_758 dL_law_759 (by decide) (li_in hi0 hi6 hL (k := 3) (by decide) (by decide)) ?_
  refine va_calli (va_runV (As := [.int (xs (ii + 1).toNatClampNeg), .int (xs (ii + 2).toNatClampNeg), .int (xs (ii + 3).toNatClampNeg)]) (rest := []) ⟨hx, hb, hml, hown, hts⟩ (wX10_waits l dC dI gh B (tot H) s.heap.size mm (xs (ii + 1).toNatClampNeg) (xs (ii + 2).toNatClampNeg) (xs (ii + 3).toNatClampNeg) hB) (cwV 3 hts gL14_m rfl rfl rfl hd_yX10_waits ⟨lel 4 2048 rfl, lel 94 84000 rfl⟩) ⟨PM_fb, MI.recv hMI, PM_use hMI (Nat.le_refl _) hN hX1 (Nat.le_refl _) hS (fun _ h => h) (fun q h z => absurd (hBb q z) (Nat.not_lt.mpr h))⟩ rfl rfl hl.1 rfl (lv_room (Nat.le_of_ble_eq_true rfl)) dL_law_760 ⟨(show N + 0 + 0 ≤ (600000 : Nat) from by omega), (show SL + 0 + 0 ≤ (7302250 : Nat) from by omega)⟩) hS (fun q _ h => hB q h) (fun q h => hB q h) (fun rm _ t H1 locs1 ht hvm hprm hB1 hz1 hk1 hS1 => ?_)
  have hXq := hB1.1
  rw [ht] at hXq
  have htq := hB1.2.1
  rw [ht] at htq
  have hXI := XI.kept htq (fun q h1 h2 => hk1 q h1 (fun z => h2.1 z)) hXI
  have hMI := MI.moved hvm.symm hXq
  have hBb : ∀ q, B q → q < H1.size := fun q h => Nat.lt_of_lt_of_le (hBb q h) hz1
  refine W.know (fun hkn => ?_)
  have hsz1 := hkn.2
  clear hB1 hk1 hz1 hkn hXq
  have hS := hS1
  clear hS1
  obtain ⟨H, eH⟩ : ∃ h : Heap, h = H1 := ⟨_, rfl⟩
  rw [← eH] at hXI hMI hBb hS hsz1 ⊢
  refine lv_pop hx hb dL_law_763 rfl ?_
  refine lv_goto (tgt := 2425) hx hb dL_law_764 (by decide) ?_
  refine W.tight (n := SL) (by have q9 := XI.tot hXI; omega) ?_
  refine W.widen (k := N + 3) (n := SL) (by omega) (Nat.le_refl _) ?_
  exact kk _ _ _ _ hXI hMI hBb hS (by omega) hl
theorem gL15_x : GoodIn lw_tbl (wsV RL 78 RX9 yX9_hits uX9_hits) := gin_V tbq_3_117 tbq_3_118 tbq_3_119 tbq_1_1 tw_uX9_hits guX9_hits
theorem gL15_m : GoodIn lw_tbl (wsV RL 82 RX10 yX10_hits uX10_hits) := gin_V tbq_6_220 tbq_6_221 tbq_6_222 tbq_1_9 tw_uX10_hits guX10_hits
set_option maxHeartbeats 4000000 in
set_option maxRecDepth 100000 in
theorem law_c15 {p : Program} {e : Env} {s : State} {m : MethodId} {below : List Frame} {meth : Method} {c : Code} (l : Launch) {b L : Nat} {xs : Nat → Int32} (hL : L ≤ 3072) (C0 : lw_At p s m meth c b L xs) (dC : Nat → ClassId) (dI : Nat → Nat → Nat) (gh : Nat → Int32) (B : Nat → Prop) (cc SL xx mm : Nat) (hB : ∀ q, B q → s.heap.size ≤ q) (hcc : cc = tot s.heap + SL) (hSL : SL ≤ 5000000) (hN : nst s) (hX1 : sx s.heap.size s) {ii : Int32} {N : Nat} (hi0 : 0 ≤ ii.toInt) (hi6 : ii.toInt + 6 ≤ (L : Int)) (hNN : N ≤ 100000) {H : Heap} {locs : List Loc} {ls : Array Slot} (hXI : XI dC dI gh (fun q : Nat => ¬ B q ∧ s.heap.size ≤ q) cc xx s H) (hMI : MI dC dI gh B mm s H) (hBb : ∀ q, B q → q < H.size) (hS : va_S (fun q : Nat => s.heap.size ≤ q) s.heap H locs) (hl : lv_has ls 4 [(3, .int ii), (2, .ref mm), (1, .ref xx), (0, .ref b)]) (kk : ∀ (gh : Nat → Int32) (H : Heap) (locs : List Loc) (ls : Array Slot), XI dC dI gh (fun q : Nat => ¬ B q ∧ s.heap.size ≤ q) cc xx s H → MI dC dI gh B mm s H → (∀ q, B q → q < H.size) → va_S (fun q : Nat => s.heap.size ≤ q) s.heap H locs → H.size ≤ s.heap.size + (N + 3) → lv_has ls 4 [(3, .int ii), (2, .ref mm), (1, .ref xx), (0, .ref b)] → W p l e room_1 s m #[Value.ref b] below meth c H locs (N + 3) SL (lw_Z below #[Value.ref b] s) (F0 m 2425 ls [])) : W p l e room_1 s m #[Value.ref b] below meth c H locs N SL (lw_Z below #[Value.ref b] s) (F0 m 767 ls []) := by
  obtain ⟨hx, hb, hr, hml, hown0, hts, hX, hbl, hlocks, hgv⟩ := id C0
  have hown : s.vm.findClass RL = some m.cls := hown0
  have hbA : ¬ (fun q : Nat => s.heap.size ≤ q) b := Nat.not_le.mpr hbl
  have hAn : ∀ q, (fun q : Nat => ¬ B q ∧ s.heap.size ≤ q) q → s.heap.size ≤ q := fun _ h => h.2
  refine lv_aload_n hx hb dL_law_767 rfl (lv_at hl 2 rfl) ?_
  refine law_ldv (kv := 1) hx hb hX hbl hbA hS hl dL_law_768 dL_law_769 dL_law_770 dL_law_771 dL_law_772 (by decide) (li_in hi0 hi6 hL (k := 1) (by decide) (by decide)) ?_
  refine law_ldv (kv := 2) hx hb hX hbl hbA hS hl dL_law_773 dL_law_774 dL_law_775 dL_law_776 dL_law_777 (by decide) (li_in hi0 hi6 hL (k := 2) (by decide) (by decide)) ?_
  refine law_ldv (kv := 3) hx hb hX hbl hbA hS hl dL_law_778 dL_law_779 dL_law_780 dL_law_781 dL_law_782 (by decide) (li_in hi0 hi6 hL (k := 3) (by decide) (by decide)) ?_
  refine law_ldv (kv := 4) hx hb hX hbl hbA hS hl dL_law_783 dL_law_784 dL_law_785 dL_law_786 dL_law_787 (by decide) (li_in hi0 hi6 hL (k := 4) (by decide) (by decide)) ?_
  refine va_calli (va_runV (As := [.int (xs (ii + 1).toNatClampNeg), .int (xs (ii + 2).toNatClampNeg), .int (xs (ii + 3).toNatClampNeg), .int (xs (ii + 4).toNatClampNeg)]) (rest := []) ⟨hx, hb, hml, hown, hts⟩ (wX9_hits l dC dI gh (fun q : Nat => ¬ B q ∧ s.heap.size ≤ q) cc s.heap.size xx (xs (ii + 1).toNatClampNeg) (xs (ii + 2).toNatClampNeg) (xs (ii + 3).toNatClampNeg) (xs (ii + 4).toNatClampNeg) hAn) (cwV 4 hts gL15_x rfl rfl rfl hd_yX9_hits ⟨lel 3 2048 rfl, lel 73 84000 rfl⟩) ⟨PX_fb, XI.recv hXI, PX_use hXI hN hX1 (Nat.le_refl _) hS (fun _ h => h) (fun q h => ⟨fun z => absurd (hBb q z) (Nat.not_lt.mpr h), Nat.le_trans hS.1 h⟩)⟩ rfl rfl hl.1 rfl (lv_room (Nat.le_of_ble_eq_true rfl)) dL_law_788 ⟨(show N + 0 ≤ (600000 : Nat) from by omega), (show SL + 0 ≤ (7302250 : Nat) from by omega)⟩) hS (fun q _ h => h.2) (fun q h => h.2) (fun rx _ t H1 locs1 ht hvm hprx hB1 hz1 hk1 hS1 => ?_)
  have hXq := hB1.1
  rw [ht] at hXq
  have hMI := MI.kept (fun q h1 h2 => hk1 q h1 (fun z => z.1 h2)) hMI
  have hXI := XI.moved hvm.symm hXq
  have hBb : ∀ q, B q → q < H1.size := fun q h => Nat.lt_of_lt_of_le (hBb q h) hz1
  refine W.know (fun hkn => ?_)
  have hsz1 := hkn.2
  clear hB1 hk1 hz1 hkn hXq
  have hS := hS1
  clear hS1
  obtain ⟨H, eH⟩ : ∃ h : Heap, h = H1 := ⟨_, rfl⟩
  rw [← eH] at hXI hMI hBb hS hsz1 ⊢
  refine lv_pop hx hb dL_law_791 rfl ?_
  refine lv_aload_n hx hb dL_law_792 rfl (lv_at hl 1 rfl) ?_
  refine law_ldv (kv := 1) hx hb hX hbl hbA hS hl dL_law_793 dL_law_794 dL_law_795 dL_law_796 dL_law_797 (by decide) (li_in hi0 hi6 hL (k := 1) (by decide) (by decide)) ?_
  refine law_ldv (kv := 2) hx hb hX hbl hbA hS hl dL_law_798 dL_law_799 dL_law_800 dL_law_801 dL_law_802 (by decide) (li_in hi0 hi6 hL (k := 2) (by decide) (by decide)) ?_
  refine law_ldv (kv := 3) hx hb hX hbl hbA hS hl dL_law_803 dL_law_804 dL_law_805 dL_law_806 dL_law_807 (by decide) (li_in hi0 hi6 hL (k := 3) (by decide) (by decide)) ?_
  refine law_ldv (kv := 4) hx hb hX hbl hbA hS hl dL_law_808 dL_law_809 dL_law_810 dL_law_811 dL_law_812 (by decide) (li_in hi0 hi6 hL (k := 4) (by decide) (by decide)) ?_
  refine va_calli (va_runV (As := [.int (xs (ii + 1).toNatClampNeg), .int (xs (ii + 2).toNatClampNeg), .int (xs (ii + 3).toNatClampNeg), .int (xs (ii + 4).toNatClampNeg)]) (rest := []) ⟨hx, hb, hml, hown, hts⟩ (wX10_hits l dC dI gh B (tot H) s.heap.size mm (xs (ii + 1).toNatClampNeg) (xs (ii + 2).toNatClampNeg) (xs (ii + 3).toNatClampNeg) (xs (ii + 4).toNatClampNeg) hB) (cwV 4 hts gL15_m rfl rfl rfl hd_yX10_hits ⟨lel 4 2048 rfl, lel 93 84000 rfl⟩) ⟨PM_fb, MI.recv hMI, PM_use hMI (Nat.le_refl _) hN hX1 (Nat.le_refl _) hS (fun _ h => h) (fun q h z => absurd (hBb q z) (Nat.not_lt.mpr h))⟩ rfl rfl hl.1 rfl (lv_room (Nat.le_of_ble_eq_true rfl)) dL_law_813 ⟨(show N + 0 + 0 ≤ (600000 : Nat) from by omega), (show SL + 0 + 0 ≤ (7302250 : Nat) from by omega)⟩) hS (fun q _ h => hB q h) (fun q h => hB q h) (fun rm _ t H1 locs1 ht hvm hprm hB1 hz1 hk1 hS1 => ?_)
  have hXq := hB1.1
  rw [ht] at hXq
  have htq := hB1.2.1
  rw [ht] at htq
  have hXI := XI.kept htq (fun q h1 h2 => hk1 q h1 (fun z => h2.1 z)) hXI
  have hMI := MI.moved hvm.symm hXq
  have hBb : ∀ q, B q → q < H1.size := fun q h => Nat.lt_of_lt_of_le (hBb q h) hz1
  refine W.know (fun hkn => ?_)
  have hsz1 := hkn.2
  clear hB1 hk1 hz1 hkn hXq
  have hS := hS1
  clear hS1
  obtain ⟨H, eH⟩ : ∃ h : Heap, h = H1 := ⟨_, rfl⟩
  rw [← eH] at hXI hMI hBb hS hsz1 ⊢
  refine lv_pop hx hb dL_law_816 rfl ?_
  refine lv_goto (tgt := 2425) hx hb dL_law_817 (by decide) ?_
  refine W.tight (n := SL) (by have q9 := XI.tot hXI; omega) ?_
  refine W.widen (k := N + 3) (n := SL) (by omega) (Nat.le_refl _) ?_
  exact kk _ _ _ _ hXI hMI hBb hS (by omega) hl
