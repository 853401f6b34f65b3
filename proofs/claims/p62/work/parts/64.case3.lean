set_option maxRecDepth 16384
set_option maxRecDepth 20000 in
theorem gL48_x : GoodIn lw_tbl (wsV RL 213 RX9 yX9_days quX9_days) := goodIn_sub (List.forall_mem_append.mpr ⟨List.forall_mem_cons.mpr ⟨(tb_4 (List.mem_of_getElem? (i := 187) rfl)), List.forall_mem_cons.mpr ⟨(tb_4 (List.mem_of_getElem? (i := 188) rfl)), List.forall_mem_cons.mpr ⟨(tb_4 (List.mem_of_getElem? (i := 189) rfl)), List.forall_mem_cons.mpr ⟨(tb_1 (List.mem_of_getElem? (i := 1) rfl)), (fun _ h => absurd h List.not_mem_nil)⟩⟩⟩⟩, tw_quX9_days⟩) (by decide +kernel)
set_option maxRecDepth 20000 in
theorem gL48_m : GoodIn lw_tbl (wsV RL 216 RX10 yX10_days quX10_days) := goodIn_sub (List.forall_mem_append.mpr ⟨List.forall_mem_cons.mpr ⟨(tb_7 (List.mem_of_getElem? (i := 217) rfl)), List.forall_mem_cons.mpr ⟨(tb_7 (List.mem_of_getElem? (i := 218) rfl)), List.forall_mem_cons.mpr ⟨(tb_7 (List.mem_of_getElem? (i := 219) rfl)), List.forall_mem_cons.mpr ⟨(tb_1 (List.mem_of_getElem? (i := 9) rfl)), (fun _ h => absurd h List.not_mem_nil)⟩⟩⟩⟩, tw_quX10_days⟩) (by decide +kernel)
set_option maxHeartbeats 4000000 in
set_option maxRecDepth 100000 in
theorem law_c48 {p : Program} {e : Env} {s : State} {m : MethodId} {below : List Frame} {meth : Method} {c : Code} (l : Launch) {b L : Nat} {xs : Nat → Int32} (hL : L ≤ 3072) (C0 : lw_At p s m meth c b L xs) (dC : Nat → ClassId) (dI : Nat → Nat → Nat) (gh : Nat → Int32) (B : Nat → Prop) (cc SL xx mm : Nat) (hB : ∀ q, B q → s.heap.size ≤ q) (hcc : cc = tot s.heap + SL) (hSL : SL ≤ 5000000) (hN : nst s) (hX1 : sx s.heap.size s) {ii : Int32} {N : Nat} (hi0 : 0 ≤ ii.toInt) (hi6 : ii.toInt + 6 ≤ (L : Int)) (hNN : N ≤ 100000) {H : Heap} {locs : List Loc} {ls : Array Slot} (hXI : XI dC dI gh (fun q : Nat => ¬ B q ∧ s.heap.size ≤ q) cc xx s H) (hMI : MI dC dI gh B mm s H) (hBb : ∀ q, B q → q < H.size) (hS : va_S (fun q : Nat => s.heap.size ≤ q) s.heap H locs) (hl : lv_has ls 4 [(3, .int ii), (2, .ref mm), (1, .ref xx), (0, .ref b)]) (kk : ∀ (gh : Nat → Int32) (H : Heap) (locs : List Loc) (ls : Array Slot), XI dC dI gh (fun q : Nat => ¬ B q ∧ s.heap.size ≤ q) cc xx s H → MI dC dI gh B mm s H → (∀ q, B q → q < H.size) → va_S (fun q : Nat => s.heap.size ≤ q) s.heap H locs → H.size ≤ s.heap.size + (N + 3) → lv_has ls 4 [(3, .int ii), (2, .ref mm), (1, .ref xx), (0, .ref b)] → W p l e room_1 s m #[Value.ref b] below meth c H locs (N + 3) SL (lw_Z below #[Value.ref b] s) (F0 m 2425 ls [])) : W p l e room_1 s m #[Value.ref b] below meth c H locs N SL (lw_Z below #[Value.ref b] s) (F0 m 1946 ls []) := by
  obtain ⟨hx, hb, hr, hml, hown0, hts, hX, hbl, hlocks, hgv⟩ := id C0
  have hown : s.vm.findClass RL = some m.cls := hown0
  have hbA : ¬ (fun q : Nat => s.heap.size ≤ q) b := Nat.not_le.mpr hbl
  have hAn : ∀ q, (fun q : Nat => ¬ B q ∧ s.heap.size ≤ q) q → s.heap.size ≤ q := fun _ h => h.2
  refine lv_aload_n hx hb dL_law_1946 rfl (lv_at hl 2 rfl) ?_
  refine law_ldv (kv := 1) hx hb hX hbl hbA hS hl dL_law_1947 dL_law_1948 dL_law_1949 dL_law_1950 dL_law_1951 (by decide) (li_in hi0 hi6 hL (k := 1) (by decide) (by decide)) ?_
  refine va_calli (va_runV (As := [.int (xs (ii + 1).toNatClampNeg)]) (rest := []) ⟨hx, hb, hml, hown, hts⟩ (wX9_days l dC dI gh (fun q : Nat => ¬ B q ∧ s.heap.size ≤ q) cc s.heap.size xx (xs (ii + 1).toNatClampNeg) hAn) (cwV 1 hts gL48_x rfl rfl rfl (by decide +kernel) ⟨lel 3 2048 rfl, lel 65 84000 rfl⟩) ⟨PX_fb, XI.recv hXI, PX_use hXI hN hX1 (Nat.le_refl _) hS (fun _ h => h) (fun q h => ⟨fun z => absurd (hBb q z) (Nat.not_lt.mpr h), Nat.le_trans hS.1 h⟩)⟩ rfl rfl hl.1 rfl (lv_room (Nat.le_of_ble_eq_true rfl)) dL_law_1952 ⟨(show N + 0 ≤ (600000 : Nat) from by omega), (show SL + 0 ≤ (7302250 : Nat) from by omega)⟩) hS (fun q _ h => h.2) (fun q h => h.2) (fun rx _ t H1 locs1 ht hvm hprx hB1 hz1 hk1 hS1 => ?_)
  have hXq := hB1.1
  rw [ht] at hXq
  have hMI := MI.kept (fun q h1 h2 => hk1 q h1 (fun z => z.1 h2)) hMI
  have hXI := XI.moved hvm.symm hXq
  have hBb : ∀ q, B q → q < H1.size := fun q h => Nat.lt_of_lt_of_le (hBb q h) hz1
  refine W.know (fun hkn => ?_)
  have hsz1 := hkn.2
  clear hB1 hk1 hz1 hkn hXq
  have hS := hS1
  clear hS1
  obtain ⟨H, eH⟩ : ∃ h : Heap, h = H1 := ⟨_, rfl⟩
  rw [← eH] at hXI hMI hBb hS hsz1 ⊢
  refine lv_pop hx hb dL_law_1955 rfl ?_
  refine lv_aload_n hx hb dL_law_1956 rfl (lv_at hl 1 rfl) ?_
  refine law_ldv (kv := 1) hx hb hX hbl hbA hS hl dL_law_1957 dL_law_1958 dL_law_1959 dL_law_1960 dL_law_1961 (by decide) (li_in hi0 hi6 hL (k := 1) (by decide) (by decide)) ?_
  refine va_calli (va_runV (As := [.int (xs (ii + 1).toNatClampNeg)]) (rest := []) ⟨hx, hb, hml, hown, hts⟩ (wX10_days l dC dI gh B (tot H) s.heap.size mm (xs (ii + 1).toNatClampNeg) hB) (cwV 1 hts gL48_m rfl rfl rfl (by decide +kernel) ⟨lel 3 2048 rfl, lel 67 84000 rfl⟩) ⟨PM_fb, MI.recv hMI, PM_use hMI (Nat.le_refl _) hN hX1 (Nat.le_refl _) hS (fun _ h => h) (fun q h z => absurd (hBb q z) (Nat.not_lt.mpr h))⟩ rfl rfl hl.1 rfl (lv_room (Nat.le_of_ble_eq_true rfl)) dL_law_1962 ⟨(show N + 0 + 0 ≤ (600000 : Nat) from by omega), (show SL + 0 + 0 ≤ (7302250 : Nat) from by omega)⟩) hS (fun q _ h => hB q h) (fun q h => hB q h) (fun rm _ t H1 locs1 ht hvm hprm hB1 hz1 hk1 hS1 => ?_)
  have hXq := hB1.1
  rw [ht] at hXq
  have htq := hB1.2.1
  rw [ht] at htq
  have hXI := XI.kept htq (fun q h1 h2 => hk1 q h1 (fun z => h2.1 z)) hXI
  have hMI := MI.moved hvm.symm hXq
  have hBb : ∀ q, B q → q < H1.size := fun q h => Nat.lt_of_lt_of_le (hBb q h) hz1
  refine W.know (fun hkn => ?_)
  have hsz1 := hkn.2
  clear hB1 hk1 hz1 hkn hXq
  have hS := hS1
  clear hS1
  obtain ⟨H, eH⟩ : ∃ h : Heap, h = H1 := ⟨_, rfl⟩
  rw [← eH] at hXI hMI hBb hS hsz1 ⊢
  refine lv_pop hx hb dL_law_1965 rfl ?_
  refine lv_goto (tgt := 2425) hx hb dL_law_1966 (by decide) ?_
  refine W.tight (n := SL) (by have q9 := XI.tot hXI; omega) ?_
  refine W.widen (k := N + 3) (n := SL) (by omega) (Nat.le_refl _) ?_
  exact kk _ _ _ _ hXI hMI hBb hS (by omega) hl
set_option maxRecDepth 20000 in
theorem gL49_x : GoodIn lw_tbl (wsV RL 217 RX9 yX9_month quX9_month) := goodIn_sub (List.forall_mem_append.mpr ⟨List.forall_mem_cons.mpr ⟨(tb_4 (List.mem_of_getElem? (i := 194) rfl)), List.forall_mem_cons.mpr ⟨(tb_4 (List.mem_of_getElem? (i := 195) rfl)), List.forall_mem_cons.mpr ⟨(tb_4 (List.mem_of_getElem? (i := 196) rfl)), List.forall_mem_cons.mpr ⟨(tb_1 (List.mem_of_getElem? (i := 1) rfl)), (fun _ h => absurd h List.not_mem_nil)⟩⟩⟩⟩, tw_quX9_month⟩) (by decide +kernel)
set_option maxRecDepth 20000 in
theorem gL49_m : GoodIn lw_tbl (wsV RL 220 RX10 yX10_month quX10_month) := goodIn_sub (List.forall_mem_append.mpr ⟨List.forall_mem_cons.mpr ⟨(tb_7 (List.mem_of_getElem? (i := 224) rfl)), List.forall_mem_cons.mpr ⟨(tb_7 (List.mem_of_getElem? (i := 225) rfl)), List.forall_mem_cons.mpr ⟨(tb_7 (List.mem_of_getElem? (i := 226) rfl)), List.forall_mem_cons.mpr ⟨(tb_1 (List.mem_of_getElem? (i := 9) rfl)), (fun _ h => absurd h List.not_mem_nil)⟩⟩⟩⟩, tw_quX10_month⟩) (by decide +kernel)
set_option maxHeartbeats 4000000 in
set_option maxRecDepth 100000 in
theorem law_c49 {p : Program} {e : Env} {s : State} {m : MethodId} {below : List Frame} {meth : Method} {c : Code} (l : Launch) {b L : Nat} {xs : Nat → Int32} (hL : L ≤ 3072) (C0 : lw_At p s m meth c b L xs) (dC : Nat → ClassId) (dI : Nat → Nat → Nat) (gh : Nat → Int32) (B : Nat → Prop) (cc SL xx mm : Nat) (hB : ∀ q, B q → s.heap.size ≤ q) (hcc : cc = tot s.heap + SL) (hSL : SL ≤ 5000000) (hN : nst s) (hX1 : sx s.heap.size s) {ii : Int32} {N : Nat} (hi0 : 0 ≤ ii.toInt) (hi6 : ii.toInt + 6 ≤ (L : Int)) (hNN : N ≤ 100000) {H : Heap} {locs : List Loc} {ls : Array Slot} (hXI : XI dC dI gh (fun q : Nat => ¬ B q ∧ s.heap.size ≤ q) cc xx s H) (hMI : MI dC dI gh B mm s H) (hBb : ∀ q, B q → q < H.size) (hS : va_S (fun q : Nat => s.heap.size ≤ q) s.heap H locs) (hl : lv_has ls 4 [(3, .int ii), (2, .ref mm), (1, .ref xx), (0, .ref b)]) (kk : ∀ (gh : Nat → Int32) (H : Heap) (locs : List Loc) (ls : Array Slot), XI dC dI gh (fun q : Nat => ¬ B q ∧ s.heap.size ≤ q) cc xx s H → MI dC dI gh B mm s H → (∀ q, B q → q < H.size) → va_S (fun q : Nat => s.heap.size ≤ q) s.heap H locs → H.size ≤ s.heap.size + (N + 3) → lv_has ls 4 [(3, .int ii), (2, .ref mm), (1, .ref xx), (0, .ref b)] → W p l e room_1 s m #[Value.ref b] below meth c H locs (N + 3) SL (lw_Z below #[Value.ref b] s) (F0 m 2425 ls [])) : W p l e room_1 s m #[Value.ref b] below meth c H locs N SL (lw_Z below #[Value.ref b] s) (F0 m 1969 ls []) := by
  obtain ⟨hx, hb, hr, hml, hown0, hts, hX, hbl, hlocks, hgv⟩ := id C0
  have hown : s.vm.findClass RL = some m.cls := hown0
  have hbA : ¬ (fun q : Nat => s.heap.size ≤ q) b := Nat.not_le.mpr hbl
  have hAn : ∀ q, (fun q : Nat => ¬ B q ∧ s.heap.size ≤ q) q → s.heap.size ≤ q := fun _ h => h.2
  refine lv_aload_n hx hb dL_law_1969 rfl (lv_at hl 2 rfl) ?_
  refine law_ldv (kv := 1) hx hb hX hbl hbA hS hl dL_law_1970 dL_law_1971 dL_law_1972 dL_law_1973 dL_law_1974 (by decide) (li_in hi0 hi6 hL (k := 1) (by decide) (by decide)) ?_
  refine va_calli (va_runV (As := [.int (xs (ii + 1).toNatClampNeg)]) (rest := []) ⟨hx, hb, hml, hown, hts⟩ (wX9_month l dC dI gh (fun q : Nat => ¬ B q ∧ s.heap.size ≤ q) cc s.heap.size xx (xs (ii + 1).toNatClampNeg) hAn) (cwV 1 hts gL49_x rfl rfl rfl (by decide +kernel) ⟨lel 2 2048 rfl, lel 45 84000 rfl⟩) ⟨PX_fb, XI.recv hXI, PX_use hXI hN hX1 (Nat.le_refl _) hS (fun _ h => h) (fun q h => ⟨fun z => absurd (hBb q z) (Nat.not_lt.mpr h), Nat.le_trans hS.1 h⟩)⟩ rfl rfl hl.1 rfl (lv_room (Nat.le_of_ble_eq_true rfl)) dL_law_1975 ⟨(show N + 0 ≤ (600000 : Nat) from by omega), (show SL + 0 ≤ (7302250 : Nat) from by omega)⟩) hS (fun q _ h => h.2) (fun q h => h.2) (fun rx _ t H1 locs1 ht hvm hprx hB1 hz1 hk1 hS1 => ?_)
  have hXq := hB1.1
  rw [ht] at hXq
  have hMI := MI.kept (fun q h1 h2 => hk1 q h1 (fun z => z.1 h2)) hMI
  have hXI := XI.moved hvm.symm hXq
  have hBb : ∀ q, B q → q < H1.size := fun q h => Nat.lt_of_lt_of_le (hBb q h) hz1
  refine W.know (fun hkn => ?_)
  have hsz1 := hkn.2
  clear hB1 hk1 hz1 hkn hXq
  have hS := hS1
  clear hS1
  obtain ⟨H, eH⟩ : ∃ h : Heap, h = H1 := ⟨_, rfl⟩
  rw [← eH] at hXI hMI hBb hS hsz1 ⊢
  refine lv_pop hx hb dL_law_1978 rfl ?_
  refine lv_aload_n hx hb dL_law_1979 rfl (lv_at hl 1 rfl) ?_
  refine law_ldv (kv := 1) hx hb hX hbl hbA hS hl dL_law_1980 dL_law_1981 dL_law_1982 dL_law_1983 dL_law_1984 (by decide) (li_in hi0 hi6 hL (k := 1) (by decide) (by decide)) ?_
  refine va_calli (va_runV (As := [.int (xs (ii + 1).toNatClampNeg)]) (rest := []) ⟨hx, hb, hml, hown, hts⟩ (wX10_month l dC dI gh B (tot H) s.heap.size mm (xs (ii + 1).toNatClampNeg) hB) (cwV 1 hts gL49_m rfl rfl rfl (by decide +kernel) ⟨lel 2 2048 rfl, lel 48 84000 rfl⟩) ⟨PM_fb, MI.recv hMI, PM_use hMI (Nat.le_refl _) hN hX1 (Nat.le_refl _) hS (fun _ h => h) (fun q h z => absurd (hBb q z) (Nat.not_lt.mpr h))⟩ rfl rfl hl.1 rfl (lv_room (Nat.le_of_ble_eq_true rfl)) dL_law_1985 ⟨(show N + 0 + 0 ≤ (600000 : Nat) from by omega), (show SL + 0 + 0 ≤ (7302250 : Nat) from by omega)⟩) hS (fun q _ h => hB q h) (fun q h => hB q h) (fun rm _ t H1 locs1 ht hvm hprm hB1 hz1 hk1 hS1 => ?_)
  have hXq := hB1.1
  rw [ht] at hXq
  have htq := hB1.2.1
  rw [ht] at htq
  have hXI := XI.kept htq (fun q h1 h2 => hk1 q h1 (fun z => h2.1 z)) hXI
  have hMI := MI.moved hvm.symm hXq
  have hBb : ∀ q, B q → q < H1.size := fun q h => Nat.lt_of_lt_of_le (hBb q h) hz1
  refine W.know (fun hkn => ?_)
  have hsz1 := hkn.2
  clear hB1 hk1 hz1 hkn hXq
  have hS := hS1
  clear hS1
  obtain ⟨H, eH⟩ : ∃ h : Heap, h = H1 := ⟨_, rfl⟩
  rw [← eH] at hXI hMI hBb hS hsz1 ⊢
  refine lv_pop hx hb dL_law_1988 rfl ?_
  refine lv_goto (tgt := 2425) hx hb dL_law_1989 (by decide) ?_
  refine W.tight (n := SL) (by have q9 := XI.tot hXI; omega) ?_
  refine W.widen (k := N + 3) (n := SL) (by omega) (Nat.le_refl _) ?_
  exact kk _ _ _ _ hXI hMI hBb hS (by omega) hl
theorem gL50_x : GoodIn lw_tbl (wsV RL 221 RX9 yX9_of uX9_of) := gin_V tbq_4_199 tbq_4_200 tbq_4_201 tbq_1_1 tw_uX9_of guX9_of
theorem gL50_m : GoodIn lw_tbl (wsV RL 224 RX10 yX10_of uX10_of) := gin_V tbq_7_229 tbq_7_230 tbq_7_231 tbq_1_9 tw_uX10_of guX10_of
set_option maxHeartbeats 4000000 in
set_option maxRecDepth 100000 in
theorem law_c50 {p : Program} {e : Env} {s : State} {m : MethodId} {below : List Frame} {meth : Method} {c : Code} (l : Launch) {b L : Nat} {xs : Nat → Int32} (hL : L ≤ 3072) (C0 : lw_At p s m meth c b L xs) (dC : Nat → ClassId) (dI : Nat → Nat → Nat) (gh : Nat → Int32) (B : Nat → Prop) (cc SL xx mm : Nat) (hB : ∀ q, B q → s.heap.size ≤ q) (hcc : cc = tot s.heap + SL) (hSL : SL ≤ 5000000) (hN : nst s) (hX1 : sx s.heap.size s) {ii : Int32} {N : Nat} (hi0 : 0 ≤ ii.toInt) (hi6 : ii.toInt + 6 ≤ (L : Int)) (hNN : N ≤ 100000) {H : Heap} {locs : List Loc} {ls : Array Slot} (hXI : XI dC dI gh (fun q : Nat => ¬ B q ∧ s.heap.size ≤ q) cc xx s H) (hMI : MI dC dI gh B mm s H) (hBb : ∀ q, B q → q < H.size) (hS : va_S (fun q : Nat => s.heap.size ≤ q) s.heap H locs) (hl : lv_has ls 4 [(3, .int ii), (2, .ref mm), (1, .ref xx), (0, .ref b)]) (kk : ∀ (gh : Nat → Int32) (H : Heap) (locs : List Loc) (ls : Array Slot), XI dC dI gh (fun q : Nat => ¬ B q ∧ s.heap.size ≤ q) cc xx s H → MI dC dI gh B mm s H → (∀ q, B q → q < H.size) → va_S (fun q : Nat => s.heap.size ≤ q) s.heap H locs → H.size ≤ s.heap.size + (N + 3) → lv_has ls 4 [(3, .int ii), (2, .ref mm), (1, .ref xx), (0, .ref b)] → W p l e room_1 s m #[Value.ref b] below meth c H locs (N + 3) SL (lw_Z below #[Value.ref b] s) (F0 m 2425 ls [])) : W p l e room_1 s m #[Value.ref b] below meth c H locs N SL (lw_Z below #[Value.ref b] s) (F0 m 1992 ls []) := by
  obtain ⟨hx, hb, hr, hml, hown0, hts, hX, hbl, hlocks, hgv⟩ := id C0
  have hown : s.vm.findClass RL = some m.cls := hown0
  have hbA : ¬ (fun q : Nat => s.heap.size ≤ q) b := Nat.not_le.mpr hbl
  have hAn : ∀ q, (fun q : Nat => ¬ B q ∧ s.heap.size ≤ q) q → s.heap.size ≤ q := fun _ h => h.2
  refine lv_aload_n hx hb dL_law_1992 rfl (lv_at hl 2 rfl) ?_
  refine law_ldv (kv := 1) hx hb hX hbl hbA hS hl dL_law_1993 dL_law_1994 dL_law_1995 dL_law_1996 dL_law_1997 (by decide) (li_in hi0 hi6 hL (k := 1) (by decide) (by decide)) ?_
  refine law_ldv (kv := 2) hx hb hX hbl hbA hS hl dL_law_1998 dL_law_1999 dL_law_2000 dL_law_2001 dL_law_2002 (by decide) (li_in hi0 hi6 hL (k := 2) (by decide) (by decide)) ?_
  refine law_ldv (kv := 3) hx hb hX hbl hbA hS hl dL_law_2003 dL_law_2004 dL_law_2005 dL_law_2006 dL_law_2007 (by decide) (li_in hi0 hi6 hL (k := 3) (by decide) (by decide)) ?_
  refine va_calll (va_runV (As := [.int (xs (ii + 1).toNatClampNeg), .int (xs (ii + 2).toNatClampNeg), .int (xs (ii + 3).toNatClampNeg)]) (rest := []) ⟨hx, hb, hml, hown, hts⟩ (wX9_of l dC dI gh (fun q : Nat => ¬ B q ∧ s.heap.size ≤ q) cc s.heap.size xx (xs (ii + 1).toNatClampNeg) (xs (ii + 2).toNatClampNeg) (xs (ii + 3).toNatClampNeg) hAn) (cwV 3 hts gL50_x rfl rfl rfl hd_yX9_of ⟨lel 3 2048 rfl, lel 70 84000 rfl⟩) ⟨PX_fb, XI.recv hXI, PX_use hXI hN hX1 (Nat.le_refl _) hS (fun _ h => h) (fun q h => ⟨fun z => absurd (hBb q z) (Nat.not_lt.mpr h), Nat.le_trans hS.1 h⟩)⟩ rfl rfl hl.1 rfl (lv_room (Nat.le_of_ble_eq_true rfl)) dL_law_2008 ⟨(show N + 0 ≤ (600000 : Nat) from by omega), (show SL + 0 ≤ (7302250 : Nat) from by omega)⟩) hS (fun q _ h => h.2) (fun q h => h.2) (fun rx _ t H1 locs1 ht hvm hprx hB1 hz1 hk1 hS1 => ?_)
  have hXq := hB1.1
  rw [ht] at hXq
  have hMI := MI.kept (fun q h1 h2 => hk1 q h1 (fun z => z.1 h2)) hMI
  have hXI := XI.moved hvm.symm hXq
  have hBb : ∀ q, B q → q < H1.size := fun q h => Nat.lt_of_lt_of_le (hBb q h) hz1
  refine W.know (fun hkn => ?_)
  have hsz1 := hkn.2
  clear hB1 hk1 hz1 hkn hXq
  have hS := hS1
  clear hS1
  obtain ⟨H, eH⟩ : ∃ h : Heap, h = H1 := ⟨_, rfl⟩
  rw [← eH] at hXI hMI hBb hS hsz1 ⊢
  refine lv_pop2_2 hx hb dL_law_2011 rfl ?_
  refine lv_aload_n hx hb dL_law_2012 rfl (lv_at hl 1 rfl) ?_
  refine law_ldv (kv := 1) hx hb hX hbl hbA hS hl dL_law_2013 dL_law_2014 dL_law_2015 dL_law_2016 dL_law_2017 (by decide) (li_in hi0 hi6 hL (k := 1) (by decide) (by decide)) ?_
  refine law_ldv (kv := 2) hx hb hX hbl hbA hS hl dL_law_2018 dL_law_2019 dL_law_2020 dL_law_2021 dL_law_2022 (by decide) (li_in hi0 hi6 hL (k := 2) (by decide) (by decide)) ?_
  refine law_ldv (kv := 3) hx hb hX hbl hbA hS hl dL_law_2023 dL_law_2024 dL_law_2025 dL_law_2026 dL_law_2027 (by decide) (li_in hi0 hi6 hL (k := 3) (by decide) (by decide)) ?_
  refine va_calll (va_runV (As := [.int (xs (ii + 1).toNatClampNeg), .int (xs (ii + 2).toNatClampNeg), .int (xs (ii + 3).toNatClampNeg)]) (rest := []) ⟨hx, hb, hml, hown, hts⟩ (wX10_of l dC dI gh B (tot H) s.heap.size mm (xs (ii + 1).toNatClampNeg) (xs (ii + 2).toNatClampNeg) (xs (ii + 3).toNatClampNeg) hB) (cwV 3 hts gL50_m rfl rfl rfl hd_yX10_of ⟨lel 3 2048 rfl, lel 69 84000 rfl⟩) ⟨PM_fb, MI.recv hMI, PM_use hMI (Nat.le_refl _) hN hX1 (Nat.le_refl _) hS (fun _ h => h) (fun q h z => absurd (hBb q z) (Nat.not_lt.mpr h))⟩ rfl rfl hl.1 rfl (lv_room (Nat.le_of_ble_eq_true rfl)) dL_law_2028 ⟨(show N + 0 + 0 ≤ (600000 : Nat) from by omega), (show SL + 0 + 0 ≤ (7302250 : Nat) from by omega)⟩) hS (fun q _ h => hB q h) (fun q h => hB q h) (fun rm _ t H1 locs1 ht hvm hprm hB1 hz1 hk1 hS1 => ?_)
  have hXq := hB1.1
  rw [ht] at hXq
  have htq := hB1.2.1
  rw [ht] at htq
  have hXI := XI.kept htq (fun q h1 h2 => hk1 q h1 (fun z => h2.1 z)) hXI
  have hMI := MI.moved hvm.symm hXq
  have hBb : ∀ q, B q → q < H1.size := fun q h => Nat.lt_of_lt_of_le (hBb q h) hz1
  refine W.know (fun hkn => ?_)
  have hsz1 := hkn.2
  clear hB1 hk1 hz1 hkn hXq
  have hS := hS1
  clear hS1
  obtain ⟨H, eH⟩ : ∃ h : Heap, h = H1 := ⟨_, rfl⟩
  rw [← eH] at hXI hMI hBb hS hsz1 ⊢
  refine lv_pop2_2 hx hb dL_law_2031 rfl ?_
  refine lv_goto (tgt := 2425) hx hb dL_law_2032 (by decide) ?_
  refine W.tight (n := SL) (by have q9 := XI.tot hXI; omega) ?_
  refine W.widen (k := N + 3) (n := SL) (by omega) (Nat.le_refl _) ?_
  exact kk _ _ _ _ hXI hMI hBb hS (by omega) hl
theorem gL51_x : GoodIn lw_tbl (wsV RL 225 RX9 yX9_halves uX9_halves) := gin_V tbq_4_221 tbq_4_222 tbq_4_223 tbq_1_1 tw_uX9_halves guX9_halves
theorem gL51_m : GoodIn lw_tbl (wsV RL 229 RX10 yX10_halves uX10_halves) := gin_V tbq_8_2 tbq_8_3 tbq_8_4 tbq_1_9 tw_uX10_halves guX10_halves
set_option maxHeartbeats 4000000 in
set_option maxRecDepth 100000 in
theorem law_c51 {p : Program} {e : Env} {s : State} {m : MethodId} {below : List Frame} {meth : Method} {c : Code} (l : Launch) {b L : Nat} {xs : Nat → Int32} (hL : L ≤ 3072) (C0 : lw_At p s m meth c b L xs) (dC : Nat → ClassId) (dI : Nat → Nat → Nat) (gh : Nat → Int32) (B : Nat → Prop) (cc SL xx mm : Nat) (hB : ∀ q, B q → s.heap.size ≤ q) (hcc : cc = tot s.heap + SL) (hSL : SL ≤ 5000000) (hN : nst s) (hX1 : sx s.heap.size s) {ii : Int32} {N : Nat} (hi0 : 0 ≤ ii.toInt) (hi6 : ii.toInt + 6 ≤ (L : Int)) (hNN : N ≤ 100000) {H : Heap} {locs : List Loc} {ls : Array Slot} (hXI : XI dC dI gh (fun q : Nat => ¬ B q ∧ s.heap.size ≤ q) cc xx s H) (hMI : MI dC dI gh B mm s H) (hBb : ∀ q, B q → q < H.size) (hS : va_S (fun q : Nat => s.heap.size ≤ q) s.heap H locs) (hl : lv_has ls 4 [(3, .int ii), (2, .ref mm), (1, .ref xx), (0, .ref b)]) (kk : ∀ (gh : Nat → Int32) (H : Heap) (locs : List Loc) (ls : Array Slot), XI dC dI gh (fun q : Nat => ¬ B q ∧ s.heap.size ≤ q) cc xx s H → MI dC dI gh B mm s H → (∀ q, B q → q < H.size) → va_S (fun q : Nat => s.heap.size ≤ q) s.heap H locs → H.size ≤ s.heap.size + (N + 3) → lv_has ls 4 [(3, .int ii), (2, .ref mm), (1, .ref xx), (0, .ref b)] → W p l e room_1 s m #[Value.ref b] below meth c H locs (N + 3) SL (lw_Z below #[Value.ref b] s) (F0 m 2425 ls [])) : W p l e room_1 s m #[Value.ref b] below meth c H locs N SL (lw_Z below #[Value.ref b] s) (F0 m 2035 ls []) := by
  obtain ⟨hx, hb, hr, hml, hown0, hts, hX, hbl, hlocks, hgv⟩ := id C0
  have hown : s.vm.findClass RL = some m.cls := hown0
  have hbA : ¬ (fun q : Nat => s.heap.size ≤ q) b := Nat.not_le.mpr hbl
  have hAn : ∀ q, (fun q : Nat => ¬ B q ∧ s.heap.size ≤ q) q → s.heap.size ≤ q := fun _ h => h.2
  refine lv_aload_n hx hb dL_law_2035 rfl (lv_at hl 2 rfl) ?_
  refine law_ldv (kv := 1) hx hb hX hbl hbA hS hl dL_law_2036 dL_law_2037 dL_law_2038 dL_law_2039 dL_law_2040 (by decide) (li_in hi0 hi6 hL (k := 1) (by decide) (by decide)) ?_
  refine law_ldv (kv := 2) hx hb hX hbl hbA hS hl dL_law_2041 dL_law_2042 dL_law_2043 dL_law_2044 dL_law_2045 (by decide) (li_in hi0 hi6 hL (k := 2) (by decide) (by decide)) ?_
  refine va_calll (va_runV (As := [.int (xs (ii + 1).toNatClampNeg), .int (xs (ii + 2).toNatClampNeg)]) (rest := []) ⟨hx, hb, hml, hown, hts⟩ (wX9_halves l dC dI gh (fun q : Nat => ¬ B q ∧ s.heap.size ≤ q) cc s.heap.size xx (xs (ii + 1).toNatClampNeg) (xs (ii + 2).toNatClampNeg) hAn) (cwV 2 hts gL51_x rfl rfl rfl hd_yX9_halves ⟨lel 3 2048 rfl, lel 72 84000 rfl⟩) ⟨PX_fb, XI.recv hXI, PX_use hXI hN hX1 (Nat.le_refl _) hS (fun _ h => h) (fun q h => ⟨fun z => absurd (hBb q z) (Nat.not_lt.mpr h), Nat.le_trans hS.1 h⟩)⟩ rfl rfl hl.1 rfl (lv_room (Nat.le_of_ble_eq_true rfl)) dL_law_2046 ⟨(show N + 0 ≤ (600000 : Nat) from by omega), (show SL + 0 ≤ (7302250 : Nat) from by omega)⟩) hS (fun q _ h => h.2) (fun q h => h.2) (fun rx _ t H1 locs1 ht hvm hprx hB1 hz1 hk1 hS1 => ?_)
  have hXq := hB1.1
  rw [ht] at hXq
  have hMI := MI.kept (fun q h1 h2 => hk1 q h1 (fun z => z.1 h2)) hMI
  have hXI := XI.moved hvm.symm hXq
  have hBb : ∀ q, B q → q < H1.size := fun q h => Nat.lt_of_lt_of_le (hBb q h) hz1
  refine W.know (fun hkn => ?_)
  have hsz1 := hkn.2
  clear hB1 hk1 hz1 hkn hXq
  have hS := hS1
  clear hS1
  obtain ⟨H, eH⟩ : ∃ h : Heap, h = H1 := ⟨_, rfl⟩
  rw [← eH] at hXI hMI hBb hS hsz1 ⊢
  refine lv_pop2_2 hx hb dL_law_2049 rfl ?_
  refine lv_aload_n hx hb dL_law_2050 rfl (lv_at hl 1 rfl) ?_
  refine law_ldv (kv := 1) hx hb hX hbl hbA hS hl dL_law_2051 dL_law_2052 dL_law_2053 dL_law_2054 dL_law_2055 (by decide) (li_in hi0 hi6 hL (k := 1) (by decide) (by decide)) ?_
  refine law_ldv (kv := 2) hx hb hX hbl hbA hS hl dL_law_2056 dL_law_2057 dL_law_2058 dL_law_2059 dL_law_2060 (by decide) (li_in hi0 hi6 hL (k := 2) (by decide) (by decide)) ?_
  refine va_calll (va_runV (As := [.int (xs (ii + 1).toNatClampNeg), .int (xs (ii + 2).toNatClampNeg)]) (rest := []) ⟨hx, hb, hml, hown, hts⟩ (wX10_halves l dC dI gh B (tot H) s.heap.size mm (xs (ii + 1).toNatClampNeg) (xs (ii + 2).toNatClampNeg) hB) (cwV 2 hts gL51_m rfl rfl rfl hd_yX10_halves ⟨lel 3 2048 rfl, lel 71 84000 rfl⟩) ⟨PM_fb, MI.recv hMI, PM_use hMI (Nat.le_refl _) hN hX1 (Nat.le_refl _) hS (fun _ h => h) (fun q h z => absurd (hBb q z) (Nat.not_lt.mpr h))⟩ rfl rfl hl.1 rfl (lv_room (Nat.le_of_ble_eq_true rfl)) dL_law_2061 ⟨(show N + 0 + 0 ≤ (600000 : Nat) from by omega), (show SL + 0 + 0 ≤ (7302250 : Nat) from by omega)⟩) hS (fun q _ h => hB q h) (fun q h => hB q h) (fun rm _ t H1 locs1 ht hvm hprm hB1 hz1 hk1 hS1 => ?_)
  have hXq := hB1.1
  rw [ht] at hXq
  have htq := hB1.2.1
  rw [ht] at htq
  have hXI := XI.kept htq (fun q h1 h2 => hk1 q h1 (fun z => h2.1 z)) hXI
  have hMI := MI.moved hvm.symm hXq
  have hBb : ∀ q, B q → q < H1.size := fun q h => Nat.lt_of_lt_of_le (hBb q h) hz1
  refine W.know (fun hkn => ?_)
  have hsz1 := hkn.2
  clear hB1 hk1 hz1 hkn hXq
  have hS := hS1
  clear hS1
  obtain ⟨H, eH⟩ : ∃ h : Heap, h = H1 := ⟨_, rfl⟩
  rw [← eH] at hXI hMI hBb hS hsz1 ⊢
  refine lv_pop2_2 hx hb dL_law_2064 rfl ?_
  refine lv_goto (tgt := 2425) hx hb dL_law_2065 (by decide) ?_
  refine W.tight (n := SL) (by have q9 := XI.tot hXI; omega) ?_
  refine W.widen (k := N + 3) (n := SL) (by omega) (Nat.le_refl _) ?_
  exact kk _ _ _ _ hXI hMI hBb hS (by omega) hl
theorem gL52_x : GoodIn lw_tbl (wsV RL 230 RX9 yX9_middle uX9_middle) := gin_V tbq_4_225 tbq_4_226 tbq_4_227 tbq_1_1 tw_uX9_middle guX9_middle
theorem gL52_m : GoodIn lw_tbl (wsV RL 233 RX10 yX10_middle uX10_middle) := gin_V tbq_8_6 tbq_8_7 tbq_8_8 tbq_1_9 tw_uX10_middle guX10_middle
set_option maxHeartbeats 4000000 in
set_option maxRecDepth 100000 in
theorem law_c52 {p : Program} {e : Env} {s : State} {m : MethodId} {below : List Frame} {meth : Method} {c : Code} (l : Launch) {b L : Nat} {xs : Nat → Int32} (hL : L ≤ 3072) (C0 : lw_At p s m meth c b L xs) (dC : Nat → ClassId) (dI : Nat → Nat → Nat) (gh : Nat → Int32) (B : Nat → Prop) (cc SL xx mm : Nat) (hB : ∀ q, B q → s.heap.size ≤ q) (hcc : cc = tot s.heap + SL) (hSL : SL ≤ 5000000) (hN : nst s) (hX1 : sx s.heap.size s) {ii : Int32} {N : Nat} (hi0 : 0 ≤ ii.toInt) (hi6 : ii.toInt + 6 ≤ (L : Int)) (hNN : N ≤ 100000) {H : Heap} {locs : List Loc} {ls : Array Slot} (hXI : XI dC dI gh (fun q : Nat => ¬ B q ∧ s.heap.size ≤ q) cc xx s H) (hMI : MI dC dI gh B mm s H) (hBb : ∀ q, B q → q < H.size) (hS : va_S (fun q : Nat => s.heap.size ≤ q) s.heap H locs) (hl : lv_has ls 4 [(3, .int ii), (2, .ref mm), (1, .ref xx), (0, .ref b)]) (kk : ∀ (gh : Nat → Int32) (H : Heap) (locs : List Loc) (ls : Array Slot), XI dC dI gh (fun q : Nat => ¬ B q ∧ s.heap.size ≤ q) cc xx s H → MI dC dI gh B mm s H → (∀ q, B q → q < H.size) → va_S (fun q : Nat => s.heap.size ≤ q) s.heap H locs → H.size ≤ s.heap.size + (N + 3) → lv_has ls 4 [(3, .int ii), (2, .ref mm), (1, .ref xx), (0, .ref b)] → W p l e room_1 s m #[Value.ref b] below meth c H locs (N + 3) SL (lw_Z below #[Value.ref b] s) (F0 m 2425 ls [])) : W p l e room_1 s m #[Value.ref b] below meth c H locs N SL (lw_Z below #[Value.ref b] s) (F0 m 2068 ls []) := by
  obtain ⟨hx, hb, hr, hml, hown0, hts, hX, hbl, hlocks, hgv⟩ := id C0
  have hown : s.vm.findClass RL = some m.cls := hown0
  have hbA : ¬ (fun q : Nat => s.heap.size ≤ q) b := Nat.not_le.mpr hbl
  have hAn : ∀ q, (fun q : Nat => ¬ B q ∧ s.heap.size ≤ q) q → s.heap.size ≤ q := fun _ h => h.2
  refine lv_aload_n hx hb dL_law_2068 rfl (lv_at hl 2 rfl) ?_
  refine law_ldv (kv := 1) hx hb hX hbl hbA hS hl dL_law_2069 dL_law_2070 dL_law_2071 dL_law_2072 dL_law_2073 (by decide) (li_in hi0 hi6 hL (k := 1) (by decide) (by decide)) ?_
  refine law_ldv (kv := 2) hx hb hX hbl hbA hS hl dL_law_2074 dL_law_2075 dL_law_2076 dL_law_2077 dL_law_2078 (by decide) (li_in hi0 hi6 hL (k := 2) (by decide) (by decide)) ?_
  refine va_calll (va_runV (As := [.int (xs (ii + 1).toNatClampNeg), .int (xs (ii + 2).toNatClampNeg)]) (rest := []) ⟨hx, hb, hml, hown, hts⟩ (wX9_middle l dC dI gh (fun q : Nat => ¬ B q ∧ s.heap.size ≤ q) cc s.heap.size xx (xs (ii + 1).toNatClampNeg) (xs (ii + 2).toNatClampNeg) hAn) (cwV 2 hts gL52_x rfl rfl rfl hd_yX9_middle ⟨lel 3 2048 rfl, lel 69 84000 rfl⟩) ⟨PX_fb, XI.recv hXI, PX_use hXI hN hX1 (Nat.le_refl _) hS (fun _ h => h) (fun q h => ⟨fun z => absurd (hBb q z) (Nat.not_lt.mpr h), Nat.le_trans hS.1 h⟩)⟩ rfl rfl hl.1 rfl (lv_room (Nat.le_of_ble_eq_true rfl)) dL_law_2079 ⟨(show N + 0 ≤ (600000 : Nat) from by omega), (show SL + 0 ≤ (7302250 : Nat) from by omega)⟩) hS (fun q _ h => h.2) (fun q h => h.2) (fun rx _ t H1 locs1 ht hvm hprx hB1 hz1 hk1 hS1 => ?_)
  have hXq := hB1.1
  rw [ht] at hXq
  have hMI := MI.kept (fun q h1 h2 => hk1 q h1 (fun z => z.1 h2)) hMI
  have hXI := XI.moved hvm.symm hXq
  have hBb : ∀ q, B q → q < H1.size := fun q h => Nat.lt_of_lt_of_le (hBb q h) hz1
  refine W.know (fun hkn => ?_)
  have hsz1 := hkn.2
  clear hB1 hk1 hz1 hkn hXq
  have hS := hS1
  clear hS1
  obtain ⟨H, eH⟩ : ∃ h : Heap, h = H1 := ⟨_, rfl⟩
  rw [← eH] at hXI hMI hBb hS hsz1 ⊢
  refine lv_pop2_2 hx hb dL_law_2082 rfl ?_
  refine lv_aload_n hx hb dL_law_2083 rfl (lv_at hl 1 rfl) ?_
  refine law_ldv (kv := 1) hx hb hX hbl hbA hS hl dL_law_2084 dL_law_2085 dL_law_2086 dL_law_2087 dL_law_2088 (by decide) (li_in hi0 hi6 hL (k := 1) (by decide) (by decide)) ?_
  refine law_ldv (kv := 2) hx hb hX hbl hbA hS hl dL_law_2089 dL_law_2090 dL_law_2091 dL_law_2092 dL_law_2093 (by decide) (li_in hi0 hi6 hL (k := 2) (by decide) (by decide)) ?_
  refine va_calll (va_runV (As := [.int (xs (ii + 1).toNatClampNeg), .int (xs (ii + 2).toNatClampNeg)]) (rest := []) ⟨hx, hb, hml, hown, hts⟩ (wX10_middle l dC dI gh B (tot H) s.heap.size mm (xs (ii + 1).toNatClampNeg) (xs (ii + 2).toNatClampNeg) hB) (cwV 2 hts gL52_m rfl rfl rfl hd_yX10_middle ⟨lel 3 2048 rfl, lel 68 84000 rfl⟩) ⟨PM_fb, MI.recv hMI, PM_use hMI (Nat.le_refl _) hN hX1 (Nat.le_refl _) hS (fun _ h => h) (fun q h z => absurd (hBb q z) (Nat.not_lt.mpr h))⟩ rfl rfl hl.1 rfl (lv_room (Nat.le_of_ble_eq_true rfl)) dL_law_2094 ⟨(show N + 0 + 0 ≤ (600000 : Nat) from by omega), (show SL + 0 + 0 ≤ (7302250 : Nat) from by omega)⟩) hS (fun q _ h => hB q h) (fun q h => hB q h) (fun rm _ t H1 locs1 ht hvm hprm hB1 hz1 hk1 hS1 => ?_)
  have hXq := hB1.1
  rw [ht] at hXq
  have htq := hB1.2.1
  rw [ht] at htq
  have hXI := XI.kept htq (fun q h1 h2 => hk1 q h1 (fun z => h2.1 z)) hXI
  have hMI := MI.moved hvm.symm hXq
  have hBb : ∀ q, B q → q < H1.size := fun q h => Nat.lt_of_lt_of_le (hBb q h) hz1
  refine W.know (fun hkn => ?_)
  have hsz1 := hkn.2
  clear hB1 hk1 hz1 hkn hXq
  have hS := hS1
  clear hS1
  obtain ⟨H, eH⟩ : ∃ h : Heap, h = H1 := ⟨_, rfl⟩
  rw [← eH] at hXI hMI hBb hS hsz1 ⊢
  refine lv_pop2_2 hx hb dL_law_2097 rfl ?_
  refine lv_goto (tgt := 2425) hx hb dL_law_2098 (by decide) ?_
  refine W.tight (n := SL) (by have q9 := XI.tot hXI; omega) ?_
  refine W.widen (k := N + 3) (n := SL) (by omega) (Nat.le_refl _) ?_
  exact kk _ _ _ _ hXI hMI hBb hS (by omega) hl
theorem gL53_x : GoodIn lw_tbl (wsV RL 234 RX9 yX9_most uX9_most) := gin_V tbq_4_229 tbq_4_230 tbq_4_231 tbq_1_1 tw_uX9_most guX9_most
theorem gL53_m : GoodIn lw_tbl (wsV RL 237 RX10 yX10_most uX10_most) := gin_V tbq_8_10 tbq_8_11 tbq_8_12 tbq_1_9 tw_uX10_most guX10_most
set_option maxHeartbeats 4000000 in
set_option maxRecDepth 100000 in
theorem law_c53 {p : Program} {e : Env} {s : State} {m : MethodId} {below : List Frame} {meth : Method} {c : Code} (l : Launch) {b L : Nat} {xs : Nat → Int32} (hL : L ≤ 3072) (C0 : lw_At p s m meth c b L xs) (dC : Nat → ClassId) (dI : Nat → Nat → Nat) (gh : Nat → Int32) (B : Nat → Prop) (cc SL xx mm : Nat) (hB : ∀ q, B q → s.heap.size ≤ q) (hcc : cc = tot s.heap + SL) (hSL : SL ≤ 5000000) (hN : nst s) (hX1 : sx s.heap.size s) {ii : Int32} {N : Nat} (hi0 : 0 ≤ ii.toInt) (hi6 : ii.toInt + 6 ≤ (L : Int)) (hNN : N ≤ 100000) {H : Heap} {locs : List Loc} {ls : Array Slot} (hXI : XI dC dI gh (fun q : Nat => ¬ B q ∧ s.heap.size ≤ q) cc xx s H) (hMI : MI dC dI gh B mm s H) (hBb : ∀ q, B q → q < H.size) (hS : va_S (fun q : Nat => s.heap.size ≤ q) s.heap H locs) (hl : lv_has ls 4 [(3, .int ii), (2, .ref mm), (1, .ref xx), (0, .ref b)]) (kk : ∀ (gh : Nat → Int32) (H : Heap) (locs : List Loc) (ls : Array Slot), XI dC dI gh (fun q : Nat => ¬ B q ∧ s.heap.size ≤ q) cc xx s H → MI dC dI gh B mm s H → (∀ q, B q → q < H.size) → va_S (fun q : Nat => s.heap.size ≤ q) s.heap H locs → H.size ≤ s.heap.size + (N + 3) → lv_has ls 4 [(3, .int ii), (2, .ref mm), (1, .ref xx), (0, .ref b)] → W p l e room_1 s m #[Value.ref b] below meth c H locs (N + 3) SL (lw_Z below #[Value.ref b] s) (F0 m 2425 ls [])) : W p l e room_1 s m #[Value.ref b] below meth c H locs N SL (lw_Z below #[Value.ref b] s) (F0 m 2101 ls []) := by
  obtain ⟨hx, hb, hr, hml, hown0, hts, hX, hbl, hlocks, hgv⟩ := id C0
  have hown : s.vm.findClass RL = some m.cls := hown0
  have hbA : ¬ (fun q : Nat => s.heap.size ≤ q) b := Nat.not_le.mpr hbl
  have hAn : ∀ q, (fun q : Nat => ¬ B q ∧ s.heap.size ≤ q) q → s.heap.size ≤ q := fun _ h => h.2
  refine lv_aload_n hx hb dL_law_2101 rfl (lv_at hl 2 rfl) ?_
  refine law_ldv (kv := 1) hx hb hX hbl hbA hS hl dL_law_2102 dL_law_2103 dL_law_2104 dL_law_2105 dL_law_2106 (by decide) (li_in hi0 hi6 hL (k := 1) (by decide) (by decide)) ?_
  refine law_ldv (kv := 2) hx hb hX hbl hbA hS hl dL_law_2107 dL_law_2108 dL_law_2109 dL_law_2110 dL_law_2111 (by decide) (li_in hi0 hi6 hL (k := 2) (by decide) (by decide)) ?_
  refine va_calli (va_runV (As := [.int (xs (ii + 1).toNatClampNeg), .int (xs (ii + 2).toNatClampNeg)]) (rest := []) ⟨hx, hb, hml, hown, hts⟩ (wX9_most l dC dI gh (fun q : Nat => ¬ B q ∧ s.heap.size ≤ q) cc s.heap.size xx (xs (ii + 1).toNatClampNeg) (xs (ii + 2).toNatClampNeg) hAn) (cwV 2 hts gL53_x rfl rfl rfl hd_yX9_most ⟨lel 3 2048 rfl, lel 71 84000 rfl⟩) ⟨PX_fb, XI.recv hXI, PX_use hXI hN hX1 (Nat.le_refl _) hS (fun _ h => h) (fun q h => ⟨fun z => absurd (hBb q z) (Nat.not_lt.mpr h), Nat.le_trans hS.1 h⟩)⟩ rfl rfl hl.1 rfl (lv_room (Nat.le_of_ble_eq_true rfl)) dL_law_2112 ⟨(show N + 0 ≤ (600000 : Nat) from by omega), (show SL + 0 ≤ (7302250 : Nat) from by omega)⟩) hS (fun q _ h => h.2) (fun q h => h.2) (fun rx _ t H1 locs1 ht hvm hprx hB1 hz1 hk1 hS1 => ?_)
  have hXq := hB1.1
  rw [ht] at hXq
  have hMI := MI.kept (fun q h1 h2 => hk1 q h1 (fun z => z.1 h2)) hMI
  have hXI := XI.moved hvm.symm hXq
  have hBb : ∀ q, B q → q < H1.size := fun q h => Nat.lt_of_lt_of_le (hBb q h) hz1
  refine W.know (fun hkn => ?_)
  have hsz1 := hkn.2
  clear hB1 hk1 hz1 hkn hXq
  have hS := hS1
  clear hS1
  obtain ⟨H, eH⟩ : ∃ h : Heap, h = H1 := ⟨_, rfl⟩
  rw [← eH] at hXI hMI hBb hS hsz1 ⊢
  refine lv_pop hx hb dL_law_2115 rfl ?_
  refine lv_aload_n hx hb dL_law_2116 rfl (lv_at hl 1 rfl) ?_
  refine law_ldv (kv := 1) hx hb hX hbl hbA hS hl dL_law_2117 dL_law_2118 dL_law_2119 dL_law_2120 dL_law_2121 (by decide) (li_in hi0 hi6 hL (k := 1) (by decide) (by decide)) ?_
  refine law_ldv (kv := 2) hx hb hX hbl hbA hS hl dL_law_2122 dL_law_2123 dL_law_2124 dL_law_2125 dL_law_2126 (by decide) (li_in hi0 hi6 hL (k := 2) (by decide) (by decide)) ?_
  refine va_calli (va_runV (As := [.int (xs (ii + 1).toNatClampNeg), .int (xs (ii + 2).toNatClampNeg)]) (rest := []) ⟨hx, hb, hml, hown, hts⟩ (wX10_most l dC dI gh B (tot H) s.heap.size mm (xs (ii + 1).toNatClampNeg) (xs (ii + 2).toNatClampNeg) hB) (cwV 2 hts gL53_m rfl rfl rfl hd_yX10_most ⟨lel 3 2048 rfl, lel 70 84000 rfl⟩) ⟨PM_fb, MI.recv hMI, PM_use hMI (Nat.le_refl _) hN hX1 (Nat.le_refl _) hS (fun _ h => h) (fun q h z => absurd (hBb q z) (Nat.not_lt.mpr h))⟩ rfl rfl hl.1 rfl (lv_room (Nat.le_of_ble_eq_true rfl)) dL_law_2127 ⟨(show N + 0 + 0 ≤ (600000 : Nat) from by omega), (show SL + 0 + 0 ≤ (7302250 : Nat) from by omega)⟩) hS (fun q _ h => hB q h) (fun q h => hB q h) (fun rm _ t H1 locs1 ht hvm hprm hB1 hz1 hk1 hS1 => ?_)
  have hXq := hB1.1
  rw [ht] at hXq
  have htq := hB1.2.1
  rw [ht] at htq
  have hXI := XI.kept htq (fun q h1 h2 => hk1 q h1 (fun z => h2.1 z)) hXI
  have hMI := MI.moved hvm.symm hXq
  have hBb : ∀ q, B q → q < H1.size := fun q h => Nat.lt_of_lt_of_le (hBb q h) hz1
  refine W.know (fun hkn => ?_)
  have hsz1 := hkn.2
  clear hB1 hk1 hz1 hkn hXq
  have hS := hS1
  clear hS1
  obtain ⟨H, eH⟩ : ∃ h : Heap, h = H1 := ⟨_, rfl⟩
  rw [← eH] at hXI hMI hBb hS hsz1 ⊢
  refine lv_pop hx hb dL_law_2130 rfl ?_
  refine lv_goto (tgt := 2425) hx hb dL_law_2131 (by decide) ?_
  refine W.tight (n := SL) (by have q9 := XI.tot hXI; omega) ?_
  refine W.widen (k := N + 3) (n := SL) (by omega) (Nat.le_refl _) ?_
  exact kk _ _ _ _ hXI hMI hBb hS (by omega) hl
theorem gL54_x : GoodIn lw_tbl (wsV RL 238 RX9 yX9_dice uX9_dice) := gin_V tbq_4_233 tbq_4_234 tbq_4_235 tbq_1_1 tw_uX9_dice guX9_dice
theorem gL54_m : GoodIn lw_tbl (wsV RL 241 RX10 yX10_dice uX10_dice) := gin_V tbq_8_14 tbq_8_15 tbq_8_16 tbq_1_9 tw_uX10_dice guX10_dice
set_option maxHeartbeats 4000000 in
set_option maxRecDepth 100000 in
theorem law_c54 {p : Program} {e : Env} {s : State} {m : MethodId} {below : List Frame} {meth : Method} {c : Code} (l : Launch) {b L : Nat} {xs : Nat → Int32} (hL : L ≤ 3072) (C0 : lw_At p s m meth c b L xs) (dC : Nat → ClassId) (dI : Nat → Nat → Nat) (gh : Nat → Int32) (B : Nat → Prop) (cc SL xx mm : Nat) (hB : ∀ q, B q → s.heap.size ≤ q) (hcc : cc = tot s.heap + SL) (hSL : SL ≤ 5000000) (hN : nst s) (hX1 : sx s.heap.size s) {ii : Int32} {N : Nat} (hi0 : 0 ≤ ii.toInt) (hi6 : ii.toInt + 6 ≤ (L : Int)) (hNN : N ≤ 100000) {H : Heap} {locs : List Loc} {ls : Array Slot} (hXI : XI dC dI gh (fun q : Nat => ¬ B q ∧ s.heap.size ≤ q) cc xx s H) (hMI : MI dC dI gh B mm s H) (hBb : ∀ q, B q → q < H.size) (hS : va_S (fun q : Nat => s.heap.size ≤ q) s.heap H locs) (hl : lv_has ls 4 [(3, .int ii), (2, .ref mm), (1, .ref xx), (0, .ref b)]) (kk : ∀ (gh : Nat → Int32) (H : Heap) (locs : List Loc) (ls : Array Slot), XI dC dI gh (fun q : Nat => ¬ B q ∧ s.heap.size ≤ q) cc xx s H → MI dC dI gh B mm s H → (∀ q, B q → q < H.size) → va_S (fun q : Nat => s.heap.size ≤ q) s.heap H locs → H.size ≤ s.heap.size + (N + 3) → lv_has ls 4 [(3, .int ii), (2, .ref mm), (1, .ref xx), (0, .ref b)] → W p l e room_1 s m #[Value.ref b] below meth c H locs (N + 3) SL (lw_Z below #[Value.ref b] s) (F0 m 2425 ls [])) : W p l e room_1 s m #[Value.ref b] below meth c H locs N SL (lw_Z below #[Value.ref b] s) (F0 m 2134 ls []) := by
  obtain ⟨hx, hb, hr, hml, hown0, hts, hX, hbl, hlocks, hgv⟩ := id C0
  have hown : s.vm.findClass RL = some m.cls := hown0
  have hbA : ¬ (fun q : Nat => s.heap.size ≤ q) b := Nat.not_le.mpr hbl
  have hAn : ∀ q, (fun q : Nat => ¬ B q ∧ s.heap.size ≤ q) q → s.heap.size ≤ q := fun _ h => h.2
  refine lv_aload_n hx hb dL_law_2134 rfl (lv_at hl 2 rfl) ?_
  refine law_ldv (kv := 1) hx hb hX hbl hbA hS hl dL_law_2135 dL_law_2136 dL_law_2137 dL_law_2138 dL_law_2139 (by decide) (li_in hi0 hi6 hL (k := 1) (by decide) (by decide)) ?_
  refine law_ldv (kv := 2) hx hb hX hbl hbA hS hl dL_law_2140 dL_law_2141 dL_law_2142 dL_law_2143 dL_law_2144 (by decide) (li_in hi0 hi6 hL (k := 2) (by decide) (by decide)) ?_
  refine law_ldv (kv := 3) hx hb hX hbl hbA hS hl dL_law_2145 dL_law_2146 dL_law_2147 dL_law_2148 dL_law_2149 (by decide) (li_in hi0 hi6 hL (k := 3) (by decide) (by decide)) ?_
  refine va_calll (va_runV (As := [.int (xs (ii + 1).toNatClampNeg), .int (xs (ii + 2).toNatClampNeg), .int (xs (ii + 3).toNatClampNeg)]) (rest := []) ⟨hx, hb, hml, hown, hts⟩ (wX9_dice l dC dI gh (fun q : Nat => ¬ B q ∧ s.heap.size ≤ q) cc s.heap.size xx (xs (ii + 1).toNatClampNeg) (xs (ii + 2).toNatClampNeg) (xs (ii + 3).toNatClampNeg) hAn) (cwV 3 hts gL54_x rfl rfl rfl hd_yX9_dice ⟨lel 3 2048 rfl, lel 70 84000 rfl⟩) ⟨PX_fb, XI.recv hXI, PX_use hXI hN hX1 (Nat.le_refl _) hS (fun _ h => h) (fun q h => ⟨fun z => absurd (hBb q z) (Nat.not_lt.mpr h), Nat.le_trans hS.1 h⟩)⟩ rfl rfl hl.1 rfl (lv_room (Nat.le_of_ble_eq_true rfl)) dL_law_2150 ⟨(show N + 0 ≤ (600000 : Nat) from by omega), (show SL + 0 ≤ (7302250 : Nat) from by omega)⟩) hS (fun q _ h => h.2) (fun q h => h.2) (fun rx _ t H1 locs1 ht hvm hprx hB1 hz1 hk1 hS1 => ?_)
  have hXq := hB1.1
  rw [ht] at hXq
  have hMI := MI.kept (fun q h1 h2 => hk1 q h1 (fun z => z.1 h2)) hMI
  have hXI := XI.moved hvm.symm hXq
  have hBb : ∀ q, B q → q < H1.size := fun q h => Nat.lt_of_lt_of_le (hBb q h) hz1
  refine W.know (fun hkn => ?_)
  have hsz1 := hkn.2
  clear hB1 hk1 hz1 hkn hXq
  have hS := hS1
  clear hS1
  obtain ⟨H, eH⟩ : ∃ h : Heap, h = H1 := ⟨_, rfl⟩
  rw [← eH] at hXI hMI hBb hS hsz1 ⊢
  refine lv_pop2_2 hx hb dL_law_2153 rfl ?_
  refine lv_aload_n hx hb dL_law_2154 rfl (lv_at hl 1 rfl) ?_
  refine law_ldv (kv := 1) hx hb hX hbl hbA hS hl dL_law_2155 dL_law_2156 dL_law_2157 dL_law_2158 dL_law_2159 (by decide) (li_in hi0 hi6 hL (k := 1) (by decide) (by decide)) ?_
  refine law_ldv (kv := 2) hx hb hX hbl hbA hS hl dL_law_2160 dL_law_2161 dL_law_2162 dL_law_2163 dL_law_2164 (by decide) (li_in hi0 hi6 hL (k := 2) (by decide) (by decide)) ?_
  refine law_ldv (kv := 3) hx hb hX hbl hbA hS hl dL_law_2165 dL_law_2166 dL_law_2167 dL_law_2168 dL_law_2169 (by decide) (li_in hi0 hi6 hL (k := 3) (by decide) (by decide)) ?_
  refine va_calll (va_runV (As := [.int (xs (ii + 1).toNatClampNeg), .int (xs (ii + 2).toNatClampNeg), .int (xs (ii + 3).toNatClampNeg)]) (rest := []) ⟨hx, hb, hml, hown, hts⟩ (wX10_dice l dC dI gh B (tot H) s.heap.size mm (xs (ii + 1).toNatClampNeg) (xs (ii + 2).toNatClampNeg) (xs (ii + 3).toNatClampNeg) hB) (cwV 3 hts gL54_m rfl rfl rfl hd_yX10_dice ⟨lel 2 2048 rfl, lel 49 84000 rfl⟩) ⟨PM_fb, MI.recv hMI, PM_use hMI (Nat.le_refl _) hN hX1 (Nat.le_refl _) hS (fun _ h => h) (fun q h z => absurd (hBb q z) (Nat.not_lt.mpr h))⟩ rfl rfl hl.1 rfl (lv_room (Nat.le_of_ble_eq_true rfl)) dL_law_2170 ⟨(show N + 0 + 0 ≤ (600000 : Nat) from by omega), (show SL + 0 + 0 ≤ (7302250 : Nat) from by omega)⟩) hS (fun q _ h => hB q h) (fun q h => hB q h) (fun rm _ t H1 locs1 ht hvm hprm hB1 hz1 hk1 hS1 => ?_)
  have hXq := hB1.1
  rw [ht] at hXq
  have htq := hB1.2.1
  rw [ht] at htq
  have hXI := XI.kept htq (fun q h1 h2 => hk1 q h1 (fun z => h2.1 z)) hXI
  have hMI := MI.moved hvm.symm hXq
  have hBb : ∀ q, B q → q < H1.size := fun q h => Nat.lt_of_lt_of_le (hBb q h) hz1
  refine W.know (fun hkn => ?_)
  have hsz1 := hkn.2
  clear hB1 hk1 hz1 hkn hXq
  have hS := hS1
  clear hS1
  obtain ⟨H, eH⟩ : ∃ h : Heap, h = H1 := ⟨_, rfl⟩
  rw [← eH] at hXI hMI hBb hS hsz1 ⊢
  refine lv_pop2_2 hx hb dL_law_2173 rfl ?_
  refine lv_goto (tgt := 2425) hx hb dL_law_2174 (by decide) ?_
  refine W.tight (n := SL) (by have q9 := XI.tot hXI; omega) ?_
  refine W.widen (k := N + 3) (n := SL) (by omega) (Nat.le_refl _) ?_
  exact kk _ _ _ _ hXI hMI hBb hS (by omega) hl
theorem gL55_x : GoodIn lw_tbl (wsV RL 242 RX9 yX9_count uX9_count) := gin_V tbq_4_237 tbq_4_238 tbq_4_239 tbq_1_1 tw_uX9_count guX9_count
theorem gL55_m : GoodIn lw_tbl (wsV RL 245 RX10 yX10_count uX10_count) := gin_V tbq_8_19 tbq_8_20 tbq_8_21 tbq_1_9 tw_uX10_count guX10_count
set_option maxHeartbeats 4000000 in
set_option maxRecDepth 100000 in
theorem law_c55 {p : Program} {e : Env} {s : State} {m : MethodId} {below : List Frame} {meth : Method} {c : Code} (l : Launch) {b L : Nat} {xs : Nat → Int32} (hL : L ≤ 3072) (C0 : lw_At p s m meth c b L xs) (dC : Nat → ClassId) (dI : Nat → Nat → Nat) (gh : Nat → Int32) (B : Nat → Prop) (cc SL xx mm : Nat) (hB : ∀ q, B q → s.heap.size ≤ q) (hcc : cc = tot s.heap + SL) (hSL : SL ≤ 5000000) (hN : nst s) (hX1 : sx s.heap.size s) {ii : Int32} {N : Nat} (hi0 : 0 ≤ ii.toInt) (hi6 : ii.toInt + 6 ≤ (L : Int)) (hNN : N ≤ 100000) {H : Heap} {locs : List Loc} {ls : Array Slot} (hXI : XI dC dI gh (fun q : Nat => ¬ B q ∧ s.heap.size ≤ q) cc xx s H) (hMI : MI dC dI gh B mm s H) (hBb : ∀ q, B q → q < H.size) (hS : va_S (fun q : Nat => s.heap.size ≤ q) s.heap H locs) (hl : lv_has ls 4 [(3, .int ii), (2, .ref mm), (1, .ref xx), (0, .ref b)]) (kk : ∀ (gh : Nat → Int32) (H : Heap) (locs : List Loc) (ls : Array Slot), XI dC dI gh (fun q : Nat => ¬ B q ∧ s.heap.size ≤ q) cc xx s H → MI dC dI gh B mm s H → (∀ q, B q → q < H.size) → va_S (fun q : Nat => s.heap.size ≤ q) s.heap H locs → H.size ≤ s.heap.size + (N + 3) → lv_has ls 4 [(3, .int ii), (2, .ref mm), (1, .ref xx), (0, .ref b)] → W p l e room_1 s m #[Value.ref b] below meth c H locs (N + 3) SL (lw_Z below #[Value.ref b] s) (F0 m 2425 ls [])) : W p l e room_1 s m #[Value.ref b] below meth c H locs N SL (lw_Z below #[Value.ref b] s) (F0 m 2177 ls []) := by
  obtain ⟨hx, hb, hr, hml, hown0, hts, hX, hbl, hlocks, hgv⟩ := id C0
  have hown : s.vm.findClass RL = some m.cls := hown0
  have hbA : ¬ (fun q : Nat => s.heap.size ≤ q) b := Nat.not_le.mpr hbl
  have hAn : ∀ q, (fun q : Nat => ¬ B q ∧ s.heap.size ≤ q) q → s.heap.size ≤ q := fun _ h => h.2
  refine lv_aload_n hx hb dL_law_2177 rfl (lv_at hl 2 rfl) ?_
  refine law_ldv (kv := 1) hx hb hX hbl hbA hS hl dL_law_2178 dL_law_2179 dL_law_2180 dL_law_2181 dL_law_2182 (by decide) (li_in hi0 hi6 hL (k := 1) (by decide) (by decide)) ?_
  refine va_calli (va_runV (As := [.int (xs (ii + 1).toNatClampNeg)]) (rest := []) ⟨hx, hb, hml, hown, hts⟩ (wX9_count l dC dI gh (fun q : Nat => ¬ B q ∧ s.heap.size ≤ q) cc s.heap.size xx (xs (ii + 1).toNatClampNeg) hAn) (cwV 1 hts gL55_x rfl rfl rfl hd_yX9_count ⟨lel 4 2048 rfl, lel 85 84000 rfl⟩) ⟨PX_fb, XI.recv hXI, PX_use hXI hN hX1 (Nat.le_refl _) hS (fun _ h => h) (fun q h => ⟨fun z => absurd (hBb q z) (Nat.not_lt.mpr h), Nat.le_trans hS.1 h⟩)⟩ rfl rfl hl.1 rfl (lv_room (Nat.le_of_ble_eq_true rfl)) dL_law_2183 ⟨(show N + 0 ≤ (600000 : Nat) from by omega), (show SL + 0 ≤ (7302250 : Nat) from by omega)⟩) hS (fun q _ h => h.2) (fun q h => h.2) (fun rx _ t H1 locs1 ht hvm hprx hB1 hz1 hk1 hS1 => ?_)
  have hXq := hB1.1
  rw [ht] at hXq
  have hMI := MI.kept (fun q h1 h2 => hk1 q h1 (fun z => z.1 h2)) hMI
  have hXI := XI.moved hvm.symm hXq
  have hBb : ∀ q, B q → q < H1.size := fun q h => Nat.lt_of_lt_of_le (hBb q h) hz1
  refine W.know (fun hkn => ?_)
  have hsz1 := hkn.2
  clear hB1 hk1 hz1 hkn hXq
  have hS := hS1
  clear hS1
  obtain ⟨H, eH⟩ : ∃ h : Heap, h = H1 := ⟨_, rfl⟩
  rw [← eH] at hXI hMI hBb hS hsz1 ⊢
  refine lv_pop hx hb dL_law_2186 rfl ?_
  refine lv_aload_n hx hb dL_law_2187 rfl (lv_at hl 1 rfl) ?_
  refine law_ldv (kv := 1) hx hb hX hbl hbA hS hl dL_law_2188 dL_law_2189 dL_law_2190 dL_law_2191 dL_law_2192 (by decide) (li_in hi0 hi6 hL (k := 1) (by decide) (by decide)) ?_
  refine va_calli (va_runV (As := [.int (xs (ii + 1).toNatClampNeg)]) (rest := []) ⟨hx, hb, hml, hown, hts⟩ (wX10_count l dC dI gh B (tot H) s.heap.size mm (xs (ii + 1).toNatClampNeg) hB) (cwV 1 hts gL55_m rfl rfl rfl hd_yX10_count ⟨lel 1 2048 rfl, lel 23 84000 rfl⟩) ⟨PM_fb, MI.recv hMI, PM_use hMI (Nat.le_refl _) hN hX1 (Nat.le_refl _) hS (fun _ h => h) (fun q h z => absurd (hBb q z) (Nat.not_lt.mpr h))⟩ rfl rfl hl.1 rfl (lv_room (Nat.le_of_ble_eq_true rfl)) dL_law_2193 ⟨(show N + 0 + 0 ≤ (600000 : Nat) from by omega), (show SL + 0 + 0 ≤ (7302250 : Nat) from by omega)⟩) hS (fun q _ h => hB q h) (fun q h => hB q h) (fun rm _ t H1 locs1 ht hvm hprm hB1 hz1 hk1 hS1 => ?_)
  have hXq := hB1.1
  rw [ht] at hXq
  have htq := hB1.2.1
  rw [ht] at htq
  have hXI := XI.kept htq (fun q h1 h2 => hk1 q h1 (fun z => h2.1 z)) hXI
  have hMI := MI.moved hvm.symm hXq
  have hBb : ∀ q, B q → q < H1.size := fun q h => Nat.lt_of_lt_of_le (hBb q h) hz1
  refine W.know (fun hkn => ?_)
  have hsz1 := hkn.2
  clear hB1 hk1 hz1 hkn hXq
  have hS := hS1
  clear hS1
  obtain ⟨H, eH⟩ : ∃ h : Heap, h = H1 := ⟨_, rfl⟩
  rw [← eH] at hXI hMI hBb hS hsz1 ⊢
  refine lv_pop hx hb dL_law_2196 rfl ?_
  refine lv_goto (tgt := 2425) hx hb dL_law_2197 (by decide) ?_
  refine W.tight (n := SL) (by have q9 := XI.tot hXI; omega) ?_
  refine W.widen (k := N + 3) (n := SL) (by omega) (Nat.le_refl _) ?_
  exact kk _ _ _ _ hXI hMI hBb hS (by omega) hl
theorem gL56_x : GoodIn lw_tbl (wsV RL 246 RX9 yX9_image uX9_image) := gin_V tbq_5_10 tbq_5_11 tbq_5_12 tbq_1_1 tw_uX9_image guX9_image
theorem gL56_m : GoodIn lw_tbl (wsV RL 249 RX10 yX10_image uX10_image) := gin_V tbq_5_165 tbq_5_166 tbq_5_167 tbq_1_9 tw_uX10_image guX10_image
set_option maxHeartbeats 4000000 in
set_option maxRecDepth 100000 in
theorem law_c56 {p : Program} {e : Env} {s : State} {m : MethodId} {below : List Frame} {meth : Method} {c : Code} (l : Launch) {b L : Nat} {xs : Nat → Int32} (hL : L ≤ 3072) (C0 : lw_At p s m meth c b L xs) (dC : Nat → ClassId) (dI : Nat → Nat → Nat) (gh : Nat → Int32) (B : Nat → Prop) (cc SL xx mm : Nat) (hB : ∀ q, B q → s.heap.size ≤ q) (hcc : cc = tot s.heap + SL) (hSL : SL ≤ 5000000) (hN : nst s) (hX1 : sx s.heap.size s) {ii : Int32} {N : Nat} (hi0 : 0 ≤ ii.toInt) (hi6 : ii.toInt + 6 ≤ (L : Int)) (hNN : N ≤ 100000) {H : Heap} {locs : List Loc} {ls : Array Slot} (hXI : XI dC dI gh (fun q : Nat => ¬ B q ∧ s.heap.size ≤ q) cc xx s H) (hMI : MI dC dI gh B mm s H) (hBb : ∀ q, B q → q < H.size) (hS : va_S (fun q : Nat => s.heap.size ≤ q) s.heap H locs) (hl : lv_has ls 4 [(3, .int ii), (2, .ref mm), (1, .ref xx), (0, .ref b)]) (kk : ∀ (gh : Nat → Int32) (H : Heap) (locs : List Loc) (ls : Array Slot), XI dC dI gh (fun q : Nat => ¬ B q ∧ s.heap.size ≤ q) cc xx s H → MI dC dI gh B mm s H → (∀ q, B q → q < H.size) → va_S (fun q : Nat => s.heap.size ≤ q) s.heap H locs → H.size ≤ s.heap.size + (N + 3) → lv_has ls 4 [(3, .int ii), (2, .ref mm), (1, .ref xx), (0, .ref b)] → W p l e room_1 s m #[Value.ref b] below meth c H locs (N + 3) SL (lw_Z below #[Value.ref b] s) (F0 m 2425 ls [])) : W p l e room_1 s m #[Value.ref b] below meth c H locs N SL (lw_Z below #[Value.ref b] s) (F0 m 2200 ls []) := by
  obtain ⟨hx, hb, hr, hml, hown0, hts, hX, hbl, hlocks, hgv⟩ := id C0
  have hown : s.vm.findClass RL = some m.cls := hown0
  have hbA : ¬ (fun q : Nat => s.heap.size ≤ q) b := Nat.not_le.mpr hbl
  have hAn : ∀ q, (fun q : Nat => ¬ B q ∧ s.heap.size ≤ q) q → s.heap.size ≤ q := fun _ h => h.2
  refine lv_aload_n hx hb dL_law_2200 rfl (lv_at hl 2 rfl) ?_
  refine law_ldv (kv := 1) hx hb hX hbl hbA hS hl dL_law_2201 dL_law_2202 dL_law_2203 dL_law_2204 dL_law_2205 (by decide) (li_in hi0 hi6 hL (k := 1) (by decide) (by decide)) ?_
  refine va_calli (va_runV (As := [.int (xs (ii + 1).toNatClampNeg)]) (rest := []) ⟨hx, hb, hml, hown, hts⟩ (wX9_image l dC dI gh (fun q : Nat => ¬ B q ∧ s.heap.size ≤ q) cc s.heap.size xx (xs (ii + 1).toNatClampNeg) hAn) (cwV 1 hts gL56_x rfl rfl rfl hd_yX9_image ⟨lel 3 2048 rfl, lel 106 84000 rfl⟩) ⟨PX_fb, XI.recv hXI, PX_use hXI hN hX1 (Nat.le_refl _) hS (fun _ h => h) (fun q h => ⟨fun z => absurd (hBb q z) (Nat.not_lt.mpr h), Nat.le_trans hS.1 h⟩)⟩ rfl rfl hl.1 rfl (lv_room (Nat.le_of_ble_eq_true rfl)) dL_law_2206 ⟨(show N + 2 ≤ (600000 : Nat) from by omega), (show SL + 40000 ≤ (7302250 : Nat) from by omega)⟩) hS (fun q _ h => h.2) (fun q h => h.2) (fun rx _ t H1 locs1 ht hvm hprx hB1 hz1 hk1 hS1 => ?_)
  have hXq := hB1.1
  rw [ht] at hXq
  have hMI := MI.kept (fun q h1 h2 => hk1 q h1 (fun z => z.1 h2)) hMI
  have hXI := XI.moved hvm.symm hXq
  have hBb : ∀ q, B q → q < H1.size := fun q h => Nat.lt_of_lt_of_le (hBb q h) hz1
  refine W.know (fun hkn => ?_)
  have hsz1 := hkn.2
  clear hB1 hk1 hz1 hkn hXq
  have hS := hS1
  clear hS1
  obtain ⟨H, eH⟩ : ∃ h : Heap, h = H1 := ⟨_, rfl⟩
  rw [← eH] at hXI hMI hBb hS hsz1 ⊢
  refine lv_pop hx hb dL_law_2209 rfl ?_
  refine lv_aload_n hx hb dL_law_2210 rfl (lv_at hl 1 rfl) ?_
  refine law_ldv (kv := 1) hx hb hX hbl hbA hS hl dL_law_2211 dL_law_2212 dL_law_2213 dL_law_2214 dL_law_2215 (by decide) (li_in hi0 hi6 hL (k := 1) (by decide) (by decide)) ?_
  refine va_calli (va_runV (As := [.int (xs (ii + 1).toNatClampNeg)]) (rest := []) ⟨hx, hb, hml, hown, hts⟩ (wX10_image l dC dI gh B (tot H) s.heap.size mm (xs (ii + 1).toNatClampNeg) hB) (cwV 1 hts gL56_m rfl rfl rfl hd_yX10_image ⟨lel 2 2048 rfl, lel 47 84000 rfl⟩) ⟨PM_fb, MI.recv hMI, PM_use hMI (Nat.le_refl _) hN hX1 (Nat.le_refl _) hS (fun _ h => h) (fun q h z => absurd (hBb q z) (Nat.not_lt.mpr h))⟩ rfl rfl hl.1 rfl (lv_room (Nat.le_of_ble_eq_true rfl)) dL_law_2216 ⟨(show N + 2 + 0 ≤ (600000 : Nat) from by omega), (show SL + 40000 + 0 ≤ (7302250 : Nat) from by omega)⟩) hS (fun q _ h => hB q h) (fun q h => hB q h) (fun rm _ t H1 locs1 ht hvm hprm hB1 hz1 hk1 hS1 => ?_)
  have hXq := hB1.1
  rw [ht] at hXq
  have htq := hB1.2.1
  rw [ht] at htq
  have hXI := XI.kept htq (fun q h1 h2 => hk1 q h1 (fun z => h2.1 z)) hXI
  have hMI := MI.moved hvm.symm hXq
  have hBb : ∀ q, B q → q < H1.size := fun q h => Nat.lt_of_lt_of_le (hBb q h) hz1
  refine W.know (fun hkn => ?_)
  have hsz1 := hkn.2
  clear hB1 hk1 hz1 hkn hXq
  have hS := hS1
  clear hS1
  obtain ⟨H, eH⟩ : ∃ h : Heap, h = H1 := ⟨_, rfl⟩
  rw [← eH] at hXI hMI hBb hS hsz1 ⊢
  refine lv_pop hx hb dL_law_2219 rfl ?_
  refine lv_goto (tgt := 2425) hx hb dL_law_2220 (by decide) ?_
  refine W.tight (n := SL) (by have q9 := XI.tot hXI; omega) ?_
  refine W.widen (k := N + 3) (n := SL) (by omega) (Nat.le_refl _) ?_
  exact kk _ _ _ _ hXI hMI hBb hS (by omega) hl
theorem gL57_x : GoodIn lw_tbl (wsV RL 250 RX9 yX9_back uX9_back) := gin_V tbq_5_21 tbq_5_22 tbq_5_23 tbq_1_1 tw_uX9_back guX9_back
theorem gL57_m : GoodIn lw_tbl (wsV RL 253 RX10 yX10_back uX10_back) := gin_V tbq_5_173 tbq_5_174 tbq_5_175 tbq_1_9 tw_uX10_back guX10_back
set_option maxHeartbeats 4000000 in
set_option maxRecDepth 100000 in
theorem law_c57 {p : Program} {e : Env} {s : State} {m : MethodId} {below : List Frame} {meth : Method} {c : Code} (l : Launch) {b L : Nat} {xs : Nat → Int32} (hL : L ≤ 3072) (C0 : lw_At p s m meth c b L xs) (dC : Nat → ClassId) (dI : Nat → Nat → Nat) (gh : Nat → Int32) (B : Nat → Prop) (cc SL xx mm : Nat) (hB : ∀ q, B q → s.heap.size ≤ q) (hcc : cc = tot s.heap + SL) (hSL : SL ≤ 5000000) (hN : nst s) (hX1 : sx s.heap.size s) {ii : Int32} {N : Nat} (hi0 : 0 ≤ ii.toInt) (hi6 : ii.toInt + 6 ≤ (L : Int)) (hNN : N ≤ 100000) {H : Heap} {locs : List Loc} {ls : Array Slot} (hXI : XI dC dI gh (fun q : Nat => ¬ B q ∧ s.heap.size ≤ q) cc xx s H) (hMI : MI dC dI gh B mm s H) (hBb : ∀ q, B q → q < H.size) (hS : va_S (fun q : Nat => s.heap.size ≤ q) s.heap H locs) (hl : lv_has ls 4 [(3, .int ii), (2, .ref mm), (1, .ref xx), (0, .ref b)]) (kk : ∀ (gh : Nat → Int32) (H : Heap) (locs : List Loc) (ls : Array Slot), XI dC dI gh (fun q : Nat => ¬ B q ∧ s.heap.size ≤ q) cc xx s H → MI dC dI gh B mm s H → (∀ q, B q → q < H.size) → va_S (fun q : Nat => s.heap.size ≤ q) s.heap H locs → H.size ≤ s.heap.size + (N + 3) → lv_has ls 4 [(3, .int ii), (2, .ref mm), (1, .ref xx), (0, .ref b)] → W p l e room_1 s m #[Value.ref b] below meth c H locs (N + 3) SL (lw_Z below #[Value.ref b] s) (F0 m 2425 ls [])) : W p l e room_1 s m #[Value.ref b] below meth c H locs N SL (lw_Z below #[Value.ref b] s) (F0 m 2223 ls []) := by
  obtain ⟨hx, hb, hr, hml, hown0, hts, hX, hbl, hlocks, hgv⟩ := id C0
  have hown : s.vm.findClass RL = some m.cls := hown0
  have hbA : ¬ (fun q : Nat => s.heap.size ≤ q) b := Nat.not_le.mpr hbl
  have hAn : ∀ q, (fun q : Nat => ¬ B q ∧ s.heap.size ≤ q) q → s.heap.size ≤ q := fun _ h => h.2
  refine lv_aload_n hx hb dL_law_2223 rfl (lv_at hl 2 rfl) ?_
  refine law_ldv (kv := 1) hx hb hX hbl hbA hS hl dL_law_2224 dL_law_2225 dL_law_2226 dL_law_2227 dL_law_2228 (by decide) (li_in hi0 hi6 hL (k := 1) (by decide) (by decide)) ?_
  refine va_calli (va_runV (As := [.int (xs (ii + 1).toNatClampNeg)]) (rest := []) ⟨hx, hb, hml, hown, hts⟩ (wX9_back l dC dI gh (fun q : Nat => ¬ B q ∧ s.heap.size ≤ q) cc s.heap.size xx (xs (ii + 1).toNatClampNeg) hAn) (cwV 1 hts gL57_x rfl rfl rfl hd_yX9_back ⟨lel 3 2048 rfl, lel 106 84000 rfl⟩) ⟨PX_fb, XI.recv hXI, PX_use hXI hN hX1 (Nat.le_refl _) hS (fun _ h => h) (fun q h => ⟨fun z => absurd (hBb q z) (Nat.not_lt.mpr h), Nat.le_trans hS.1 h⟩)⟩ rfl rfl hl.1 rfl (lv_room (Nat.le_of_ble_eq_true rfl)) dL_law_2229 ⟨(show N + 2 ≤ (600000 : Nat) from by omega), (show SL + 40000 ≤ (7302250 : Nat) from by omega)⟩) hS (fun q _ h => h.2) (fun q h => h.2) (fun rx _ t H1 locs1 ht hvm hprx hB1 hz1 hk1 hS1 => ?_)
  have hXq := hB1.1
  rw [ht] at hXq
  have hMI := MI.kept (fun q h1 h2 => hk1 q h1 (fun z => z.1 h2)) hMI
  have hXI := XI.moved hvm.symm hXq
  have hBb : ∀ q, B q → q < H1.size := fun q h => Nat.lt_of_lt_of_le (hBb q h) hz1
  refine W.know (fun hkn => ?_)
  have hsz1 := hkn.2
  clear hB1 hk1 hz1 hkn hXq
  have hS := hS1
  clear hS1
  obtain ⟨H, eH⟩ : ∃ h : Heap, h = H1 := ⟨_, rfl⟩
  rw [← eH] at hXI hMI hBb hS hsz1 ⊢
  refine lv_pop hx hb dL_law_2232 rfl ?_
  refine lv_aload_n hx hb dL_law_2233 rfl (lv_at hl 1 rfl) ?_
  refine law_ldv (kv := 1) hx hb hX hbl hbA hS hl dL_law_2234 dL_law_2235 dL_law_2236 dL_law_2237 dL_law_2238 (by decide) (li_in hi0 hi6 hL (k := 1) (by decide) (by decide)) ?_
  refine va_calli (va_runV (As := [.int (xs (ii + 1).toNatClampNeg)]) (rest := []) ⟨hx, hb, hml, hown, hts⟩ (wX10_back l dC dI gh B (tot H) s.heap.size mm (xs (ii + 1).toNatClampNeg) hB) (cwV 1 hts gL57_m rfl rfl rfl hd_yX10_back ⟨lel 6 2048 rfl, lel 134 84000 rfl⟩) ⟨PM_fb, MI.recv hMI, PM_use hMI (Nat.le_refl _) hN hX1 (Nat.le_refl _) hS (fun _ h => h) (fun q h z => absurd (hBb q z) (Nat.not_lt.mpr h))⟩ rfl rfl hl.1 rfl (lv_room (Nat.le_of_ble_eq_true rfl)) dL_law_2239 ⟨(show N + 2 + 0 ≤ (600000 : Nat) from by omega), (show SL + 40000 + 0 ≤ (7302250 : Nat) from by omega)⟩) hS (fun q _ h => hB q h) (fun q h => hB q h) (fun rm _ t H1 locs1 ht hvm hprm hB1 hz1 hk1 hS1 => ?_)
  have hXq := hB1.1
  rw [ht] at hXq
  have htq := hB1.2.1
  rw [ht] at htq
  have hXI := XI.kept htq (fun q h1 h2 => hk1 q h1 (fun z => h2.1 z)) hXI
  have hMI := MI.moved hvm.symm hXq
  have hBb : ∀ q, B q → q < H1.size := fun q h => Nat.lt_of_lt_of_le (hBb q h) hz1
  refine W.know (fun hkn => ?_)
  have hsz1 := hkn.2
  clear hB1 hk1 hz1 hkn hXq
  have hS := hS1
  clear hS1
  obtain ⟨H, eH⟩ : ∃ h : Heap, h = H1 := ⟨_, rfl⟩
  rw [← eH] at hXI hMI hBb hS hsz1 ⊢
  refine lv_pop hx hb dL_law_2242 rfl ?_
  refine lv_goto (tgt := 2425) hx hb dL_law_2243 (by decide) ?_
  refine W.tight (n := SL) (by have q9 := XI.tot hXI; omega) ?_
  refine W.widen (k := N + 3) (n := SL) (by omega) (Nat.le_refl _) ?_
  exact kk _ _ _ _ hXI hMI hBb hS (by omega) hl
theorem gL58_x : GoodIn lw_tbl (wsV RL 254 RX9 yX9_row uX9_rowG) := gin_V tbq_5_25 tbq_5_26 tbq_5_27 tbq_1_1 tw_uX9_rowG guX9_rowG
theorem gL58_m : GoodIn lw_tbl (wsV RL 257 RX10 yX10_row uX10_rowG) := gin_V tbq_8_23 tbq_8_24 tbq_8_25 tbq_1_9 tw_uX10_rowG guX10_rowG
set_option maxHeartbeats 4000000 in
set_option maxRecDepth 100000 in
theorem law_c58 {p : Program} {e : Env} {s : State} {m : MethodId} {below : List Frame} {meth : Method} {c : Code} (l : Launch) {b L : Nat} {xs : Nat → Int32} (hL : L ≤ 3072) (C0 : lw_At p s m meth c b L xs) (dC : Nat → ClassId) (dI : Nat → Nat → Nat) (gh : Nat → Int32) (B : Nat → Prop) (cc SL xx mm : Nat) (hB : ∀ q, B q → s.heap.size ≤ q) (hcc : cc = tot s.heap + SL) (hSL : SL ≤ 5000000) (hN : nst s) (hX1 : sx s.heap.size s) {ii : Int32} {N : Nat} (hi0 : 0 ≤ ii.toInt) (hi6 : ii.toInt + 6 ≤ (L : Int)) (hNN : N ≤ 100000) {H : Heap} {locs : List Loc} {ls : Array Slot} (hXI : XI dC dI gh (fun q : Nat => ¬ B q ∧ s.heap.size ≤ q) cc xx s H) (hMI : MI dC dI gh B mm s H) (hBb : ∀ q, B q → q < H.size) (hS : va_S (fun q : Nat => s.heap.size ≤ q) s.heap H locs) (hl : lv_has ls 4 [(3, .int ii), (2, .ref mm), (1, .ref xx), (0, .ref b)]) (kk : ∀ (gh : Nat → Int32) (H : Heap) (locs : List Loc) (ls : Array Slot), XI dC dI gh (fun q : Nat => ¬ B q ∧ s.heap.size ≤ q) cc xx s H → MI dC dI gh B mm s H → (∀ q, B q → q < H.size) → va_S (fun q : Nat => s.heap.size ≤ q) s.heap H locs → H.size ≤ s.heap.size + (N + 3) → lv_has ls 4 [(3, .int ii), (2, .ref mm), (1, .ref xx), (0, .ref b)] → W p l e room_1 s m #[Value.ref b] below meth c H locs (N + 3) SL (lw_Z below #[Value.ref b] s) (F0 m 2425 ls [])) : W p l e room_1 s m #[Value.ref b] below meth c H locs N SL (lw_Z below #[Value.ref b] s) (F0 m 2246 ls []) := by
  obtain ⟨hx, hb, hr, hml, hown0, hts, hX, hbl, hlocks, hgv⟩ := id C0
  have hown : s.vm.findClass RL = some m.cls := hown0
  have hbA : ¬ (fun q : Nat => s.heap.size ≤ q) b := Nat.not_le.mpr hbl
  have hAn : ∀ q, (fun q : Nat => ¬ B q ∧ s.heap.size ≤ q) q → s.heap.size ≤ q := fun _ h => h.2
  refine lv_aload_n hx hb dL_law_2246 rfl (lv_at hl 2 rfl) ?_
  refine law_ldv (kv := 1) hx hb hX hbl hbA hS hl dL_law_2247 dL_law_2248 dL_law_2249 dL_law_2250 dL_law_2251 (by decide) (li_in hi0 hi6 hL (k := 1) (by decide) (by decide)) ?_
  refine law_ldv (kv := 2) hx hb hX hbl hbA hS hl dL_law_2252 dL_law_2253 dL_law_2254 dL_law_2255 dL_law_2256 (by decide) (li_in hi0 hi6 hL (k := 2) (by decide) (by decide)) ?_
  refine law_ldv (kv := 3) hx hb hX hbl hbA hS hl dL_law_2257 dL_law_2258 dL_law_2259 dL_law_2260 dL_law_2261 (by decide) (li_in hi0 hi6 hL (k := 3) (by decide) (by decide)) ?_
  refine va_calli (va_runV (As := [.int (xs (ii + 1).toNatClampNeg), .int (xs (ii + 2).toNatClampNeg), .int (xs (ii + 3).toNatClampNeg)]) (rest := []) ⟨hx, hb, hml, hown, hts⟩ (wX9_row l dC dI gh (fun q : Nat => ¬ B q ∧ s.heap.size ≤ q) cc s.heap.size xx (xs (ii + 1).toNatClampNeg) (xs (ii + 2).toNatClampNeg) (xs (ii + 3).toNatClampNeg) hAn) (cwV 3 hts gL58_x rfl rfl rfl hd_yX9_row ⟨lel 3 2048 rfl, lel 69 84000 rfl⟩) ⟨PX_fb, XI.recv hXI, PX_use hXI hN hX1 (Nat.le_refl _) hS (fun _ h => h) (fun q h => ⟨fun z => absurd (hBb q z) (Nat.not_lt.mpr h), Nat.le_trans hS.1 h⟩)⟩ rfl rfl hl.1 rfl (lv_room (Nat.le_of_ble_eq_true rfl)) dL_law_2262 ⟨(show N + 0 ≤ (600000 : Nat) from by omega), (show SL + 0 ≤ (7302250 : Nat) from by omega)⟩) hS (fun q _ h => h.2) (fun q h => h.2) (fun rx _ t H1 locs1 ht hvm hprx hB1 hz1 hk1 hS1 => ?_)
  have hXq := hB1.1
  rw [ht] at hXq
  have hMI := MI.kept (fun q h1 h2 => hk1 q h1 (fun z => z.1 h2)) hMI
  have hXI := XI.moved hvm.symm hXq
  have hBb : ∀ q, B q → q < H1.size := fun q h => Nat.lt_of_lt_of_le (hBb q h) hz1
  refine W.know (fun hkn => ?_)
  have hsz1 := hkn.2
  clear hB1 hk1 hz1 hkn hXq
  have hS := hS1
  clear hS1
  obtain ⟨H, eH⟩ : ∃ h : Heap, h = H1 := ⟨_, rfl⟩
  rw [← eH] at hXI hMI hBb hS hsz1 ⊢
  refine lv_pop hx hb dL_law_2265 rfl ?_
  refine lv_aload_n hx hb dL_law_2266 rfl (lv_at hl 1 rfl) ?_
  refine law_ldv (kv := 1) hx hb hX hbl hbA hS hl dL_law_2267 dL_law_2268 dL_law_2269 dL_law_2270 dL_law_2271 (by decide) (li_in hi0 hi6 hL (k := 1) (by decide) (by decide)) ?_
  refine law_ldv (kv := 2) hx hb hX hbl hbA hS hl dL_law_2272 dL_law_2273 dL_law_2274 dL_law_2275 dL_law_2276 (by decide) (li_in hi0 hi6 hL (k := 2) (by decide) (by decide)) ?_
  refine law_ldv (kv := 3) hx hb hX hbl hbA hS hl dL_law_2277 dL_law_2278 dL_law_2279 dL_law_2280 dL_law_2281 (by decide) (li_in hi0 hi6 hL (k := 3) (by decide) (by decide)) ?_
  refine va_calli (va_runV (As := [.int (xs (ii + 1).toNatClampNeg), .int (xs (ii + 2).toNatClampNeg), .int (xs (ii + 3).toNatClampNeg)]) (rest := []) ⟨hx, hb, hml, hown, hts⟩ (wX10_row l dC dI gh B (tot H) s.heap.size mm (xs (ii + 1).toNatClampNeg) (xs (ii + 2).toNatClampNeg) (xs (ii + 3).toNatClampNeg) hB) (cwV 3 hts gL58_m rfl rfl rfl hd_yX10_row ⟨lel 3 2048 rfl, lel 69 84000 rfl⟩) ⟨PM_fb, MI.recv hMI, PM_use hMI (Nat.le_refl _) hN hX1 (Nat.le_refl _) hS (fun _ h => h) (fun q h z => absurd (hBb q z) (Nat.not_lt.mpr h))⟩ rfl rfl hl.1 rfl (lv_room (Nat.le_of_ble_eq_true rfl)) dL_law_2282 ⟨(show N + 0 + 0 ≤ (600000 : Nat) from by omega), (show SL + 0 + 0 ≤ (7302250 : Nat) from by omega)⟩) hS (fun q _ h => hB q h) (fun q h => hB q h) (fun rm _ t H1 locs1 ht hvm hprm hB1 hz1 hk1 hS1 => ?_)
  have hXq := hB1.1
  rw [ht] at hXq
  have htq := hB1.2.1
  rw [ht] at htq
  have hXI := XI.kept htq (fun q h1 h2 => hk1 q h1 (fun z => h2.1 z)) hXI
  have hMI := MI.moved hvm.symm hXq
  have hBb : ∀ q, B q → q < H1.size := fun q h => Nat.lt_of_lt_of_le (hBb q h) hz1
  refine W.know (fun hkn => ?_)
  have hsz1 := hkn.2
  clear hB1 hk1 hz1 hkn hXq
  have hS := hS1
  clear hS1
  obtain ⟨H, eH⟩ : ∃ h : Heap, h = H1 := ⟨_, rfl⟩
  rw [← eH] at hXI hMI hBb hS hsz1 ⊢
  refine lv_pop hx hb dL_law_2285 rfl ?_
  refine lv_goto (tgt := 2425) hx hb dL_law_2286 (by decide) ?_
  refine W.tight (n := SL) (by have q9 := XI.tot hXI; omega) ?_
  refine W.widen (k := N + 3) (n := SL) (by omega) (Nat.le_refl _) ?_
  exact kk _ _ _ _ hXI hMI hBb hS (by omega) hl
theorem gL59_x : GoodIn lw_tbl (wsV RL 260 RX9 yX9_write uX9_write) := gin_V tbq_5_34 tbq_5_35 tbq_5_36 tbq_1_1 tw_uX9_write guX9_write
theorem gL59_m : GoodIn lw_tbl (wsV RL 264 RX10 yX10_write uX10_write) := gin_V tbq_8_27 tbq_8_28 tbq_8_29 tbq_1_9 tw_uX10_write guX10_write
set_option maxHeartbeats 4000000 in
set_option maxRecDepth 100000 in
theorem law_c59 {p : Program} {e : Env} {s : State} {m : MethodId} {below : List Frame} {meth : Method} {c : Code} (l : Launch) {b L : Nat} {xs : Nat → Int32} (hL : L ≤ 3072) (C0 : lw_At p s m meth c b L xs) (dC : Nat → ClassId) (dI : Nat → Nat → Nat) (gh : Nat → Int32) (B : Nat → Prop) (cc SL xx mm : Nat) (hB : ∀ q, B q → s.heap.size ≤ q) (hcc : cc = tot s.heap + SL) (hSL : SL ≤ 5000000) (hN : nst s) (hX1 : sx s.heap.size s) {ii : Int32} {N : Nat} (hi0 : 0 ≤ ii.toInt) (hi6 : ii.toInt + 6 ≤ (L : Int)) (hNN : N ≤ 100000) {H : Heap} {locs : List Loc} {ls : Array Slot} (hXI : XI dC dI gh (fun q : Nat => ¬ B q ∧ s.heap.size ≤ q) cc xx s H) (hMI : MI dC dI gh B mm s H) (hBb : ∀ q, B q → q < H.size) (hS : va_S (fun q : Nat => s.heap.size ≤ q) s.heap H locs) (hl : lv_has ls 4 [(3, .int ii), (2, .ref mm), (1, .ref xx), (0, .ref b)]) (kk : ∀ (gh : Nat → Int32) (H : Heap) (locs : List Loc) (ls : Array Slot), XI dC dI gh (fun q : Nat => ¬ B q ∧ s.heap.size ≤ q) cc xx s H → MI dC dI gh B mm s H → (∀ q, B q → q < H.size) → va_S (fun q : Nat => s.heap.size ≤ q) s.heap H locs → H.size ≤ s.heap.size + (N + 3) → lv_has ls 4 [(3, .int ii), (2, .ref mm), (1, .ref xx), (0, .ref b)] → W p l e room_1 s m #[Value.ref b] below meth c H locs (N + 3) SL (lw_Z below #[Value.ref b] s) (F0 m 2425 ls [])) : W p l e room_1 s m #[Value.ref b] below meth c H locs N SL (lw_Z below #[Value.ref b] s) (F0 m 2289 ls []) := by
  obtain ⟨hx, hb, hr, hml, hown0, hts, hX, hbl, hlocks, hgv⟩ := id C0
  have hown : s.vm.findClass RL = some m.cls := hown0
  have hbA : ¬ (fun q : Nat => s.heap.size ≤ q) b := Nat.not_le.mpr hbl
  have hAn : ∀ q, (fun q : Nat => ¬ B q ∧ s.heap.size ≤ q) q → s.heap.size ≤ q := fun _ h => h.2
  refine lv_aload_n hx hb dL_law_2289 rfl (lv_at hl 2 rfl) ?_
  refine law_ldv (kv := 1) hx hb hX hbl hbA hS hl dL_law_2290 dL_law_2291 dL_law_2292 dL_law_2293 dL_law_2294 (by decide) (li_in hi0 hi6 hL (k := 1) (by decide) (by decide)) ?_
  refine law_ldv (kv := 2) hx hb hX hbl hbA hS hl dL_law_2295 dL_law_2296 dL_law_2297 dL_law_2298 dL_law_2299 (by decide) (li_in hi0 hi6 hL (k := 2) (by decide) (by decide)) ?_
  refine law_ldv (kv := 3) hx hb hX hbl hbA hS hl dL_law_2300 dL_law_2301 dL_law_2302 dL_law_2303 dL_law_2304 (by decide) (li_in hi0 hi6 hL (k := 3) (by decide) (by decide)) ?_
  obtain ⟨y1, e_y1⟩ : ∃ y : Int64, y = Int32.toInt64 (xs (ii + 3).toNatClampNeg) := ⟨_, rfl⟩
  refine lv_i2l (v := y1) hx hb dL_law_2305 e_y1.symm ?_
  refine lv_bipush (v := 32) hx hb dL_law_2306 (by decide) ?_
  obtain ⟨y2, e_y2⟩ : ∃ y : Int64, y = y1 <<< ((32 : Int32).toInt64 &&& 63) := ⟨_, rfl⟩
  refine lv_lshl (v := y2) hx hb dL_law_2308 e_y2.symm ?_
  refine law_ldv (kv := 4) hx hb hX hbl hbA hS hl dL_law_2309 dL_law_2310 dL_law_2311 dL_law_2312 dL_law_2313 (by decide) (li_in hi0 hi6 hL (k := 4) (by decide) (by decide)) ?_
  obtain ⟨y3, e_y3⟩ : ∃ y : Int64, y = Int32.toInt64 (xs (ii + 4).toNatClampNeg) := ⟨_, rfl⟩
  refine lv_i2l (v := y3) hx hb dL_law_2314 e_y3.symm ?_
  refine lv_ldc2 (v := 4294967295) hx hb hown (hts (.constantLong RL 258 (4294967295)) (tb_8 (List.mem_of_getElem? (i := 38) rfl))) dL_law_2315 ?_
  refine lv_land hx hb dL_law_2318 ?_
  refine lv_topl (fun y4 e_y4 => ?_)
  refine lv_lor hx hb dL_law_2319 ?_
  refine lv_topl (fun y5 e_y5 => ?_)
  refine va_calli (va_runV (As := [.int (xs (ii + 1).toNatClampNeg), .int (xs (ii + 2).toNatClampNeg), .long y5]) (rest := []) ⟨hx, hb, hml, hown, hts⟩ (wX9_write l dC dI gh (fun q : Nat => ¬ B q ∧ s.heap.size ≤ q) cc s.heap.size xx (xs (ii + 1).toNatClampNeg) (xs (ii + 2).toNatClampNeg) y5 hAn) (cwV 3 hts gL59_x rfl rfl rfl hd_yX9_write ⟨lel 3 2048 rfl, lel 70 84000 rfl⟩) ⟨PX_fb, XI.recv hXI, PX_use hXI hN hX1 (Nat.le_refl _) hS (fun _ h => h) (fun q h => ⟨fun z => absurd (hBb q z) (Nat.not_lt.mpr h), Nat.le_trans hS.1 h⟩)⟩ rfl rfl hl.1 rfl (lv_room (Nat.le_of_ble_eq_true rfl)) dL_law_2320 ⟨(show N + 0 ≤ (600000 : Nat) from by omega), (show SL + 0 ≤ (7302250 : Nat) from by omega)⟩) hS (fun q _ h => h.2) (fun q h => h.2) (fun rx _ t H1 locs1 ht hvm hprx hB1 hz1 hk1 hS1 => ?_)
  have hXq := hB1.1
  rw [ht] at hXq
  have hMI := MI.kept (fun q h1 h2 => hk1 q h1 (fun z => z.1 h2)) hMI
  have hXI := XI.moved hvm.symm hXq
  have hBb : ∀ q, B q → q < H1.size := fun q h => Nat.lt_of_lt_of_le (hBb q h) hz1
  refine W.know (fun hkn => ?_)
  have hsz1 := hkn.2
  clear hB1 hk1 hz1 hkn hXq
  have hS := hS1
  clear hS1
  obtain ⟨H, eH⟩ : ∃ h : Heap, h = H1 := ⟨_, rfl⟩
  rw [← eH] at hXI hMI hBb hS hsz1 ⊢
  refine lv_pop hx hb dL_law_2323 rfl ?_
  refine lv_aload_n hx hb dL_law_2324 rfl (lv_at hl 1 rfl) ?_
  refine law_ldv (kv := 1) hx hb hX hbl hbA hS hl dL_law_2325 dL_law_2326 dL_law_2327 dL_law_2328 dL_law_2329 (by decide) (li_in hi0 hi6 hL (k := 1) (by decide) (by decide)) ?_
  refine law_ldv (kv := 2) hx hb hX hbl hbA hS hl dL_law_2330 dL_law_2331 dL_law_2332 dL_law_2333 dL_law_2334 (by decide) (li_in hi0 hi6 hL (k := 2) (by decide) (by decide)) ?_
  refine law_ldv (kv := 3) hx hb hX hbl hbA hS hl dL_law_2335 dL_law_2336 dL_law_2337 dL_law_2338 dL_law_2339 (by decide) (li_in hi0 hi6 hL (k := 3) (by decide) (by decide)) ?_
  obtain ⟨y6, e_y6⟩ : ∃ y : Int64, y = Int32.toInt64 (xs (ii + 3).toNatClampNeg) := ⟨_, rfl⟩
  refine lv_i2l (v := y6) hx hb dL_law_2340 e_y6.symm ?_
  refine lv_bipush (v := 32) hx hb dL_law_2341 (by decide) ?_
  obtain ⟨y7, e_y7⟩ : ∃ y : Int64, y = y6 <<< ((32 : Int32).toInt64 &&& 63) := ⟨_, rfl⟩
  refine lv_lshl (v := y7) hx hb dL_law_2343 e_y7.symm ?_
  refine law_ldv (kv := 4) hx hb hX hbl hbA hS hl dL_law_2344 dL_law_2345 dL_law_2346 dL_law_2347 dL_law_2348 (by decide) (li_in hi0 hi6 hL (k := 4) (by decide) (by decide)) ?_
  obtain ⟨y8, e_y8⟩ : ∃ y : Int64, y = Int32.toInt64 (xs (ii + 4).toNatClampNeg) := ⟨_, rfl⟩
  refine lv_i2l (v := y8) hx hb dL_law_2349 e_y8.symm ?_
  refine lv_ldc2 (v := 4294967295) hx hb hown (hts (.constantLong RL 258 (4294967295)) (tb_8 (List.mem_of_getElem? (i := 38) rfl))) dL_law_2350 ?_
  refine lv_land hx hb dL_law_2353 ?_
  refine lv_topl (fun y9 e_y9 => ?_)
  refine lv_lor hx hb dL_law_2354 ?_
  refine lv_topl (fun y10 e_y10 => ?_)
  refine va_calli (va_runV (As := [.int (xs (ii + 1).toNatClampNeg), .int (xs (ii + 2).toNatClampNeg), .long y10]) (rest := []) ⟨hx, hb, hml, hown, hts⟩ (wX10_write l dC dI gh B (tot H) s.heap.size mm (xs (ii + 1).toNatClampNeg) (xs (ii + 2).toNatClampNeg) y10 hB) (cwV 3 hts gL59_m rfl rfl rfl hd_yX10_write ⟨lel 3 2048 rfl, lel 69 84000 rfl⟩) ⟨PM_fb, MI.recv hMI, PM_use hMI (Nat.le_refl _) hN hX1 (Nat.le_refl _) hS (fun _ h => h) (fun q h z => absurd (hBb q z) (Nat.not_lt.mpr h))⟩ rfl rfl hl.1 rfl (lv_room (Nat.le_of_ble_eq_true rfl)) dL_law_2355 ⟨(show N + 0 + 0 ≤ (600000 : Nat) from by omega), (show SL + 0 + 0 ≤ (7302250 : Nat) from by omega)⟩) hS (fun q _ h => hB q h) (fun q h => hB q h) (fun rm _ t H1 locs1 ht hvm hprm hB1 hz1 hk1 hS1 => ?_)
  have hXq := hB1.1
  rw [ht] at hXq
  have htq := hB1.2.1
  rw [ht] at htq
  have hXI := XI.kept htq (fun q h1 h2 => hk1 q h1 (fun z => h2.1 z)) hXI
  have hMI := MI.moved hvm.symm hXq
  have hBb : ∀ q, B q → q < H1.size := fun q h => Nat.lt_of_lt_of_le (hBb q h) hz1
  refine W.know (fun hkn => ?_)
  have hsz1 := hkn.2
  clear hB1 hk1 hz1 hkn hXq
  have hS := hS1
  clear hS1
  obtain ⟨H, eH⟩ : ∃ h : Heap, h = H1 := ⟨_, rfl⟩
  rw [← eH] at hXI hMI hBb hS hsz1 ⊢
  refine lv_pop hx hb dL_law_2358 rfl ?_
  refine lv_goto (tgt := 2425) hx hb dL_law_2359 (by decide) ?_
  refine W.tight (n := SL) (by have q9 := XI.tot hXI; omega) ?_
  refine W.widen (k := N + 3) (n := SL) (by omega) (Nat.le_refl _) ?_
  exact kk _ _ _ _ hXI hMI hBb hS (by omega) hl
theorem gL60_x : GoodIn lw_tbl (wsV RL 265 RX9 yX9_paste uX9_pasteF) := gin_V tbq_5_50 tbq_5_51 tbq_5_52 tbq_1_1 tw_uX9_pasteF guX9_pasteF
theorem gL60_m : GoodIn lw_tbl (wsV RL 268 RX10 yX10_paste uX10_pasteF) := gin_V tbq_8_34 tbq_8_35 tbq_8_36 tbq_1_9 tw_uX10_pasteF guX10_pasteF
set_option maxHeartbeats 4000000 in
set_option maxRecDepth 100000 in
theorem law_c60 {p : Program} {e : Env} {s : State} {m : MethodId} {below : List Frame} {meth : Method} {c : Code} (l : Launch) {b L : Nat} {xs : Nat → Int32} (hL : L ≤ 3072) (C0 : lw_At p s m meth c b L xs) (dC : Nat → ClassId) (dI : Nat → Nat → Nat) (gh : Nat → Int32) (B : Nat → Prop) (cc SL xx mm : Nat) (hB : ∀ q, B q → s.heap.size ≤ q) (hcc : cc = tot s.heap + SL) (hSL : SL ≤ 5000000) (hN : nst s) (hX1 : sx s.heap.size s) {ii : Int32} {N : Nat} (hi0 : 0 ≤ ii.toInt) (hi6 : ii.toInt + 6 ≤ (L : Int)) (hNN : N ≤ 100000) {H : Heap} {locs : List Loc} {ls : Array Slot} (hXI : XI dC dI gh (fun q : Nat => ¬ B q ∧ s.heap.size ≤ q) cc xx s H) (hMI : MI dC dI gh B mm s H) (hBb : ∀ q, B q → q < H.size) (hS : va_S (fun q : Nat => s.heap.size ≤ q) s.heap H locs) (hl : lv_has ls 4 [(3, .int ii), (2, .ref mm), (1, .ref xx), (0, .ref b)]) (kk : ∀ (gh : Nat → Int32) (H : Heap) (locs : List Loc) (ls : Array Slot), XI dC dI gh (fun q : Nat => ¬ B q ∧ s.heap.size ≤ q) cc xx s H → MI dC dI gh B mm s H → (∀ q, B q → q < H.size) → va_S (fun q : Nat => s.heap.size ≤ q) s.heap H locs → H.size ≤ s.heap.size + (N + 3) → lv_has ls 4 [(3, .int ii), (2, .ref mm), (1, .ref xx), (0, .ref b)] → W p l e room_1 s m #[Value.ref b] below meth c H locs (N + 3) SL (lw_Z below #[Value.ref b] s) (F0 m 2425 ls [])) : W p l e room_1 s m #[Value.ref b] below meth c H locs N SL (lw_Z below #[Value.ref b] s) (F0 m 2362 ls []) := by
  obtain ⟨hx, hb, hr, hml, hown0, hts, hX, hbl, hlocks, hgv⟩ := id C0
  have hown : s.vm.findClass RL = some m.cls := hown0
  have hbA : ¬ (fun q : Nat => s.heap.size ≤ q) b := Nat.not_le.mpr hbl
  have hAn : ∀ q, (fun q : Nat => ¬ B q ∧ s.heap.size ≤ q) q → s.heap.size ≤ q := fun _ h => h.2
  refine lv_aload_n hx hb dL_law_2362 rfl (lv_at hl 2 rfl) ?_
  refine law_ldv (kv := 1) hx hb hX hbl hbA hS hl dL_law_2363 dL_law_2364 dL_law_2365 dL_law_2366 dL_law_2367 (by decide) (li_in hi0 hi6 hL (k := 1) (by decide) (by decide)) ?_
  refine law_ldv (kv := 2) hx hb hX hbl hbA hS hl dL_law_2368 dL_law_2369 dL_law_2370 dL_law_2371 dL_law_2372 (by decide) (li_in hi0 hi6 hL (k := 2) (by decide) (by decide)) ?_
  refine law_ldv (kv := 3) hx hb hX hbl hbA hS hl dL_law_2373 dL_law_2374 dL_law_2375 dL_law_2376 dL_law_2377 (by decide) (li_in hi0 hi6 hL (k := 3) (by decide) (by decide)) ?_
  refine law_ldv (kv := 4) hx hb hX hbl hbA hS hl dL_law_2378 dL_law_2379 dL_law_2380 dL_law_2381 dL_law_2382 (by decide) (li_in hi0 hi6 hL (k := 4) (by decide) (by decide)) ?_
  refine law_ldv (kv := 5) hx hb hX hbl hbA hS hl dL_law_2383 dL_law_2384 dL_law_2385 dL_law_2386 dL_law_2387 (by decide) (li_in hi0 hi6 hL (k := 5) (by decide) (by decide)) ?_
  refine va_calli (va_runV (As := [.int (xs (ii + 1).toNatClampNeg), .int (xs (ii + 2).toNatClampNeg), .int (xs (ii + 3).toNatClampNeg), .int (xs (ii + 4).toNatClampNeg), .int (xs (ii + 5).toNatClampNeg)]) (rest := []) ⟨hx, hb, hml, hown, hts⟩ (wX9_paste l dC dI gh (fun q : Nat => ¬ B q ∧ s.heap.size ≤ q) cc s.heap.size xx (xs (ii + 1).toNatClampNeg) (xs (ii + 2).toNatClampNeg) (xs (ii + 3).toNatClampNeg) (xs (ii + 4).toNatClampNeg) (xs (ii + 5).toNatClampNeg) hAn) (cwV 5 hts gL60_x rfl rfl rfl hd_yX9_paste ⟨lel 3 2048 rfl, lel 115 84000 rfl⟩) ⟨PX_fb, XI.recv hXI, PX_use hXI hN hX1 (Nat.le_refl _) hS (fun _ h => h) (fun q h => ⟨fun z => absurd (hBb q z) (Nat.not_lt.mpr h), Nat.le_trans hS.1 h⟩)⟩ rfl rfl hl.1 rfl (lv_room (Nat.le_of_ble_eq_true rfl)) dL_law_2388 ⟨(show N + 0 ≤ (600000 : Nat) from by omega), (show SL + 0 ≤ (7302250 : Nat) from by omega)⟩) hS (fun q _ h => h.2) (fun q h => h.2) (fun rx _ t H1 locs1 ht hvm hprx hB1 hz1 hk1 hS1 => ?_)
  have hXq := hB1.1
  rw [ht] at hXq
  have hMI := MI.kept (fun q h1 h2 => hk1 q h1 (fun z => z.1 h2)) hMI
  have hXI := XI.moved hvm.symm hXq
  have hBb : ∀ q, B q → q < H1.size := fun q h => Nat.lt_of_lt_of_le (hBb q h) hz1
  refine W.know (fun hkn => ?_)
  have hsz1 := hkn.2
  clear hB1 hk1 hz1 hkn hXq
  have hS := hS1
  clear hS1
  obtain ⟨H, eH⟩ : ∃ h : Heap, h = H1 := ⟨_, rfl⟩
  rw [← eH] at hXI hMI hBb hS hsz1 ⊢
  refine lv_aload_n hx hb dL_law_2391 rfl (lv_at hl 1 rfl) ?_
  refine law_ldv (kv := 1) hx hb hX hbl hbA hS hl dL_law_2392 dL_law_2393 dL_law_2394 dL_law_2395 dL_law_2396 (by decide) (li_in hi0 hi6 hL (k := 1) (by decide) (by decide)) ?_
  refine law_ldv (kv := 2) hx hb hX hbl hbA hS hl dL_law_2397 dL_law_2398 dL_law_2399 dL_law_2400 dL_law_2401 (by decide) (li_in hi0 hi6 hL (k := 2) (by decide) (by decide)) ?_
  refine law_ldv (kv := 3) hx hb hX hbl hbA hS hl dL_law_2402 dL_law_2403 dL_law_2404 dL_law_2405 dL_law_2406 (by decide) (li_in hi0 hi6 hL (k := 3) (by decide) (by decide)) ?_
  refine law_ldv (kv := 4) hx hb hX hbl hbA hS hl dL_law_2407 dL_law_2408 dL_law_2409 dL_law_2410 dL_law_2411 (by decide) (li_in hi0 hi6 hL (k := 4) (by decide) (by decide)) ?_
  refine law_ldv (kv := 5) hx hb hX hbl hbA hS hl dL_law_2412 dL_law_2413 dL_law_2414 dL_law_2415 dL_law_2416 (by decide) (li_in hi0 hi6 hL (k := 5) (by decide) (by decide)) ?_
  refine va_calli (va_runV (As := [.int (xs (ii + 1).toNatClampNeg), .int (xs (ii + 2).toNatClampNeg), .int (xs (ii + 3).toNatClampNeg), .int (xs (ii + 4).toNatClampNeg), .int (xs (ii + 5).toNatClampNeg)]) (rest := [.int rx]) ⟨hx, hb, hml, hown, hts⟩ (wX10_paste l dC dI gh B (tot H) s.heap.size mm (xs (ii + 1).toNatClampNeg) (xs (ii + 2).toNatClampNeg) (xs (ii + 3).toNatClampNeg) (xs (ii + 4).toNatClampNeg) (xs (ii + 5).toNatClampNeg) hB) (cwV 5 hts gL60_m rfl rfl rfl hd_yX10_paste ⟨lel 3 2048 rfl, lel 71 84000 rfl⟩) ⟨PM_fb, MI.recv hMI, PM_use hMI (Nat.le_refl _) hN hX1 (Nat.le_refl _) hS (fun _ h => h) (fun q h z => absurd (hBb q z) (Nat.not_lt.mpr h))⟩ rfl rfl hl.1 rfl (lv_room (Nat.le_of_ble_eq_true rfl)) dL_law_2417 ⟨(show N + 0 + 0 ≤ (600000 : Nat) from by omega), (show SL + 0 + 0 ≤ (7302250 : Nat) from by omega)⟩) hS (fun q _ h => hB q h) (fun q h => hB q h) (fun rm _ t H1 locs1 ht hvm hprm hB1 hz1 hk1 hS1 => ?_)
  have hXq := hB1.1
  rw [ht] at hXq
  have htq := hB1.2.1
  rw [ht] at htq
  have hXI := XI.kept htq (fun q h1 h2 => hk1 q h1 (fun z => h2.1 z)) hXI
  have hMI := MI.moved hvm.symm hXq
  have hBb : ∀ q, B q → q < H1.size := fun q h => Nat.lt_of_lt_of_le (hBb q h) hz1
  refine W.know (fun hkn => ?_)
  have hsz1 := hkn.2
  clear hB1 hk1 hz1 hkn hXq
  have hS := hS1
  clear hS1
  obtain ⟨H, eH⟩ : ∃ h : Heap, h = H1 := ⟨_, rfl⟩
  rw [← eH] at hXI hMI hBb hS hsz1 ⊢
  refine lv_icmp_eq (tgt := 2425) hx hb dL_law_2420 (by decide) (fun _ => ?_) (fun c_1 => absurd (hprx.trans hprm.symm) c_1)
  refine W.tight (n := SL) (by have q9 := XI.tot hXI; omega) ?_
  refine W.widen (k := N + 3) (n := SL) (by omega) (Nat.le_refl _) ?_
  exact kk _ _ _ _ hXI hMI hBb hS (by omega) hl
