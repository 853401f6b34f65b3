set_option maxRecDepth 16384
theorem gL16_x : GoodIn lw_tbl (wsV RL 83 RX9 yX9_steps uX9_steps) := gin_V tbq_3_126 tbq_3_127 tbq_3_128 tbq_1_1 tw_uX9_steps guX9_steps
theorem gL16_m : GoodIn lw_tbl (wsV RL 86 RX10 yX10_steps uX10_steps) := gin_V tbq_6_228 tbq_6_229 tbq_6_230 tbq_1_9 tw_uX10_steps guX10_steps
set_option maxHeartbeats 4000000 in
set_option maxRecDepth 100000 in
theorem law_c16 {p : Program} {e : Env} {s : State} {m : MethodId} {below : List Frame} {meth : Method} {c : Code} (l : Launch) {b L : Nat} {xs : Nat → Int32} (hL : L ≤ 3072) (C0 : lw_At p s m meth c b L xs) (dC : Nat → ClassId) (dI : Nat → Nat → Nat) (gh : Nat → Int32) (B : Nat → Prop) (cc SL xx mm : Nat) (hB : ∀ q, B q → s.heap.size ≤ q) (hcc : cc = tot s.heap + SL) (hSL : SL ≤ 5000000) (hN : nst s) (hX1 : sx s.heap.size s) {ii : Int32} {N : Nat} (hi0 : 0 ≤ ii.toInt) (hi6 : ii.toInt + 6 ≤ (L : Int)) (hNN : N ≤ 100000) {H : Heap} {locs : List Loc} {ls : Array Slot} (hXI : XI dC dI gh (fun q : Nat => ¬ B q ∧ s.heap.size ≤ q) cc xx s H) (hMI : MI dC dI gh B mm s H) (hBb : ∀ q, B q → q < H.size) (hS : va_S (fun q : Nat => s.heap.size ≤ q) s.heap H locs) (hl : lv_has ls 4 [(3, .int ii), (2, .ref mm), (1, .ref xx), (0, .ref b)]) (kk : ∀ (gh : Nat → Int32) (H : Heap) (locs : List Loc) (ls : Array Slot), XI dC dI gh (fun q : Nat => ¬ B q ∧ s.heap.size ≤ q) cc xx s H → MI dC dI gh B mm s H → (∀ q, B q → q < H.size) → va_S (fun q : Nat => s.heap.size ≤ q) s.heap H locs → H.size ≤ s.heap.size + (N + 3) → lv_has ls 4 [(3, .int ii), (2, .ref mm), (1, .ref xx), (0, .ref b)] → W p l e room_1 s m #[Value.ref b] below meth c H locs (N + 3) SL (lw_Z below #[Value.ref b] s) (F0 m 2425 ls [])) : W p l e room_1 s m #[Value.ref b] below meth c H locs N SL (lw_Z below #[Value.ref b] s) (F0 m 820 ls []) := by
  obtain ⟨hx, hb, hr, hml, hown0, hts, hX, hbl, hlocks, hgv⟩ := id C0
  have hown : s.vm.findClass RL = some m.cls := hown0
  have hbA : ¬ (fun q : Nat => s.heap.size ≤ q) b := Nat.not_le.mpr hbl
  have hAn : ∀ q, (fun q : Nat => ¬ B q ∧ s.heap.size ≤ q) q → s.heap.size ≤ q := fun _ h => h.2
  refine lv_aload_n hx hb dL_law_820 rfl (lv_at hl 2 rfl) ?_
  refine law_ldv (kv := 1) hx hb hX hbl hbA hS hl dL_law_821 dL_law_822 dL_law_823 dL_law_824 dL_law_825 (by decide) (li_in hi0 hi6 hL (k := 1) (by decide) (by decide)) ?_
  refine law_ldv (kv := 2) hx hb hX hbl hbA hS hl dL_law_826 dL_law_827 dL_law_828 dL_law_829 dL_law_830 (by decide) (li_in hi0 hi6 hL (k := 2) (by decide) (by decide)) ?_
  refine law_ldv (kv := 3) hx hb hX hbl hbA hS hl dL_law_831 dL_law_832 dL_law_833 dL_law_834 dL_law_835 (by decide) (li_in hi0 hi6 hL (k := 3) (by decide) (by decide)) ?_
  refine law_ldv (kv := 4) hx hb hX hbl hbA hS hl dL_law_836 dL_law_837 dL_law_838 dL_law_839 dL_law_840 (by decide) (li_in hi0 hi6 hL (k := 4) (by decide) (by decide)) ?_
  refine va_calli (va_runV (As := [.int (xs (ii + 1).toNatClampNeg), .int (xs (ii + 2).toNatClampNeg), .int (xs (ii + 3).toNatClampNeg), .int (xs (ii + 4).toNatClampNeg)]) (rest := []) ⟨hx, hb, hml, hown, hts⟩ (wX9_steps l dC dI gh (fun q : Nat => ¬ B q ∧ s.heap.size ≤ q) cc s.heap.size xx (xs (ii + 1).toNatClampNeg) (xs (ii + 2).toNatClampNeg) (xs (ii + 3).toNatClampNeg) (xs (ii + 4).toNatClampNeg) hAn) (cwV 4 hts gL16_x rfl rfl rfl hd_yX9_steps ⟨lel 3 2048 rfl, lel 77 84000 rfl⟩) ⟨PX_fb, XI.recv hXI, PX_use hXI hN hX1 (Nat.le_refl _) hS (fun _ h => h) (fun q h => ⟨fun z => absurd (hBb q z) (Nat.not_lt.mpr h), Nat.le_trans hS.1 h⟩)⟩ rfl rfl hl.1 rfl (lv_room (Nat.le_of_ble_eq_true rfl)) dL_law_841 ⟨(show N + 0 ≤ (600000 : Nat) from by omega), (show SL + 0 ≤ (7302250 : Nat) from by omega)⟩) hS (fun q _ h => h.2) (fun q h => h.2) (fun rx _ t H1 locs1 ht hvm hprx hB1 hz1 hk1 hS1 => ?_)
  have hXq := hB1.1
  rw [ht] at hXq
  have hMI := MI.kept (fun q h1 h2 => hk1 q h1 (fun z => z.1 h2)) hMI
  have hXI := XI.moved hvm.symm hXq
  have hBb : ∀ q, B q → q < H1.size := fun q h => Nat.lt_of_lt_of_le (hBb q h) hz1
  refine W.know (fun hkn => ?_)
  have hsz1 := hkn.2
  clear hB1 hk1 hz1 hkn hXq
  have hS := hS1
  clear hS1
  obtain ⟨H, eH⟩ : ∃ h : Heap, h = H1 := ⟨_, rfl⟩
  rw [← eH] at hXI hMI hBb hS hsz1 ⊢
  refine lv_pop hx hb dL_law_844 rfl ?_
  refine lv_aload_n hx hb dL_law_845 rfl (lv_at hl 1 rfl) ?_
  refine law_ldv (kv := 1) hx hb hX hbl hbA hS hl dL_law_846 dL_law_847 dL_law_848 dL_law_849 dL_law_850 (by decide) (li_in hi0 hi6 hL (k := 1) (by decide) (by decide)) ?_
  refine law_ldv (kv := 2) hx hb hX hbl hbA hS hl dL_law_851 dL_law_852 dL_law_853 dL_law_854 dL_law_855 (by decide) (li_in hi0 hi6 hL (k := 2) (by decide) (by decide)) ?_
  refine law_ldv (kv := 3) hx hb hX hbl hbA hS hl dL_law_856 dL_law_857 dL_law_858 dL_law_859 dL_law_860 (by decide) (li_in hi0 hi6 hL (k := 3) (by decide) (by decide)) ?_
  refine law_ldv (kv := 4) hx hb hX hbl hbA hS hl dL_law_861 dL_law_862 dL_law_863 dL_law_864 dL_law_865 (by decide) (li_in hi0 hi6 hL (k := 4) (by decide) (by decide)) ?_
  refine va_calli (va_runV (As := [.int (xs (ii + 1).toNatClampNeg), .int (xs (ii + 2).toNatClampNeg), .int (xs (ii + 3).toNatClampNeg), .int (xs (ii + 4).toNatClampNeg)]) (rest := []) ⟨hx, hb, hml, hown, hts⟩ (wX10_steps l dC dI gh B (tot H) s.heap.size mm (xs (ii + 1).toNatClampNeg) (xs (ii + 2).toNatClampNeg) (xs (ii + 3).toNatClampNeg) (xs (ii + 4).toNatClampNeg) hB) (cwV 4 hts gL16_m rfl rfl rfl hd_yX10_steps ⟨lel 4 2048 rfl, lel 97 84000 rfl⟩) ⟨PM_fb, MI.recv hMI, PM_use hMI (Nat.le_refl _) hN hX1 (Nat.le_refl _) hS (fun _ h => h) (fun q h z => absurd (hBb q z) (Nat.not_lt.mpr h))⟩ rfl rfl hl.1 rfl (lv_room (Nat.le_of_ble_eq_true rfl)) dL_law_866 ⟨(show N + 0 + 0 ≤ (600000 : Nat) from by omega), (show SL + 0 + 0 ≤ (7302250 : Nat) from by omega)⟩) hS (fun q _ h => hB q h) (fun q h => hB q h) (fun rm _ t H1 locs1 ht hvm hprm hB1 hz1 hk1 hS1 => ?_)
  have hXq := hB1.1
  rw [ht] at hXq
  have htq := hB1.2.1
  rw [ht] at htq
  have hXI := XI.kept htq (fun q h1 h2 => hk1 q h1 (fun z => h2.1 z)) hXI
  have hMI := MI.moved hvm.symm hXq
  have hBb : ∀ q, B q → q < H1.size := fun q h => Nat.lt_of_lt_of_le (hBb q h) hz1
  refine W.know (fun hkn => ?_)
  have hsz1 := hkn.2
  clear hB1 hk1 hz1 hkn hXq
  have hS := hS1
  clear hS1
  obtain ⟨H, eH⟩ : ∃ h : Heap, h = H1 := ⟨_, rfl⟩
  rw [← eH] at hXI hMI hBb hS hsz1 ⊢
  refine lv_pop hx hb dL_law_869 rfl ?_
  refine lv_goto (tgt := 2425) hx hb dL_law_870 (by decide) ?_
  refine W.tight (n := SL) (by have q9 := XI.tot hXI; omega) ?_
  refine W.widen (k := N + 3) (n := SL) (by omega) (Nat.le_refl _) ?_
  exact kk _ _ _ _ hXI hMI hBb hS (by omega) hl
theorem gL17_x : GoodIn lw_tbl (wsV RL 87 RX9 yX9_chance uX9_chance) := gin_V tbq_3_130 tbq_3_131 tbq_3_132 tbq_1_1 tw_uX9_chance guX9_chance
theorem gL17_m : GoodIn lw_tbl (wsV RL 90 RX10 yX10_chance uX10_chance) := gin_V tbq_6_233 tbq_6_234 tbq_6_235 tbq_1_9 tw_uX10_chance guX10_chance
set_option maxHeartbeats 4000000 in
set_option maxRecDepth 100000 in
theorem law_c17 {p : Program} {e : Env} {s : State} {m : MethodId} {below : List Frame} {meth : Method} {c : Code} (l : Launch) {b L : Nat} {xs : Nat → Int32} (hL : L ≤ 3072) (C0 : lw_At p s m meth c b L xs) (dC : Nat → ClassId) (dI : Nat → Nat → Nat) (gh : Nat → Int32) (B : Nat → Prop) (cc SL xx mm : Nat) (hB : ∀ q, B q → s.heap.size ≤ q) (hcc : cc = tot s.heap + SL) (hSL : SL ≤ 5000000) (hN : nst s) (hX1 : sx s.heap.size s) {ii : Int32} {N : Nat} (hi0 : 0 ≤ ii.toInt) (hi6 : ii.toInt + 6 ≤ (L : Int)) (hNN : N ≤ 100000) {H : Heap} {locs : List Loc} {ls : Array Slot} (hXI : XI dC dI gh (fun q : Nat => ¬ B q ∧ s.heap.size ≤ q) cc xx s H) (hMI : MI dC dI gh B mm s H) (hBb : ∀ q, B q → q < H.size) (hS : va_S (fun q : Nat => s.heap.size ≤ q) s.heap H locs) (hl : lv_has ls 4 [(3, .int ii), (2, .ref mm), (1, .ref xx), (0, .ref b)]) (kk : ∀ (gh : Nat → Int32) (H : Heap) (locs : List Loc) (ls : Array Slot), XI dC dI gh (fun q : Nat => ¬ B q ∧ s.heap.size ≤ q) cc xx s H → MI dC dI gh B mm s H → (∀ q, B q → q < H.size) → va_S (fun q : Nat => s.heap.size ≤ q) s.heap H locs → H.size ≤ s.heap.size + (N + 3) → lv_has ls 4 [(3, .int ii), (2, .ref mm), (1, .ref xx), (0, .ref b)] → W p l e room_1 s m #[Value.ref b] below meth c H locs (N + 3) SL (lw_Z below #[Value.ref b] s) (F0 m 2425 ls [])) : W p l e room_1 s m #[Value.ref b] below meth c H locs N SL (lw_Z below #[Value.ref b] s) (F0 m 873 ls []) := by
  obtain ⟨hx, hb, hr, hml, hown0, hts, hX, hbl, hlocks, hgv⟩ := id C0
  have hown : s.vm.findClass RL = some m.cls := hown0
  have hbA : ¬ (fun q : Nat => s.heap.size ≤ q) b := Nat.not_le.mpr hbl
  have hAn : ∀ q, (fun q : Nat => ¬ B q ∧ s.heap.size ≤ q) q → s.heap.size ≤ q := fun _ h => h.2
  refine lv_aload_n hx hb dL_law_873 rfl (lv_at hl 2 rfl) ?_
  refine law_ldv (kv := 1) hx hb hX hbl hbA hS hl dL_law_874 dL_law_875 dL_law_876 dL_law_877 dL_law_878 (by decide) (li_in hi0 hi6 hL (k := 1) (by decide) (by decide)) ?_
  refine law_ldv (kv := 2) hx hb hX hbl hbA hS hl dL_law_879 dL_law_880 dL_law_881 dL_law_882 dL_law_883 (by decide) (li_in hi0 hi6 hL (k := 2) (by decide) (by decide)) ?_
  refine va_calli (va_runV (As := [.int (xs (ii + 1).toNatClampNeg), .int (xs (ii + 2).toNatClampNeg)]) (rest := []) ⟨hx, hb, hml, hown, hts⟩ (wX9_chance l dC dI gh (fun q : Nat => ¬ B q ∧ s.heap.size ≤ q) cc s.heap.size xx (xs (ii + 1).toNatClampNeg) (xs (ii + 2).toNatClampNeg) hAn) (cwV 2 hts gL17_x rfl rfl rfl hd_yX9_chance ⟨lel 4 2048 rfl, lel 82 84000 rfl⟩) ⟨PX_fb, XI.recv hXI, PX_use hXI hN hX1 (Nat.le_refl _) hS (fun _ h => h) (fun q h => ⟨fun z => absurd (hBb q z) (Nat.not_lt.mpr h), Nat.le_trans hS.1 h⟩)⟩ rfl rfl hl.1 rfl (lv_room (Nat.le_of_ble_eq_true rfl)) dL_law_884 ⟨(show N + 0 ≤ (600000 : Nat) from by omega), (show SL + 0 ≤ (7302250 : Nat) from by omega)⟩) hS (fun q _ h => h.2) (fun q h => h.2) (fun rx _ t H1 locs1 ht hvm hprx hB1 hz1 hk1 hS1 => ?_)
  have hXq := hB1.1
  rw [ht] at hXq
  have hMI := MI.kept (fun q h1 h2 => hk1 q h1 (fun z => z.1 h2)) hMI
  have hXI := XI.moved hvm.symm hXq
  have hBb : ∀ q, B q → q < H1.size := fun q h => Nat.lt_of_lt_of_le (hBb q h) hz1
  refine W.know (fun hkn => ?_)
  have hsz1 := hkn.2
  clear hB1 hk1 hz1 hkn hXq
  have hS := hS1
  clear hS1
  obtain ⟨H, eH⟩ : ∃ h : Heap, h = H1 := ⟨_, rfl⟩
  rw [← eH] at hXI hMI hBb hS hsz1 ⊢
  refine lv_pop hx hb dL_law_887 rfl ?_
  refine lv_aload_n hx hb dL_law_888 rfl (lv_at hl 1 rfl) ?_
  refine law_ldv (kv := 1) hx hb hX hbl hbA hS hl dL_law_889 dL_law_890 dL_law_891 dL_law_892 dL_law_893 (by decide) (li_in hi0 hi6 hL (k := 1) (by decide) (by decide)) ?_
  refine law_ldv (kv := 2) hx hb hX hbl hbA hS hl dL_law_894 dL_law_895 dL_law_896 dL_law_897 dL_law_898 (by decide) (li_in hi0 hi6 hL (k := 2) (by decide) (by decide)) ?_
  refine va_calli (va_runV (As := [.int (xs (ii + 1).toNatClampNeg), .int (xs (ii + 2).toNatClampNeg)]) (rest := []) ⟨hx, hb, hml, hown, hts⟩ (wX10_chance l dC dI gh B (tot H) s.heap.size mm (xs (ii + 1).toNatClampNeg) (xs (ii + 2).toNatClampNeg) hB) (cwV 2 hts gL17_m rfl rfl rfl hd_yX10_chance ⟨lel 3 2048 rfl, lel 69 84000 rfl⟩) ⟨PM_fb, MI.recv hMI, PM_use hMI (Nat.le_refl _) hN hX1 (Nat.le_refl _) hS (fun _ h => h) (fun q h z => absurd (hBb q z) (Nat.not_lt.mpr h))⟩ rfl rfl hl.1 rfl (lv_room (Nat.le_of_ble_eq_true rfl)) dL_law_899 ⟨(show N + 0 + 0 ≤ (600000 : Nat) from by omega), (show SL + 0 + 0 ≤ (7302250 : Nat) from by omega)⟩) hS (fun q _ h => hB q h) (fun q h => hB q h) (fun rm _ t H1 locs1 ht hvm hprm hB1 hz1 hk1 hS1 => ?_)
  have hXq := hB1.1
  rw [ht] at hXq
  have htq := hB1.2.1
  rw [ht] at htq
  have hXI := XI.kept htq (fun q h1 h2 => hk1 q h1 (fun z => h2.1 z)) hXI
  have hMI := MI.moved hvm.symm hXq
  have hBb : ∀ q, B q → q < H1.size := fun q h => Nat.lt_of_lt_of_le (hBb q h) hz1
  refine W.know (fun hkn => ?_)
  have hsz1 := hkn.2
  clear hB1 hk1 hz1 hkn hXq
  have hS := hS1
  clear hS1
  obtain ⟨H, eH⟩ : ∃ h : Heap, h = H1 := ⟨_, rfl⟩
  rw [← eH] at hXI hMI hBb hS hsz1 ⊢
  refine lv_pop hx hb dL_law_902 rfl ?_
  refine lv_goto (tgt := 2425) hx hb dL_law_903 (by decide) ?_
  refine W.tight (n := SL) (by have q9 := XI.tot hXI; omega) ?_
  refine W.widen (k := N + 3) (n := SL) (by omega) (Nat.le_refl _) ?_
  exact kk _ _ _ _ hXI hMI hBb hS (by omega) hl
theorem gL18_x : GoodIn lw_tbl (wsV RL 91 RX9 yX9_share uX9_share) := gin_V tbq_3_137 tbq_3_138 tbq_3_139 tbq_1_1 tw_uX9_share guX9_share
theorem gL18_m : GoodIn lw_tbl (wsV RL 94 RX10 yX10_share uX10_share) := gin_V tbq_7_3 tbq_7_4 tbq_7_5 tbq_1_9 tw_uX10_share guX10_share
set_option maxHeartbeats 4000000 in
set_option maxRecDepth 100000 in
theorem law_c18 {p : Program} {e : Env} {s : State} {m : MethodId} {below : List Frame} {meth : Method} {c : Code} (l : Launch) {b L : Nat} {xs : Nat → Int32} (hL : L ≤ 3072) (C0 : lw_At p s m meth c b L xs) (dC : Nat → ClassId) (dI : Nat → Nat → Nat) (gh : Nat → Int32) (B : Nat → Prop) (cc SL xx mm : Nat) (hB : ∀ q, B q → s.heap.size ≤ q) (hcc : cc = tot s.heap + SL) (hSL : SL ≤ 5000000) (hN : nst s) (hX1 : sx s.heap.size s) {ii : Int32} {N : Nat} (hi0 : 0 ≤ ii.toInt) (hi6 : ii.toInt + 6 ≤ (L : Int)) (hNN : N ≤ 100000) {H : Heap} {locs : List Loc} {ls : Array Slot} (hXI : XI dC dI gh (fun q : Nat => ¬ B q ∧ s.heap.size ≤ q) cc xx s H) (hMI : MI dC dI gh B mm s H) (hBb : ∀ q, B q → q < H.size) (hS : va_S (fun q : Nat => s.heap.size ≤ q) s.heap H locs) (hl : lv_has ls 4 [(3, .int ii), (2, .ref mm), (1, .ref xx), (0, .ref b)]) (kk : ∀ (gh : Nat → Int32) (H : Heap) (locs : List Loc) (ls : Array Slot), XI dC dI gh (fun q : Nat => ¬ B q ∧ s.heap.size ≤ q) cc xx s H → MI dC dI gh B mm s H → (∀ q, B q → q < H.size) → va_S (fun q : Nat => s.heap.size ≤ q) s.heap H locs → H.size ≤ s.heap.size + (N + 3) → lv_has ls 4 [(3, .int ii), (2, .ref mm), (1, .ref xx), (0, .ref b)] → W p l e room_1 s m #[Value.ref b] below meth c H locs (N + 3) SL (lw_Z below #[Value.ref b] s) (F0 m 2425 ls [])) : W p l e room_1 s m #[Value.ref b] below meth c H locs N SL (lw_Z below #[Value.ref b] s) (F0 m 906 ls []) := by
  obtain ⟨hx, hb, hr, hml, hown0, hts, hX, hbl, hlocks, hgv⟩ := id C0
  have hown : s.vm.findClass RL = some m.cls := hown0
  have hbA : ¬ (fun q : Nat => s.heap.size ≤ q) b := Nat.not_le.mpr hbl
  have hAn : ∀ q, (fun q : Nat => ¬ B q ∧ s.heap.size ≤ q) q → s.heap.size ≤ q := fun _ h => h.2
  refine lv_aload_n hx hb dL_law_906 rfl (lv_at hl 2 rfl) ?_
  refine law_ldv (kv := 1) hx hb hX hbl hbA hS hl dL_law_907 dL_law_908 dL_law_909 dL_law_910 dL_law_911 (by decide) (li_in hi0 hi6 hL (k := 1) (by decide) (by decide)) ?_
  refine law_ldv (kv := 2) hx hb hX hbl hbA hS hl dL_law_912 dL_law_913 dL_law_914 dL_law_915 dL_law_916 (by decide) (li_in hi0 hi6 hL (k := 2) (by decide) (by decide)) ?_
  refine va_calli (va_runV (As := [.int (xs (ii + 1).toNatClampNeg), .int (xs (ii + 2).toNatClampNeg)]) (rest := []) ⟨hx, hb, hml, hown, hts⟩ (wX9_share l dC dI gh (fun q : Nat => ¬ B q ∧ s.heap.size ≤ q) cc s.heap.size xx (xs (ii + 1).toNatClampNeg) (xs (ii + 2).toNatClampNeg) hAn) (cwV 2 hts gL18_x rfl rfl rfl hd_yX9_share ⟨lel 4 2048 rfl, lel 83 84000 rfl⟩) ⟨PX_fb, XI.recv hXI, PX_use hXI hN hX1 (Nat.le_refl _) hS (fun _ h => h) (fun q h => ⟨fun z => absurd (hBb q z) (Nat.not_lt.mpr h), Nat.le_trans hS.1 h⟩)⟩ rfl rfl hl.1 rfl (lv_room (Nat.le_of_ble_eq_true rfl)) dL_law_917 ⟨(show N + 0 ≤ (600000 : Nat) from by omega), (show SL + 0 ≤ (7302250 : Nat) from by omega)⟩) hS (fun q _ h => h.2) (fun q h => h.2) (fun rx _ t H1 locs1 ht hvm hprx hB1 hz1 hk1 hS1 => ?_)
  have hXq := hB1.1
  rw [ht] at hXq
  have hMI := MI.kept (fun q h1 h2 => hk1 q h1 (fun z => z.1 h2)) hMI
  have hXI := XI.moved hvm.symm hXq
  have hBb : ∀ q, B q → q < H1.size := fun q h => Nat.lt_of_lt_of_le (hBb q h) hz1
  refine W.know (fun hkn => ?_)
  have hsz1 := hkn.2
  clear hB1 hk1 hz1 hkn hXq
  have hS := hS1
  clear hS1
  obtain ⟨H, eH⟩ : ∃ h : Heap, h = H1 := ⟨_, rfl⟩
  rw [← eH] at hXI hMI hBb hS hsz1 ⊢
  refine lv_pop hx hb dL_law_920 rfl ?_
  refine lv_aload_n hx hb dL_law_921 rfl (lv_at hl 1 rfl) ?_
  refine law_ldv (kv := 1) hx hb hX hbl hbA hS hl dL_law_922 dL_law_923 dL_law_924 dL_law_925 dL_law_926 (by decide) (li_in hi0 hi6 hL (k := 1) (by decide) (by decide)) ?_
  refine law_ldv (kv := 2) hx hb hX hbl hbA hS hl dL_law_927 dL_law_928 dL_law_929 dL_law_930 dL_law_931 (by decide) (li_in hi0 hi6 hL (k := 2) (by decide) (by decide)) ?_
  refine va_calli (va_runV (As := [.int (xs (ii + 1).toNatClampNeg), .int (xs (ii + 2).toNatClampNeg)]) (rest := []) ⟨hx, hb, hml, hown, hts⟩ (wX10_share l dC dI gh B (tot H) s.heap.size mm (xs (ii + 1).toNatClampNeg) (xs (ii + 2).toNatClampNeg) hB) (cwV 2 hts gL18_m rfl rfl rfl hd_yX10_share ⟨lel 3 2048 rfl, lel 70 84000 rfl⟩) ⟨PM_fb, MI.recv hMI, PM_use hMI (Nat.le_refl _) hN hX1 (Nat.le_refl _) hS (fun _ h => h) (fun q h z => absurd (hBb q z) (Nat.not_lt.mpr h))⟩ rfl rfl hl.1 rfl (lv_room (Nat.le_of_ble_eq_true rfl)) dL_law_932 ⟨(show N + 0 + 0 ≤ (600000 : Nat) from by omega), (show SL + 0 + 0 ≤ (7302250 : Nat) from by omega)⟩) hS (fun q _ h => hB q h) (fun q h => hB q h) (fun rm _ t H1 locs1 ht hvm hprm hB1 hz1 hk1 hS1 => ?_)
  have hXq := hB1.1
  rw [ht] at hXq
  have htq := hB1.2.1
  rw [ht] at htq
  have hXI := XI.kept htq (fun q h1 h2 => hk1 q h1 (fun z => h2.1 z)) hXI
  have hMI := MI.moved hvm.symm hXq
  have hBb : ∀ q, B q → q < H1.size := fun q h => Nat.lt_of_lt_of_le (hBb q h) hz1
  refine W.know (fun hkn => ?_)
  have hsz1 := hkn.2
  clear hB1 hk1 hz1 hkn hXq
  have hS := hS1
  clear hS1
  obtain ⟨H, eH⟩ : ∃ h : Heap, h = H1 := ⟨_, rfl⟩
  rw [← eH] at hXI hMI hBb hS hsz1 ⊢
  refine lv_pop hx hb dL_law_935 rfl ?_
  refine lv_goto (tgt := 2425) hx hb dL_law_936 (by decide) ?_
  refine W.tight (n := SL) (by have q9 := XI.tot hXI; omega) ?_
  refine W.widen (k := N + 3) (n := SL) (by omega) (Nat.le_refl _) ?_
  exact kk _ _ _ _ hXI hMI hBb hS (by omega) hl
theorem gL19_x : GoodIn lw_tbl (wsV RL 95 RX9 yX9_whose uX9_whose) := gin_V tbq_3_141 tbq_3_142 tbq_3_143 tbq_1_1 tw_uX9_whose guX9_whose
theorem gL19_m : GoodIn lw_tbl (wsV RL 98 RX10 yX10_whose uX10_whose) := gin_V tbq_7_7 tbq_7_8 tbq_7_9 tbq_1_9 tw_uX10_whose guX10_whose
set_option maxHeartbeats 4000000 in
set_option maxRecDepth 100000 in
theorem law_c19 {p : Program} {e : Env} {s : State} {m : MethodId} {below : List Frame} {meth : Method} {c : Code} (l : Launch) {b L : Nat} {xs : Nat → Int32} (hL : L ≤ 3072) (C0 : lw_At p s m meth c b L xs) (dC : Nat → ClassId) (dI : Nat → Nat → Nat) (gh : Nat → Int32) (B : Nat → Prop) (cc SL xx mm : Nat) (hB : ∀ q, B q → s.heap.size ≤ q) (hcc : cc = tot s.heap + SL) (hSL : SL ≤ 5000000) (hN : nst s) (hX1 : sx s.heap.size s) {ii : Int32} {N : Nat} (hi0 : 0 ≤ ii.toInt) (hi6 : ii.toInt + 6 ≤ (L : Int)) (hNN : N ≤ 100000) {H : Heap} {locs : List Loc} {ls : Array Slot} (hXI : XI dC dI gh (fun q : Nat => ¬ B q ∧ s.heap.size ≤ q) cc xx s H) (hMI : MI dC dI gh B mm s H) (hBb : ∀ q, B q → q < H.size) (hS : va_S (fun q : Nat => s.heap.size ≤ q) s.heap H locs) (hl : lv_has ls 4 [(3, .int ii), (2, .ref mm), (1, .ref xx), (0, .ref b)]) (kk : ∀ (gh : Nat → Int32) (H : Heap) (locs : List Loc) (ls : Array Slot), XI dC dI gh (fun q : Nat => ¬ B q ∧ s.heap.size ≤ q) cc xx s H → MI dC dI gh B mm s H → (∀ q, B q → q < H.size) → va_S (fun q : Nat => s.heap.size ≤ q) s.heap H locs → H.size ≤ s.heap.size + (N + 3) → lv_has ls 4 [(3, .int ii), (2, .ref mm), (1, .ref xx), (0, .ref b)] → W p l e room_1 s m #[Value.ref b] below meth c H locs (N + 3) SL (lw_Z below #[Value.ref b] s) (F0 m 2425 ls [])) : W p l e room_1 s m #[Value.ref b] below meth c H locs N SL (lw_Z below #[Value.ref b] s) (F0 m 939 ls []) := by
  obtain ⟨hx, hb, hr, hml, hown0, hts, hX, hbl, hlocks, hgv⟩ := id C0
  have hown : s.vm.findClass RL = some m.cls := hown0
  have hbA : ¬ (fun q : Nat => s.heap.size ≤ q) b := Nat.not_le.mpr hbl
  have hAn : ∀ q, (fun q : Nat => ¬ B q ∧ s.heap.size ≤ q) q → s.heap.size ≤ q := fun _ h => h.2
  refine lv_aload_n hx hb dL_law_939 rfl (lv_at hl 2 rfl) ?_
  refine law_ldv (kv := 1) hx hb hX hbl hbA hS hl dL_law_940 dL_law_941 dL_law_942 dL_law_943 dL_law_944 (by decide) (li_in hi0 hi6 hL (k := 1) (by decide) (by decide)) ?_
  refine law_ldv (kv := 2) hx hb hX hbl hbA hS hl dL_law_945 dL_law_946 dL_law_947 dL_law_948 dL_law_949 (by decide) (li_in hi0 hi6 hL (k := 2) (by decide) (by decide)) ?_
  refine va_calli (va_runV (As := [.int (xs (ii + 1).toNatClampNeg), .int (xs (ii + 2).toNatClampNeg)]) (rest := []) ⟨hx, hb, hml, hown, hts⟩ (wX9_whose l dC dI gh (fun q : Nat => ¬ B q ∧ s.heap.size ≤ q) cc s.heap.size xx (xs (ii + 1).toNatClampNeg) (xs (ii + 2).toNatClampNeg) hAn) (cwV 2 hts gL19_x rfl rfl rfl hd_yX9_whose ⟨lel 3 2048 rfl, lel 68 84000 rfl⟩) ⟨PX_fb, XI.recv hXI, PX_use hXI hN hX1 (Nat.le_refl _) hS (fun _ h => h) (fun q h => ⟨fun z => absurd (hBb q z) (Nat.not_lt.mpr h), Nat.le_trans hS.1 h⟩)⟩ rfl rfl hl.1 rfl (lv_room (Nat.le_of_ble_eq_true rfl)) dL_law_950 ⟨(show N + 0 ≤ (600000 : Nat) from by omega), (show SL + 0 ≤ (7302250 : Nat) from by omega)⟩) hS (fun q _ h => h.2) (fun q h => h.2) (fun rx _ t H1 locs1 ht hvm hprx hB1 hz1 hk1 hS1 => ?_)
  have hXq := hB1.1
  rw [ht] at hXq
  have hMI := MI.kept (fun q h1 h2 => hk1 q h1 (fun z => z.1 h2)) hMI
  have hXI := XI.moved hvm.symm hXq
  have hBb : ∀ q, B q → q < H1.size := fun q h => Nat.lt_of_lt_of_le (hBb q h) hz1
  refine W.know (fun hkn => ?_)
  have hsz1 := hkn.2
  clear hB1 hk1 hz1 hkn hXq
  have hS := hS1
  clear hS1
  obtain ⟨H, eH⟩ : ∃ h : Heap, h = H1 := ⟨_, rfl⟩
  rw [← eH] at hXI hMI hBb hS hsz1 ⊢
  refine lv_pop hx hb dL_law_953 rfl ?_
  refine lv_aload_n hx hb dL_law_954 rfl (lv_at hl 1 rfl) ?_
  refine law_ldv (kv := 1) hx hb hX hbl hbA hS hl dL_law_955 dL_law_956 dL_law_957 dL_law_958 dL_law_959 (by decide) (li_in hi0 hi6 hL (k := 1) (by decide) (by decide)) ?_
  refine law_ldv (kv := 2) hx hb hX hbl hbA hS hl dL_law_960 dL_law_961 dL_law_962 dL_law_963 dL_law_964 (by decide) (li_in hi0 hi6 hL (k := 2) (by decide) (by decide)) ?_
  refine va_calli (va_runV (As := [.int (xs (ii + 1).toNatClampNeg), .int (xs (ii + 2).toNatClampNeg)]) (rest := []) ⟨hx, hb, hml, hown, hts⟩ (wX10_whose l dC dI gh B (tot H) s.heap.size mm (xs (ii + 1).toNatClampNeg) (xs (ii + 2).toNatClampNeg) hB) (cwV 2 hts gL19_m rfl rfl rfl hd_yX10_whose ⟨lel 4 2048 rfl, lel 92 84000 rfl⟩) ⟨PM_fb, MI.recv hMI, PM_use hMI (Nat.le_refl _) hN hX1 (Nat.le_refl _) hS (fun _ h => h) (fun q h z => absurd (hBb q z) (Nat.not_lt.mpr h))⟩ rfl rfl hl.1 rfl (lv_room (Nat.le_of_ble_eq_true rfl)) dL_law_965 ⟨(show N + 0 + 0 ≤ (600000 : Nat) from by omega), (show SL + 0 + 0 ≤ (7302250 : Nat) from by omega)⟩) hS (fun q _ h => hB q h) (fun q h => hB q h) (fun rm _ t H1 locs1 ht hvm hprm hB1 hz1 hk1 hS1 => ?_)
  have hXq := hB1.1
  rw [ht] at hXq
  have htq := hB1.2.1
  rw [ht] at htq
  have hXI := XI.kept htq (fun q h1 h2 => hk1 q h1 (fun z => h2.1 z)) hXI
  have hMI := MI.moved hvm.symm hXq
  have hBb : ∀ q, B q → q < H1.size := fun q h => Nat.lt_of_lt_of_le (hBb q h) hz1
  refine W.know (fun hkn => ?_)
  have hsz1 := hkn.2
  clear hB1 hk1 hz1 hkn hXq
  have hS := hS1
  clear hS1
  obtain ⟨H, eH⟩ : ∃ h : Heap, h = H1 := ⟨_, rfl⟩
  rw [← eH] at hXI hMI hBb hS hsz1 ⊢
  refine lv_pop hx hb dL_law_968 rfl ?_
  refine lv_goto (tgt := 2425) hx hb dL_law_969 (by decide) ?_
  refine W.tight (n := SL) (by have q9 := XI.tot hXI; omega) ?_
  refine W.widen (k := N + 3) (n := SL) (by omega) (Nat.le_refl _) ?_
  exact kk _ _ _ _ hXI hMI hBb hS (by omega) hl
theorem gL20_x : GoodIn lw_tbl (wsV RL 99 RX9 yX9_both uX9_both) := gin_V tbq_3_145 tbq_3_146 tbq_3_147 tbq_1_1 tw_uX9_both guX9_both
theorem gL20_m : GoodIn lw_tbl (wsV RL 102 RX10 yX10_both uX10_both) := gin_V tbq_7_11 tbq_7_12 tbq_7_13 tbq_1_9 tw_uX10_both guX10_both
set_option maxHeartbeats 4000000 in
set_option maxRecDepth 100000 in
theorem law_c20 {p : Program} {e : Env} {s : State} {m : MethodId} {below : List Frame} {meth : Method} {c : Code} (l : Launch) {b L : Nat} {xs : Nat → Int32} (hL : L ≤ 3072) (C0 : lw_At p s m meth c b L xs) (dC : Nat → ClassId) (dI : Nat → Nat → Nat) (gh : Nat → Int32) (B : Nat → Prop) (cc SL xx mm : Nat) (hB : ∀ q, B q → s.heap.size ≤ q) (hcc : cc = tot s.heap + SL) (hSL : SL ≤ 5000000) (hN : nst s) (hX1 : sx s.heap.size s) {ii : Int32} {N : Nat} (hi0 : 0 ≤ ii.toInt) (hi6 : ii.toInt + 6 ≤ (L : Int)) (hNN : N ≤ 100000) {H : Heap} {locs : List Loc} {ls : Array Slot} (hXI : XI dC dI gh (fun q : Nat => ¬ B q ∧ s.heap.size ≤ q) cc xx s H) (hMI : MI dC dI gh B mm s H) (hBb : ∀ q, B q → q < H.size) (hS : va_S (fun q : Nat => s.heap.size ≤ q) s.heap H locs) (hl : lv_has ls 4 [(3, .int ii), (2, .ref mm), (1, .ref xx), (0, .ref b)]) (kk : ∀ (gh : Nat → Int32) (H : Heap) (locs : List Loc) (ls : Array Slot), XI dC dI gh (fun q : Nat => ¬ B q ∧ s.heap.size ≤ q) cc xx s H → MI dC dI gh B mm s H → (∀ q, B q → q < H.size) → va_S (fun q : Nat => s.heap.size ≤ q) s.heap H locs → H.size ≤ s.heap.size + (N + 3) → lv_has ls 4 [(3, .int ii), (2, .ref mm), (1, .ref xx), (0, .ref b)] → W p l e room_1 s m #[Value.ref b] below meth c H locs (N + 3) SL (lw_Z below #[Value.ref b] s) (F0 m 2425 ls [])) : W p l e room_1 s m #[Value.ref b] below meth c H locs N SL (lw_Z below #[Value.ref b] s) (F0 m 972 ls []) := by
  obtain ⟨hx, hb, hr, hml, hown0, hts, hX, hbl, hlocks, hgv⟩ := id C0
  have hown : s.vm.findClass RL = some m.cls := hown0
  have hbA : ¬ (fun q : Nat => s.heap.size ≤ q) b := Nat.not_le.mpr hbl
  have hAn : ∀ q, (fun q : Nat => ¬ B q ∧ s.heap.size ≤ q) q → s.heap.size ≤ q := fun _ h => h.2
  refine lv_aload_n hx hb dL_law_972 rfl (lv_at hl 2 rfl) ?_
  refine law_ldv (kv := 1) hx hb hX hbl hbA hS hl dL_law_973 dL_law_974 dL_law_975 dL_law_976 dL_law_977 (by decide) (li_in hi0 hi6 hL (k := 1) (by decide) (by decide)) ?_
  refine va_calli (va_runV (As := [.int (xs (ii + 1).toNatClampNeg)]) (rest := []) ⟨hx, hb, hml, hown, hts⟩ (wX9_both l dC dI gh (fun q : Nat => ¬ B q ∧ s.heap.size ≤ q) cc s.heap.size xx (xs (ii + 1).toNatClampNeg) hAn) (cwV 1 hts gL20_x rfl rfl rfl hd_yX9_both ⟨lel 3 2048 rfl, lel 65 84000 rfl⟩) ⟨PX_fb, XI.recv hXI, PX_use hXI hN hX1 (Nat.le_refl _) hS (fun _ h => h) (fun q h => ⟨fun z => absurd (hBb q z) (Nat.not_lt.mpr h), Nat.le_trans hS.1 h⟩)⟩ rfl rfl hl.1 rfl (lv_room (Nat.le_of_ble_eq_true rfl)) dL_law_978 ⟨(show N + 0 ≤ (600000 : Nat) from by omega), (show SL + 0 ≤ (7302250 : Nat) from by omega)⟩) hS (fun q _ h => h.2) (fun q h => h.2) (fun rx _ t H1 locs1 ht hvm hprx hB1 hz1 hk1 hS1 => ?_)
  have hXq := hB1.1
  rw [ht] at hXq
  have hMI := MI.kept (fun q h1 h2 => hk1 q h1 (fun z => z.1 h2)) hMI
  have hXI := XI.moved hvm.symm hXq
  have hBb : ∀ q, B q → q < H1.size := fun q h => Nat.lt_of_lt_of_le (hBb q h) hz1
  refine W.know (fun hkn => ?_)
  have hsz1 := hkn.2
  clear hB1 hk1 hz1 hkn hXq
  have hS := hS1
  clear hS1
  obtain ⟨H, eH⟩ : ∃ h : Heap, h = H1 := ⟨_, rfl⟩
  rw [← eH] at hXI hMI hBb hS hsz1 ⊢
  refine lv_pop hx hb dL_law_981 rfl ?_
  refine lv_aload_n hx hb dL_law_982 rfl (lv_at hl 1 rfl) ?_
  refine law_ldv (kv := 1) hx hb hX hbl hbA hS hl dL_law_983 dL_law_984 dL_law_985 dL_law_986 dL_law_987 (by decide) (li_in hi0 hi6 hL (k := 1) (by decide) (by decide)) ?_
  refine va_calli (va_runV (As := [.int (xs (ii + 1).toNatClampNeg)]) (rest := []) ⟨hx, hb, hml, hown, hts⟩ (wX10_both l dC dI gh B (tot H) s.heap.size mm (xs (ii + 1).toNatClampNeg) hB) (cwV 1 hts gL20_m rfl rfl rfl hd_yX10_both ⟨lel 3 2048 rfl, lel 69 84000 rfl⟩) ⟨PM_fb, MI.recv hMI, PM_use hMI (Nat.le_refl _) hN hX1 (Nat.le_refl _) hS (fun _ h => h) (fun q h z => absurd (hBb q z) (Nat.not_lt.mpr h))⟩ rfl rfl hl.1 rfl (lv_room (Nat.le_of_ble_eq_true rfl)) dL_law_988 ⟨(show N + 0 + 0 ≤ (600000 : Nat) from by omega), (show SL + 0 + 0 ≤ (7302250 : Nat) from by omega)⟩) hS (fun q _ h => hB q h) (fun q h => hB q h) (fun rm _ t H1 locs1 ht hvm hprm hB1 hz1 hk1 hS1 => ?_)
  have hXq := hB1.1
  rw [ht] at hXq
  have htq := hB1.2.1
  rw [ht] at htq
  have hXI := XI.kept htq (fun q h1 h2 => hk1 q h1 (fun z => h2.1 z)) hXI
  have hMI := MI.moved hvm.symm hXq
  have hBb : ∀ q, B q → q < H1.size := fun q h => Nat.lt_of_lt_of_le (hBb q h) hz1
  refine W.know (fun hkn => ?_)
  have hsz1 := hkn.2
  clear hB1 hk1 hz1 hkn hXq
  have hS := hS1
  clear hS1
  obtain ⟨H, eH⟩ : ∃ h : Heap, h = H1 := ⟨_, rfl⟩
  rw [← eH] at hXI hMI hBb hS hsz1 ⊢
  refine lv_pop hx hb dL_law_991 rfl ?_
  refine lv_goto (tgt := 2425) hx hb dL_law_992 (by decide) ?_
  refine W.tight (n := SL) (by have q9 := XI.tot hXI; omega) ?_
  refine W.widen (k := N + 3) (n := SL) (by omega) (Nat.le_refl _) ?_
  exact kk _ _ _ _ hXI hMI hBb hS (by omega) hl
theorem gL21_x : GoodIn lw_tbl (wsV RL 103 RX9 yX9_just uX9_just) := gin_V tbq_3_157 tbq_3_158 tbq_3_159 tbq_1_1 tw_uX9_just guX9_just
theorem gL21_m : GoodIn lw_tbl (wsV RL 106 RX10 yX10_just uX10_just) := gin_V tbq_7_23 tbq_7_24 tbq_7_25 tbq_1_9 tw_uX10_just guX10_just
set_option maxHeartbeats 4000000 in
set_option maxRecDepth 100000 in
theorem law_c21 {p : Program} {e : Env} {s : State} {m : MethodId} {below : List Frame} {meth : Method} {c : Code} (l : Launch) {b L : Nat} {xs : Nat → Int32} (hL : L ≤ 3072) (C0 : lw_At p s m meth c b L xs) (dC : Nat → ClassId) (dI : Nat → Nat → Nat) (gh : Nat → Int32) (B : Nat → Prop) (cc SL xx mm : Nat) (hB : ∀ q, B q → s.heap.size ≤ q) (hcc : cc = tot s.heap + SL) (hSL : SL ≤ 5000000) (hN : nst s) (hX1 : sx s.heap.size s) {ii : Int32} {N : Nat} (hi0 : 0 ≤ ii.toInt) (hi6 : ii.toInt + 6 ≤ (L : Int)) (hNN : N ≤ 100000) {H : Heap} {locs : List Loc} {ls : Array Slot} (hXI : XI dC dI gh (fun q : Nat => ¬ B q ∧ s.heap.size ≤ q) cc xx s H) (hMI : MI dC dI gh B mm s H) (hBb : ∀ q, B q → q < H.size) (hS : va_S (fun q : Nat => s.heap.size ≤ q) s.heap H locs) (hl : lv_has ls 4 [(3, .int ii), (2, .ref mm), (1, .ref xx), (0, .ref b)]) (kk : ∀ (gh : Nat → Int32) (H : Heap) (locs : List Loc) (ls : Array Slot), XI dC dI gh (fun q : Nat => ¬ B q ∧ s.heap.size ≤ q) cc xx s H → MI dC dI gh B mm s H → (∀ q, B q → q < H.size) → va_S (fun q : Nat => s.heap.size ≤ q) s.heap H locs → H.size ≤ s.heap.size + (N + 3) → lv_has ls 4 [(3, .int ii), (2, .ref mm), (1, .ref xx), (0, .ref b)] → W p l e room_1 s m #[Value.ref b] below meth c H locs (N + 3) SL (lw_Z below #[Value.ref b] s) (F0 m 2425 ls [])) : W p l e room_1 s m #[Value.ref b] below meth c H locs N SL (lw_Z below #[Value.ref b] s) (F0 m 995 ls []) := by
  obtain ⟨hx, hb, hr, hml, hown0, hts, hX, hbl, hlocks, hgv⟩ := id C0
  have hown : s.vm.findClass RL = some m.cls := hown0
  have hbA : ¬ (fun q : Nat => s.heap.size ≤ q) b := Nat.not_le.mpr hbl
  have hAn : ∀ q, (fun q : Nat => ¬ B q ∧ s.heap.size ≤ q) q → s.heap.size ≤ q := fun _ h => h.2
  refine lv_aload_n hx hb dL_law_995 rfl (lv_at hl 2 rfl) ?_
  refine law_ldv (kv := 1) hx hb hX hbl hbA hS hl dL_law_996 dL_law_997 dL_law_998 dL_law_999 dL_law_1000 (by decide) (li_in hi0 hi6 hL (k := 1) (by decide) (by decide)) ?_
  refine va_calli (va_runV (As := [.int (xs (ii + 1).toNatClampNeg)]) (rest := []) ⟨hx, hb, hml, hown, hts⟩ (wX9_just l dC dI gh (fun q : Nat => ¬ B q ∧ s.heap.size ≤ q) cc s.heap.size xx (xs (ii + 1).toNatClampNeg) hAn) (cwV 1 hts gL21_x rfl rfl rfl hd_yX9_just ⟨lel 3 2048 rfl, lel 65 84000 rfl⟩) ⟨PX_fb, XI.recv hXI, PX_use hXI hN hX1 (Nat.le_refl _) hS (fun _ h => h) (fun q h => ⟨fun z => absurd (hBb q z) (Nat.not_lt.mpr h), Nat.le_trans hS.1 h⟩)⟩ rfl rfl hl.1 rfl (lv_room (Nat.le_of_ble_eq_true rfl)) dL_law_1001 ⟨(show N + 0 ≤ (600000 : Nat) from by omega), (show SL + 0 ≤ (7302250 : Nat) from by omega)⟩) hS (fun q _ h => h.2) (fun q h => h.2) (fun rx _ t H1 locs1 ht hvm hprx hB1 hz1 hk1 hS1 => ?_)
  have hXq := hB1.1
  rw [ht] at hXq
  have hMI := MI.kept (fun q h1 h2 => hk1 q h1 (fun z => z.1 h2)) hMI
  have hXI := XI.moved hvm.symm hXq
  have hBb : ∀ q, B q → q < H1.size := fun q h => Nat.lt_of_lt_of_le (hBb q h) hz1
  refine W.know (fun hkn => ?_)
  have hsz1 := hkn.2
  clear hB1 hk1 hz1 hkn hXq
  have hS := hS1
  clear hS1
  obtain ⟨H, eH⟩ : ∃ h : Heap, h = H1 := ⟨_, rfl⟩
  rw [← eH] at hXI hMI hBb hS hsz1 ⊢
  refine lv_pop hx hb dL_law_1004 rfl ?_
  refine lv_aload_n hx hb dL_law_1005 rfl (lv_at hl 1 rfl) ?_
  refine law_ldv (kv := 1) hx hb hX hbl hbA hS hl dL_law_1006 dL_law_1007 dL_law_1008 dL_law_1009 dL_law_1010 (by decide) (li_in hi0 hi6 hL (k := 1) (by decide) (by decide)) ?_
  refine va_calli (va_runV (As := [.int (xs (ii + 1).toNatClampNeg)]) (rest := []) ⟨hx, hb, hml, hown, hts⟩ (wX10_just l dC dI gh B (tot H) s.heap.size mm (xs (ii + 1).toNatClampNeg) hB) (cwV 1 hts gL21_m rfl rfl rfl hd_yX10_just ⟨lel 3 2048 rfl, lel 69 84000 rfl⟩) ⟨PM_fb, MI.recv hMI, PM_use hMI (Nat.le_refl _) hN hX1 (Nat.le_refl _) hS (fun _ h => h) (fun q h z => absurd (hBb q z) (Nat.not_lt.mpr h))⟩ rfl rfl hl.1 rfl (lv_room (Nat.le_of_ble_eq_true rfl)) dL_law_1011 ⟨(show N + 0 + 0 ≤ (600000 : Nat) from by omega), (show SL + 0 + 0 ≤ (7302250 : Nat) from by omega)⟩) hS (fun q _ h => hB q h) (fun q h => hB q h) (fun rm _ t H1 locs1 ht hvm hprm hB1 hz1 hk1 hS1 => ?_)
  have hXq := hB1.1
  rw [ht] at hXq
  have htq := hB1.2.1
  rw [ht] at htq
  have hXI := XI.kept htq (fun q h1 h2 => hk1 q h1 (fun z => h2.1 z)) hXI
  have hMI := MI.moved hvm.symm hXq
  have hBb : ∀ q, B q → q < H1.size := fun q h => Nat.lt_of_lt_of_le (hBb q h) hz1
  refine W.know (fun hkn => ?_)
  have hsz1 := hkn.2
  clear hB1 hk1 hz1 hkn hXq
  have hS := hS1
  clear hS1
  obtain ⟨H, eH⟩ : ∃ h : Heap, h = H1 := ⟨_, rfl⟩
  rw [← eH] at hXI hMI hBb hS hsz1 ⊢
  refine lv_pop hx hb dL_law_1014 rfl ?_
  refine lv_goto (tgt := 2425) hx hb dL_law_1015 (by decide) ?_
  refine W.tight (n := SL) (by have q9 := XI.tot hXI; omega) ?_
  refine W.widen (k := N + 3) (n := SL) (by omega) (Nat.le_refl _) ?_
  exact kk _ _ _ _ hXI hMI hBb hS (by omega) hl
theorem gL22_x : GoodIn lw_tbl (wsV RL 107 RX9 yX9_so uX9_so) := gin_V tbq_3_161 tbq_3_162 tbq_3_163 tbq_1_1 tw_uX9_so guX9_so
theorem gL22_m : GoodIn lw_tbl (wsV RL 110 RX10 yX10_so uX10_so) := gin_V tbq_7_27 tbq_7_28 tbq_7_29 tbq_1_9 tw_uX10_so guX10_so
set_option maxHeartbeats 4000000 in
set_option maxRecDepth 100000 in
theorem law_c22 {p : Program} {e : Env} {s : State} {m : MethodId} {below : List Frame} {meth : Method} {c : Code} (l : Launch) {b L : Nat} {xs : Nat → Int32} (hL : L ≤ 3072) (C0 : lw_At p s m meth c b L xs) (dC : Nat → ClassId) (dI : Nat → Nat → Nat) (gh : Nat → Int32) (B : Nat → Prop) (cc SL xx mm : Nat) (hB : ∀ q, B q → s.heap.size ≤ q) (hcc : cc = tot s.heap + SL) (hSL : SL ≤ 5000000) (hN : nst s) (hX1 : sx s.heap.size s) {ii : Int32} {N : Nat} (hi0 : 0 ≤ ii.toInt) (hi6 : ii.toInt + 6 ≤ (L : Int)) (hNN : N ≤ 100000) {H : Heap} {locs : List Loc} {ls : Array Slot} (hXI : XI dC dI gh (fun q : Nat => ¬ B q ∧ s.heap.size ≤ q) cc xx s H) (hMI : MI dC dI gh B mm s H) (hBb : ∀ q, B q → q < H.size) (hS : va_S (fun q : Nat => s.heap.size ≤ q) s.heap H locs) (hl : lv_has ls 4 [(3, .int ii), (2, .ref mm), (1, .ref xx), (0, .ref b)]) (kk : ∀ (gh : Nat → Int32) (H : Heap) (locs : List Loc) (ls : Array Slot), XI dC dI gh (fun q : Nat => ¬ B q ∧ s.heap.size ≤ q) cc xx s H → MI dC dI gh B mm s H → (∀ q, B q → q < H.size) → va_S (fun q : Nat => s.heap.size ≤ q) s.heap H locs → H.size ≤ s.heap.size + (N + 3) → lv_has ls 4 [(3, .int ii), (2, .ref mm), (1, .ref xx), (0, .ref b)] → W p l e room_1 s m #[Value.ref b] below meth c H locs (N + 3) SL (lw_Z below #[Value.ref b] s) (F0 m 2425 ls [])) : W p l e room_1 s m #[Value.ref b] below meth c H locs N SL (lw_Z below #[Value.ref b] s) (F0 m 1018 ls []) := by
  obtain ⟨hx, hb, hr, hml, hown0, hts, hX, hbl, hlocks, hgv⟩ := id C0
  have hown : s.vm.findClass RL = some m.cls := hown0
  have hbA : ¬ (fun q : Nat => s.heap.size ≤ q) b := Nat.not_le.mpr hbl
  have hAn : ∀ q, (fun q : Nat => ¬ B q ∧ s.heap.size ≤ q) q → s.heap.size ≤ q := fun _ h => h.2
  refine lv_aload_n hx hb dL_law_1018 rfl (lv_at hl 2 rfl) ?_
  refine law_ldv (kv := 1) hx hb hX hbl hbA hS hl dL_law_1019 dL_law_1020 dL_law_1021 dL_law_1022 dL_law_1023 (by decide) (li_in hi0 hi6 hL (k := 1) (by decide) (by decide)) ?_
  refine va_calli (va_runV (As := [.int (xs (ii + 1).toNatClampNeg)]) (rest := []) ⟨hx, hb, hml, hown, hts⟩ (wX9_so l dC dI gh (fun q : Nat => ¬ B q ∧ s.heap.size ≤ q) cc s.heap.size xx (xs (ii + 1).toNatClampNeg) hAn) (cwV 1 hts gL22_x rfl rfl rfl hd_yX9_so ⟨lel 3 2048 rfl, lel 65 84000 rfl⟩) ⟨PX_fb, XI.recv hXI, PX_use hXI hN hX1 (Nat.le_refl _) hS (fun _ h => h) (fun q h => ⟨fun z => absurd (hBb q z) (Nat.not_lt.mpr h), Nat.le_trans hS.1 h⟩)⟩ rfl rfl hl.1 rfl (lv_room (Nat.le_of_ble_eq_true rfl)) dL_law_1024 ⟨(show N + 0 ≤ (600000 : Nat) from by omega), (show SL + 0 ≤ (7302250 : Nat) from by omega)⟩) hS (fun q _ h => h.2) (fun q h => h.2) (fun rx _ t H1 locs1 ht hvm hprx hB1 hz1 hk1 hS1 => ?_)
  have hXq := hB1.1
  rw [ht] at hXq
  have hMI := MI.kept (fun q h1 h2 => hk1 q h1 (fun z => z.1 h2)) hMI
  have hXI := XI.moved hvm.symm hXq
  have hBb : ∀ q, B q → q < H1.size := fun q h => Nat.lt_of_lt_of_le (hBb q h) hz1
  refine W.know (fun hkn => ?_)
  have hsz1 := hkn.2
  clear hB1 hk1 hz1 hkn hXq
  have hS := hS1
  clear hS1
  obtain ⟨H, eH⟩ : ∃ h : Heap, h = H1 := ⟨_, rfl⟩
  rw [← eH] at hXI hMI hBb hS hsz1 ⊢
  refine lv_pop hx hb dL_law_1027 rfl ?_
  refine lv_aload_n hx hb dL_law_1028 rfl (lv_at hl 1 rfl) ?_
  refine law_ldv (kv := 1) hx hb hX hbl hbA hS hl dL_law_1029 dL_law_1030 dL_law_1031 dL_law_1032 dL_law_1033 (by decide) (li_in hi0 hi6 hL (k := 1) (by decide) (by decide)) ?_
  refine va_calli (va_runV (As := [.int (xs (ii + 1).toNatClampNeg)]) (rest := []) ⟨hx, hb, hml, hown, hts⟩ (wX10_so l dC dI gh B (tot H) s.heap.size mm (xs (ii + 1).toNatClampNeg) hB) (cwV 1 hts gL22_m rfl rfl rfl hd_yX10_so ⟨lel 2 2048 rfl, lel 48 84000 rfl⟩) ⟨PM_fb, MI.recv hMI, PM_use hMI (Nat.le_refl _) hN hX1 (Nat.le_refl _) hS (fun _ h => h) (fun q h z => absurd (hBb q z) (Nat.not_lt.mpr h))⟩ rfl rfl hl.1 rfl (lv_room (Nat.le_of_ble_eq_true rfl)) dL_law_1034 ⟨(show N + 0 + 0 ≤ (600000 : Nat) from by omega), (show SL + 0 + 0 ≤ (7302250 : Nat) from by omega)⟩) hS (fun q _ h => hB q h) (fun q h => hB q h) (fun rm _ t H1 locs1 ht hvm hprm hB1 hz1 hk1 hS1 => ?_)
  have hXq := hB1.1
  rw [ht] at hXq
  have htq := hB1.2.1
  rw [ht] at htq
  have hXI := XI.kept htq (fun q h1 h2 => hk1 q h1 (fun z => h2.1 z)) hXI
  have hMI := MI.moved hvm.symm hXq
  have hBb : ∀ q, B q → q < H1.size := fun q h => Nat.lt_of_lt_of_le (hBb q h) hz1
  refine W.know (fun hkn => ?_)
  have hsz1 := hkn.2
  clear hB1 hk1 hz1 hkn hXq
  have hS := hS1
  clear hS1
  obtain ⟨H, eH⟩ : ∃ h : Heap, h = H1 := ⟨_, rfl⟩
  rw [← eH] at hXI hMI hBb hS hsz1 ⊢
  refine lv_pop hx hb dL_law_1037 rfl ?_
  refine lv_goto (tgt := 2425) hx hb dL_law_1038 (by decide) ?_
  refine W.tight (n := SL) (by have q9 := XI.tot hXI; omega) ?_
  refine W.widen (k := N + 3) (n := SL) (by omega) (Nat.le_refl _) ?_
  exact kk _ _ _ _ hXI hMI hBb hS (by omega) hl
theorem gL23_x : GoodIn lw_tbl (wsV RL 111 RX9 yX9_alike uX9_alike) := gin_V tbq_3_167 tbq_3_168 tbq_3_169 tbq_1_1 tw_uX9_alike guX9_alike
theorem gL23_m : GoodIn lw_tbl (wsV RL 114 RX10 yX10_alike uX10_alike) := gin_V tbq_7_35 tbq_7_36 tbq_7_37 tbq_1_9 tw_uX10_alike guX10_alike
set_option maxHeartbeats 4000000 in
set_option maxRecDepth 100000 in
theorem law_c23 {p : Program} {e : Env} {s : State} {m : MethodId} {below : List Frame} {meth : Method} {c : Code} (l : Launch) {b L : Nat} {xs : Nat → Int32} (hL : L ≤ 3072) (C0 : lw_At p s m meth c b L xs) (dC : Nat → ClassId) (dI : Nat → Nat → Nat) (gh : Nat → Int32) (B : Nat → Prop) (cc SL xx mm : Nat) (hB : ∀ q, B q → s.heap.size ≤ q) (hcc : cc = tot s.heap + SL) (hSL : SL ≤ 5000000) (hN : nst s) (hX1 : sx s.heap.size s) {ii : Int32} {N : Nat} (hi0 : 0 ≤ ii.toInt) (hi6 : ii.toInt + 6 ≤ (L : Int)) (hNN : N ≤ 100000) {H : Heap} {locs : List Loc} {ls : Array Slot} (hXI : XI dC dI gh (fun q : Nat => ¬ B q ∧ s.heap.size ≤ q) cc xx s H) (hMI : MI dC dI gh B mm s H) (hBb : ∀ q, B q → q < H.size) (hS : va_S (fun q : Nat => s.heap.size ≤ q) s.heap H locs) (hl : lv_has ls 4 [(3, .int ii), (2, .ref mm), (1, .ref xx), (0, .ref b)]) (kk : ∀ (gh : Nat → Int32) (H : Heap) (locs : List Loc) (ls : Array Slot), XI dC dI gh (fun q : Nat => ¬ B q ∧ s.heap.size ≤ q) cc xx s H → MI dC dI gh B mm s H → (∀ q, B q → q < H.size) → va_S (fun q : Nat => s.heap.size ≤ q) s.heap H locs → H.size ≤ s.heap.size + (N + 3) → lv_has ls 4 [(3, .int ii), (2, .ref mm), (1, .ref xx), (0, .ref b)] → W p l e room_1 s m #[Value.ref b] below meth c H locs (N + 3) SL (lw_Z below #[Value.ref b] s) (F0 m 2425 ls [])) : W p l e room_1 s m #[Value.ref b] below meth c H locs N SL (lw_Z below #[Value.ref b] s) (F0 m 1041 ls []) := by
  obtain ⟨hx, hb, hr, hml, hown0, hts, hX, hbl, hlocks, hgv⟩ := id C0
  have hown : s.vm.findClass RL = some m.cls := hown0
  have hbA : ¬ (fun q : Nat => s.heap.size ≤ q) b := Nat.not_le.mpr hbl
  have hAn : ∀ q, (fun q : Nat => ¬ B q ∧ s.heap.size ≤ q) q → s.heap.size ≤ q := fun _ h => h.2
  refine lv_aload_n hx hb dL_law_1041 rfl (lv_at hl 2 rfl) ?_
  refine law_ldv (kv := 1) hx hb hX hbl hbA hS hl dL_law_1042 dL_law_1043 dL_law_1044 dL_law_1045 dL_law_1046 (by decide) (li_in hi0 hi6 hL (k := 1) (by decide) (by decide)) ?_
  refine law_ldv (kv := 2) hx hb hX hbl hbA hS hl dL_law_1047 dL_law_1048 dL_law_1049 dL_law_1050 dL_law_1051 (by decide) (li_in hi0 hi6 hL (k := 2) (by decide) (by decide)) ?_
  refine va_calli (va_runV (As := [.int (xs (ii + 1).toNatClampNeg), .int (xs (ii + 2).toNatClampNeg)]) (rest := []) ⟨hx, hb, hml, hown, hts⟩ (wX9_alike l dC dI gh (fun q : Nat => ¬ B q ∧ s.heap.size ≤ q) cc s.heap.size xx (xs (ii + 1).toNatClampNeg) (xs (ii + 2).toNatClampNeg) hAn) (cwV 2 hts gL23_x rfl rfl rfl hd_yX9_alike ⟨lel 4 2048 rfl, lel 88 84000 rfl⟩) ⟨PX_fb, XI.recv hXI, PX_use hXI hN hX1 (Nat.le_refl _) hS (fun _ h => h) (fun q h => ⟨fun z => absurd (hBb q z) (Nat.not_lt.mpr h), Nat.le_trans hS.1 h⟩)⟩ rfl rfl hl.1 rfl (lv_room (Nat.le_of_ble_eq_true rfl)) dL_law_1052 ⟨(show N + 0 ≤ (600000 : Nat) from by omega), (show SL + 0 ≤ (7302250 : Nat) from by omega)⟩) hS (fun q _ h => h.2) (fun q h => h.2) (fun rx _ t H1 locs1 ht hvm hprx hB1 hz1 hk1 hS1 => ?_)
  have hXq := hB1.1
  rw [ht] at hXq
  have hMI := MI.kept (fun q h1 h2 => hk1 q h1 (fun z => z.1 h2)) hMI
  have hXI := XI.moved hvm.symm hXq
  have hBb : ∀ q, B q → q < H1.size := fun q h => Nat.lt_of_lt_of_le (hBb q h) hz1
  refine W.know (fun hkn => ?_)
  have hsz1 := hkn.2
  clear hB1 hk1 hz1 hkn hXq
  have hS := hS1
  clear hS1
  obtain ⟨H, eH⟩ : ∃ h : Heap, h = H1 := ⟨_, rfl⟩
  rw [← eH] at hXI hMI hBb hS hsz1 ⊢
  refine lv_pop hx hb dL_law_1055 rfl ?_
  refine lv_aload_n hx hb dL_law_1056 rfl (lv_at hl 1 rfl) ?_
  refine law_ldv (kv := 1) hx hb hX hbl hbA hS hl dL_law_1057 dL_law_1058 dL_law_1059 dL_law_1060 dL_law_1061 (by decide) (li_in hi0 hi6 hL (k := 1) (by decide) (by decide)) ?_
  refine law_ldv (kv := 2) hx hb hX hbl hbA hS hl dL_law_1062 dL_law_1063 dL_law_1064 dL_law_1065 dL_law_1066 (by decide) (li_in hi0 hi6 hL (k := 2) (by decide) (by decide)) ?_
  refine va_calli (va_runV (As := [.int (xs (ii + 1).toNatClampNeg), .int (xs (ii + 2).toNatClampNeg)]) (rest := []) ⟨hx, hb, hml, hown, hts⟩ (wX10_alike l dC dI gh B (tot H) s.heap.size mm (xs (ii + 1).toNatClampNeg) (xs (ii + 2).toNatClampNeg) hB) (cwV 2 hts gL23_m rfl rfl rfl hd_yX10_alike ⟨lel 3 2048 rfl, lel 68 84000 rfl⟩) ⟨PM_fb, MI.recv hMI, PM_use hMI (Nat.le_refl _) hN hX1 (Nat.le_refl _) hS (fun _ h => h) (fun q h z => absurd (hBb q z) (Nat.not_lt.mpr h))⟩ rfl rfl hl.1 rfl (lv_room (Nat.le_of_ble_eq_true rfl)) dL_law_1067 ⟨(show N + 0 + 0 ≤ (600000 : Nat) from by omega), (show SL + 0 + 0 ≤ (7302250 : Nat) from by omega)⟩) hS (fun q _ h => hB q h) (fun q h => hB q h) (fun rm _ t H1 locs1 ht hvm hprm hB1 hz1 hk1 hS1 => ?_)
  have hXq := hB1.1
  rw [ht] at hXq
  have htq := hB1.2.1
  rw [ht] at htq
  have hXI := XI.kept htq (fun q h1 h2 => hk1 q h1 (fun z => h2.1 z)) hXI
  have hMI := MI.moved hvm.symm hXq
  have hBb : ∀ q, B q → q < H1.size := fun q h => Nat.lt_of_lt_of_le (hBb q h) hz1
  refine W.know (fun hkn => ?_)
  have hsz1 := hkn.2
  clear hB1 hk1 hz1 hkn hXq
  have hS := hS1
  clear hS1
  obtain ⟨H, eH⟩ : ∃ h : Heap, h = H1 := ⟨_, rfl⟩
  rw [← eH] at hXI hMI hBb hS hsz1 ⊢
  refine lv_pop hx hb dL_law_1070 rfl ?_
  refine lv_goto (tgt := 2425) hx hb dL_law_1071 (by decide) ?_
  refine W.tight (n := SL) (by have q9 := XI.tot hXI; omega) ?_
  refine W.widen (k := N + 3) (n := SL) (by omega) (Nat.le_refl _) ?_
  exact kk _ _ _ _ hXI hMI hBb hS (by omega) hl
theorem gL24_x : GoodIn lw_tbl (wsV RL 115 RX9 yX9_differ uX9_differ) := gin_V tbq_3_176 tbq_3_177 tbq_3_178 tbq_1_1 tw_uX9_differ guX9_differ
theorem gL24_m : GoodIn lw_tbl (wsV RL 118 RX10 yX10_differ uX10_differ) := gin_V tbq_7_43 tbq_7_44 tbq_7_45 tbq_1_9 tw_uX10_differ guX10_differ
set_option maxHeartbeats 4000000 in
set_option maxRecDepth 100000 in
theorem law_c24 {p : Program} {e : Env} {s : State} {m : MethodId} {below : List Frame} {meth : Method} {c : Code} (l : Launch) {b L : Nat} {xs : Nat → Int32} (hL : L ≤ 3072) (C0 : lw_At p s m meth c b L xs) (dC : Nat → ClassId) (dI : Nat → Nat → Nat) (gh : Nat → Int32) (B : Nat → Prop) (cc SL xx mm : Nat) (hB : ∀ q, B q → s.heap.size ≤ q) (hcc : cc = tot s.heap + SL) (hSL : SL ≤ 5000000) (hN : nst s) (hX1 : sx s.heap.size s) {ii : Int32} {N : Nat} (hi0 : 0 ≤ ii.toInt) (hi6 : ii.toInt + 6 ≤ (L : Int)) (hNN : N ≤ 100000) {H : Heap} {locs : List Loc} {ls : Array Slot} (hXI : XI dC dI gh (fun q : Nat => ¬ B q ∧ s.heap.size ≤ q) cc xx s H) (hMI : MI dC dI gh B mm s H) (hBb : ∀ q, B q → q < H.size) (hS : va_S (fun q : Nat => s.heap.size ≤ q) s.heap H locs) (hl : lv_has ls 4 [(3, .int ii), (2, .ref mm), (1, .ref xx), (0, .ref b)]) (kk : ∀ (gh : Nat → Int32) (H : Heap) (locs : List Loc) (ls : Array Slot), XI dC dI gh (fun q : Nat => ¬ B q ∧ s.heap.size ≤ q) cc xx s H → MI dC dI gh B mm s H → (∀ q, B q → q < H.size) → va_S (fun q : Nat => s.heap.size ≤ q) s.heap H locs → H.size ≤ s.heap.size + (N + 3) → lv_has ls 4 [(3, .int ii), (2, .ref mm), (1, .ref xx), (0, .ref b)] → W p l e room_1 s m #[Value.ref b] below meth c H locs (N + 3) SL (lw_Z below #[Value.ref b] s) (F0 m 2425 ls [])) : W p l e room_1 s m #[Value.ref b] below meth c H locs N SL (lw_Z below #[Value.ref b] s) (F0 m 1074 ls []) := by
  obtain ⟨hx, hb, hr, hml, hown0, hts, hX, hbl, hlocks, hgv⟩ := id C0
  have hown : s.vm.findClass RL = some m.cls := hown0
  have hbA : ¬ (fun q : Nat => s.heap.size ≤ q) b := Nat.not_le.mpr hbl
  have hAn : ∀ q, (fun q : Nat => ¬ B q ∧ s.heap.size ≤ q) q → s.heap.size ≤ q := fun _ h => h.2
  refine lv_aload_n hx hb dL_law_1074 rfl (lv_at hl 2 rfl) ?_
  refine law_ldv (kv := 1) hx hb hX hbl hbA hS hl dL_law_1075 dL_law_1076 dL_law_1077 dL_law_1078 dL_law_1079 (by decide) (li_in hi0 hi6 hL (k := 1) (by decide) (by decide)) ?_
  refine law_ldv (kv := 2) hx hb hX hbl hbA hS hl dL_law_1080 dL_law_1081 dL_law_1082 dL_law_1083 dL_law_1084 (by decide) (li_in hi0 hi6 hL (k := 2) (by decide) (by decide)) ?_
  refine va_calli (va_runV (As := [.int (xs (ii + 1).toNatClampNeg), .int (xs (ii + 2).toNatClampNeg)]) (rest := []) ⟨hx, hb, hml, hown, hts⟩ (wX9_differ l dC dI gh (fun q : Nat => ¬ B q ∧ s.heap.size ≤ q) cc s.heap.size xx (xs (ii + 1).toNatClampNeg) (xs (ii + 2).toNatClampNeg) hAn) (cwV 2 hts gL24_x rfl rfl rfl hd_yX9_differ ⟨lel 4 2048 rfl, lel 88 84000 rfl⟩) ⟨PX_fb, XI.recv hXI, PX_use hXI hN hX1 (Nat.le_refl _) hS (fun _ h => h) (fun q h => ⟨fun z => absurd (hBb q z) (Nat.not_lt.mpr h), Nat.le_trans hS.1 h⟩)⟩ rfl rfl hl.1 rfl (lv_room (Nat.le_of_ble_eq_true rfl)) dL_law_1085 ⟨(show N + 0 ≤ (600000 : Nat) from by omega), (show SL + 0 ≤ (7302250 : Nat) from by omega)⟩) hS (fun q _ h => h.2) (fun q h => h.2) (fun rx _ t H1 locs1 ht hvm hprx hB1 hz1 hk1 hS1 => ?_)
  have hXq := hB1.1
  rw [ht] at hXq
  have hMI := MI.kept (fun q h1 h2 => hk1 q h1 (fun z => z.1 h2)) hMI
  have hXI := XI.moved hvm.symm hXq
  have hBb : ∀ q, B q → q < H1.size := fun q h => Nat.lt_of_lt_of_le (hBb q h) hz1
  refine W.know (fun hkn => ?_)
  have hsz1 := hkn.2
  clear hB1 hk1 hz1 hkn hXq
  have hS := hS1
  clear hS1
  obtain ⟨H, eH⟩ : ∃ h : Heap, h = H1 := ⟨_, rfl⟩
  rw [← eH] at hXI hMI hBb hS hsz1 ⊢
  refine lv_pop hx hb dL_law_1088 rfl ?_
  refine lv_aload_n hx hb dL_law_1089 rfl (lv_at hl 1 rfl) ?_
  refine law_ldv (kv := 1) hx hb hX hbl hbA hS hl dL_law_1090 dL_law_1091 dL_law_1092 dL_law_1093 dL_law_1094 (by decide) (li_in hi0 hi6 hL (k := 1) (by decide) (by decide)) ?_
  refine law_ldv (kv := 2) hx hb hX hbl hbA hS hl dL_law_1095 dL_law_1096 dL_law_1097 dL_law_1098 dL_law_1099 (by decide) (li_in hi0 hi6 hL (k := 2) (by decide) (by decide)) ?_
  refine va_calli (va_runV (As := [.int (xs (ii + 1).toNatClampNeg), .int (xs (ii + 2).toNatClampNeg)]) (rest := []) ⟨hx, hb, hml, hown, hts⟩ (wX10_differ l dC dI gh B (tot H) s.heap.size mm (xs (ii + 1).toNatClampNeg) (xs (ii + 2).toNatClampNeg) hB) (cwV 2 hts gL24_m rfl rfl rfl hd_yX10_differ ⟨lel 3 2048 rfl, lel 68 84000 rfl⟩) ⟨PM_fb, MI.recv hMI, PM_use hMI (Nat.le_refl _) hN hX1 (Nat.le_refl _) hS (fun _ h => h) (fun q h z => absurd (hBb q z) (Nat.not_lt.mpr h))⟩ rfl rfl hl.1 rfl (lv_room (Nat.le_of_ble_eq_true rfl)) dL_law_1100 ⟨(show N + 0 + 0 ≤ (600000 : Nat) from by omega), (show SL + 0 + 0 ≤ (7302250 : Nat) from by omega)⟩) hS (fun q _ h => hB q h) (fun q h => hB q h) (fun rm _ t H1 locs1 ht hvm hprm hB1 hz1 hk1 hS1 => ?_)
  have hXq := hB1.1
  rw [ht] at hXq
  have htq := hB1.2.1
  rw [ht] at htq
  have hXI := XI.kept htq (fun q h1 h2 => hk1 q h1 (fun z => h2.1 z)) hXI
  have hMI := MI.moved hvm.symm hXq
  have hBb : ∀ q, B q → q < H1.size := fun q h => Nat.lt_of_lt_of_le (hBb q h) hz1
  refine W.know (fun hkn => ?_)
  have hsz1 := hkn.2
  clear hB1 hk1 hz1 hkn hXq
  have hS := hS1
  clear hS1
  obtain ⟨H, eH⟩ : ∃ h : Heap, h = H1 := ⟨_, rfl⟩
  rw [← eH] at hXI hMI hBb hS hsz1 ⊢
  refine lv_pop hx hb dL_law_1103 rfl ?_
  refine lv_goto (tgt := 2425) hx hb dL_law_1104 (by decide) ?_
  refine W.tight (n := SL) (by have q9 := XI.tot hXI; omega) ?_
  refine W.widen (k := N + 3) (n := SL) (by omega) (Nat.le_refl _) ?_
  exact kk _ _ _ _ hXI hMI hBb hS (by omega) hl
theorem gL25_x : GoodIn lw_tbl (wsV RL 119 RX9 yX9_worn uX9_worn) := gin_V tbq_3_180 tbq_3_181 tbq_3_182 tbq_1_1 tw_uX9_worn guX9_worn
theorem gL25_m : GoodIn lw_tbl (wsV RL 122 RX10 yX10_worn uX10_worn) := gin_V tbq_7_47 tbq_7_48 tbq_7_49 tbq_1_9 tw_uX10_worn guX10_worn
set_option maxHeartbeats 4000000 in
set_option maxRecDepth 100000 in
theorem law_c25 {p : Program} {e : Env} {s : State} {m : MethodId} {below : List Frame} {meth : Method} {c : Code} (l : Launch) {b L : Nat} {xs : Nat → Int32} (hL : L ≤ 3072) (C0 : lw_At p s m meth c b L xs) (dC : Nat → ClassId) (dI : Nat → Nat → Nat) (gh : Nat → Int32) (B : Nat → Prop) (cc SL xx mm : Nat) (hB : ∀ q, B q → s.heap.size ≤ q) (hcc : cc = tot s.heap + SL) (hSL : SL ≤ 5000000) (hN : nst s) (hX1 : sx s.heap.size s) {ii : Int32} {N : Nat} (hi0 : 0 ≤ ii.toInt) (hi6 : ii.toInt + 6 ≤ (L : Int)) (hNN : N ≤ 100000) {H : Heap} {locs : List Loc} {ls : Array Slot} (hXI : XI dC dI gh (fun q : Nat => ¬ B q ∧ s.heap.size ≤ q) cc xx s H) (hMI : MI dC dI gh B mm s H) (hBb : ∀ q, B q → q < H.size) (hS : va_S (fun q : Nat => s.heap.size ≤ q) s.heap H locs) (hl : lv_has ls 4 [(3, .int ii), (2, .ref mm), (1, .ref xx), (0, .ref b)]) (kk : ∀ (gh : Nat → Int32) (H : Heap) (locs : List Loc) (ls : Array Slot), XI dC dI gh (fun q : Nat => ¬ B q ∧ s.heap.size ≤ q) cc xx s H → MI dC dI gh B mm s H → (∀ q, B q → q < H.size) → va_S (fun q : Nat => s.heap.size ≤ q) s.heap H locs → H.size ≤ s.heap.size + (N + 3) → lv_has ls 4 [(3, .int ii), (2, .ref mm), (1, .ref xx), (0, .ref b)] → W p l e room_1 s m #[Value.ref b] below meth c H locs (N + 3) SL (lw_Z below #[Value.ref b] s) (F0 m 2425 ls [])) : W p l e room_1 s m #[Value.ref b] below meth c H locs N SL (lw_Z below #[Value.ref b] s) (F0 m 1107 ls []) := by
  obtain ⟨hx, hb, hr, hml, hown0, hts, hX, hbl, hlocks, hgv⟩ := id C0
  have hown : s.vm.findClass RL = some m.cls := hown0
  have hbA : ¬ (fun q : Nat => s.heap.size ≤ q) b := Nat.not_le.mpr hbl
  have hAn : ∀ q, (fun q : Nat => ¬ B q ∧ s.heap.size ≤ q) q → s.heap.size ≤ q := fun _ h => h.2
  refine lv_aload_n hx hb dL_law_1107 rfl (lv_at hl 2 rfl) ?_
  refine law_ldv (kv := 1) hx hb hX hbl hbA hS hl dL_law_1108 dL_law_1109 dL_law_1110 dL_law_1111 dL_law_1112 (by decide) (li_in hi0 hi6 hL (k := 1) (by decide) (by decide)) ?_
  refine law_ldv (kv := 2) hx hb hX hbl hbA hS hl dL_law_1113 dL_law_1114 dL_law_1115 dL_law_1116 dL_law_1117 (by decide) (li_in hi0 hi6 hL (k := 2) (by decide) (by decide)) ?_
  refine law_ldv (kv := 3) hx hb hX hbl hbA hS hl dL_law_1118 dL_law_1119 dL_law_1120 dL_law_1121 dL_law_1122 (by decide) (li_in hi0 hi6 hL (k := 3) (by decide) (by decide)) ?_
  refine va_calli (va_runV (As := [.int (xs (ii + 1).toNatClampNeg), .int (xs (ii + 2).toNatClampNeg), .int (xs (ii + 3).toNatClampNeg)]) (rest := []) ⟨hx, hb, hml, hown, hts⟩ (wX9_worn l dC dI gh (fun q : Nat => ¬ B q ∧ s.heap.size ≤ q) cc s.heap.size xx (xs (ii + 1).toNatClampNeg) (xs (ii + 2).toNatClampNeg) (xs (ii + 3).toNatClampNeg) hAn) (cwV 3 hts gL25_x rfl rfl rfl hd_yX9_worn ⟨lel 5 2048 rfl, lel 124 84000 rfl⟩) ⟨PX_fb, XI.recv hXI, PX_use hXI hN hX1 (Nat.le_refl _) hS (fun _ h => h) (fun q h => ⟨fun z => absurd (hBb q z) (Nat.not_lt.mpr h), Nat.le_trans hS.1 h⟩)⟩ rfl rfl hl.1 rfl (lv_room (Nat.le_of_ble_eq_true rfl)) dL_law_1123 ⟨(show N + 0 ≤ (600000 : Nat) from by omega), (show SL + 0 ≤ (7302250 : Nat) from by omega)⟩) hS (fun q _ h => h.2) (fun q h => h.2) (fun rx _ t H1 locs1 ht hvm hprx hB1 hz1 hk1 hS1 => ?_)
  have hXq := hB1.1
  rw [ht] at hXq
  have hMI := MI.kept (fun q h1 h2 => hk1 q h1 (fun z => z.1 h2)) hMI
  have hXI := XI.moved hvm.symm hXq
  have hBb : ∀ q, B q → q < H1.size := fun q h => Nat.lt_of_lt_of_le (hBb q h) hz1
  refine W.know (fun hkn => ?_)
  have hsz1 := hkn.2
  clear hB1 hk1 hz1 hkn hXq
  have hS := hS1
  clear hS1
  obtain ⟨H, eH⟩ : ∃ h : Heap, h = H1 := ⟨_, rfl⟩
  rw [← eH] at hXI hMI hBb hS hsz1 ⊢
  refine lv_pop hx hb dL_law_1126 rfl ?_
  refine lv_aload_n hx hb dL_law_1127 rfl (lv_at hl 1 rfl) ?_
  refine law_ldv (kv := 1) hx hb hX hbl hbA hS hl dL_law_1128 dL_law_1129 dL_law_1130 dL_law_1131 dL_law_1132 (by decide) (li_in hi0 hi6 hL (k := 1) (by decide) (by decide)) ?_
  refine law_ldv (kv := 2) hx hb hX hbl hbA hS hl dL_law_1133 dL_law_1134 dL_law_1135 dL_law_1136 dL_law_1137 (by decide) (li_in hi0 hi6 hL (k := 2) (by decide) (by decide)) ?_
  refine law_ldv (kv := 3) hx hb hX hbl hbA hS hl dL_law_1138 dL_law_1139 dL_law_1140 dL_law_1141 dL_law_1142 (by decide) (li_in hi0 hi6 hL (k := 3) (by decide) (by decide)) ?_
  refine va_calli (va_runV (As := [.int (xs (ii + 1).toNatClampNeg), .int (xs (ii + 2).toNatClampNeg), .int (xs (ii + 3).toNatClampNeg)]) (rest := []) ⟨hx, hb, hml, hown, hts⟩ (wX10_worn l dC dI gh B (tot H) s.heap.size mm (xs (ii + 1).toNatClampNeg) (xs (ii + 2).toNatClampNeg) (xs (ii + 3).toNatClampNeg) hB) (cwV 3 hts gL25_m rfl rfl rfl hd_yX10_worn ⟨lel 4 2048 rfl, lel 100 84000 rfl⟩) ⟨PM_fb, MI.recv hMI, PM_use hMI (Nat.le_refl _) hN hX1 (Nat.le_refl _) hS (fun _ h => h) (fun q h z => absurd (hBb q z) (Nat.not_lt.mpr h))⟩ rfl rfl hl.1 rfl (lv_room (Nat.le_of_ble_eq_true rfl)) dL_law_1143 ⟨(show N + 0 + 0 ≤ (600000 : Nat) from by omega), (show SL + 0 + 0 ≤ (7302250 : Nat) from by omega)⟩) hS (fun q _ h => hB q h) (fun q h => hB q h) (fun rm _ t H1 locs1 ht hvm hprm hB1 hz1 hk1 hS1 => ?_)
  have hXq := hB1.1
  rw [ht] at hXq
  have htq := hB1.2.1
  rw [ht] at htq
  have hXI := XI.kept htq (fun q h1 h2 => hk1 q h1 (fun z => h2.1 z)) hXI
  have hMI := MI.moved hvm.symm hXq
  have hBb : ∀ q, B q → q < H1.size := fun q h => Nat.lt_of_lt_of_le (hBb q h) hz1
  refine W.know (fun hkn => ?_)
  have hsz1 := hkn.2
  clear hB1 hk1 hz1 hkn hXq
  have hS := hS1
  clear hS1
  obtain ⟨H, eH⟩ : ∃ h : Heap, h = H1 := ⟨_, rfl⟩
  rw [← eH] at hXI hMI hBb hS hsz1 ⊢
  refine lv_pop hx hb dL_law_1146 rfl ?_
  refine lv_goto (tgt := 2425) hx hb dL_law_1147 (by decide) ?_
  refine W.tight (n := SL) (by have q9 := XI.tot hXI; omega) ?_
  refine W.widen (k := N + 3) (n := SL) (by omega) (Nat.le_refl _) ?_
  exact kk _ _ _ _ hXI hMI hBb hS (by omega) hl
theorem gL26_x : GoodIn lw_tbl (wsV RL 123 RX9 yX9_likely uX9_likely) := gin_V tbq_3_235 tbq_3_236 tbq_3_237 tbq_1_1 tw_uX9_likely guX9_likely
theorem gL26_m : GoodIn lw_tbl (wsV RL 126 RX10 yX10_likely uX10_likely) := gin_V tbq_7_67 tbq_7_68 tbq_7_69 tbq_1_9 tw_uX10_likely guX10_likely
set_option maxHeartbeats 4000000 in
set_option maxRecDepth 100000 in
theorem law_c26 {p : Program} {e : Env} {s : State} {m : MethodId} {below : List Frame} {meth : Method} {c : Code} (l : Launch) {b L : Nat} {xs : Nat → Int32} (hL : L ≤ 3072) (C0 : lw_At p s m meth c b L xs) (dC : Nat → ClassId) (dI : Nat → Nat → Nat) (gh : Nat → Int32) (B : Nat → Prop) (cc SL xx mm : Nat) (hB : ∀ q, B q → s.heap.size ≤ q) (hcc : cc = tot s.heap + SL) (hSL : SL ≤ 5000000) (hN : nst s) (hX1 : sx s.heap.size s) {ii : Int32} {N : Nat} (hi0 : 0 ≤ ii.toInt) (hi6 : ii.toInt + 6 ≤ (L : Int)) (hNN : N ≤ 100000) {H : Heap} {locs : List Loc} {ls : Array Slot} (hXI : XI dC dI gh (fun q : Nat => ¬ B q ∧ s.heap.size ≤ q) cc xx s H) (hMI : MI dC dI gh B mm s H) (hBb : ∀ q, B q → q < H.size) (hS : va_S (fun q : Nat => s.heap.size ≤ q) s.heap H locs) (hl : lv_has ls 4 [(3, .int ii), (2, .ref mm), (1, .ref xx), (0, .ref b)]) (kk : ∀ (gh : Nat → Int32) (H : Heap) (locs : List Loc) (ls : Array Slot), XI dC dI gh (fun q : Nat => ¬ B q ∧ s.heap.size ≤ q) cc xx s H → MI dC dI gh B mm s H → (∀ q, B q → q < H.size) → va_S (fun q : Nat => s.heap.size ≤ q) s.heap H locs → H.size ≤ s.heap.size + (N + 3) → lv_has ls 4 [(3, .int ii), (2, .ref mm), (1, .ref xx), (0, .ref b)] → W p l e room_1 s m #[Value.ref b] below meth c H locs (N + 3) SL (lw_Z below #[Value.ref b] s) (F0 m 2425 ls [])) : W p l e room_1 s m #[Value.ref b] below meth c H locs N SL (lw_Z below #[Value.ref b] s) (F0 m 1150 ls []) := by
  obtain ⟨hx, hb, hr, hml, hown0, hts, hX, hbl, hlocks, hgv⟩ := id C0
  have hown : s.vm.findClass RL = some m.cls := hown0
  have hbA : ¬ (fun q : Nat => s.heap.size ≤ q) b := Nat.not_le.mpr hbl
  have hAn : ∀ q, (fun q : Nat => ¬ B q ∧ s.heap.size ≤ q) q → s.heap.size ≤ q := fun _ h => h.2
  refine lv_aload_n hx hb dL_law_1150 rfl (lv_at hl 2 rfl) ?_
  refine law_ldv (kv := 1) hx hb hX hbl hbA hS hl dL_law_1151 dL_law_1152 dL_law_1153 dL_law_1154 dL_law_1155 (by decide) (li_in hi0 hi6 hL (k := 1) (by decide) (by decide)) ?_
  refine law_ldv (kv := 2) hx hb hX hbl hbA hS hl dL_law_1156 dL_law_1157 dL_law_1158 dL_law_1159 dL_law_1160 (by decide) (li_in hi0 hi6 hL (k := 2) (by decide) (by decide)) ?_
  refine law_ldv (kv := 3) hx hb hX hbl hbA hS hl dL_law_1161 dL_law_1162 dL_law_1163 dL_law_1164 dL_law_1165 (by decide) (li_in hi0 hi6 hL (k := 3) (by decide) (by decide)) ?_
  refine law_ldv (kv := 4) hx hb hX hbl hbA hS hl dL_law_1166 dL_law_1167 dL_law_1168 dL_law_1169 dL_law_1170 (by decide) (li_in hi0 hi6 hL (k := 4) (by decide) (by decide)) ?_
  refine va_calli (va_runV (As := [.int (xs (ii + 1).toNatClampNeg), .int (xs (ii + 2).toNatClampNeg), .int (xs (ii + 3).toNatClampNeg), .int (xs (ii + 4).toNatClampNeg)]) (rest := []) ⟨hx, hb, hml, hown, hts⟩ (wX9_likely l dC dI gh (fun q : Nat => ¬ B q ∧ s.heap.size ≤ q) cc s.heap.size xx (xs (ii + 1).toNatClampNeg) (xs (ii + 2).toNatClampNeg) (xs (ii + 3).toNatClampNeg) (xs (ii + 4).toNatClampNeg) hAn) (cwV 4 hts gL26_x rfl rfl rfl hd_yX9_likely ⟨lel 5 2048 rfl, lel 127 84000 rfl⟩) ⟨PX_fb, XI.recv hXI, PX_use hXI hN hX1 (Nat.le_refl _) hS (fun _ h => h) (fun q h => ⟨fun z => absurd (hBb q z) (Nat.not_lt.mpr h), Nat.le_trans hS.1 h⟩)⟩ rfl rfl hl.1 rfl (lv_room (Nat.le_of_ble_eq_true rfl)) dL_law_1171 ⟨(show N + 0 ≤ (600000 : Nat) from by omega), (show SL + 0 ≤ (7302250 : Nat) from by omega)⟩) hS (fun q _ h => h.2) (fun q h => h.2) (fun rx _ t H1 locs1 ht hvm hprx hB1 hz1 hk1 hS1 => ?_)
  have hXq := hB1.1
  rw [ht] at hXq
  have hMI := MI.kept (fun q h1 h2 => hk1 q h1 (fun z => z.1 h2)) hMI
  have hXI := XI.moved hvm.symm hXq
  have hBb : ∀ q, B q → q < H1.size := fun q h => Nat.lt_of_lt_of_le (hBb q h) hz1
  refine W.know (fun hkn => ?_)
  have hsz1 := hkn.2
  clear hB1 hk1 hz1 hkn hXq
  have hS := hS1
  clear hS1
  obtain ⟨H, eH⟩ : ∃ h : Heap, h = H1 := ⟨_, rfl⟩
  rw [← eH] at hXI hMI hBb hS hsz1 ⊢
  refine lv_pop hx hb dL_law_1174 rfl ?_
  refine lv_aload_n hx hb dL_law_1175 rfl (lv_at hl 1 rfl) ?_
  refine law_ldv (kv := 1) hx hb hX hbl hbA hS hl dL_law_1176 dL_law_1177 dL_law_1178 dL_law_1179 dL_law_1180 (by decide) (li_in hi0 hi6 hL (k := 1) (by decide) (by decide)) ?_
  refine law_ldv (kv := 2) hx hb hX hbl hbA hS hl dL_law_1181 dL_law_1182 dL_law_1183 dL_law_1184 dL_law_1185 (by decide) (li_in hi0 hi6 hL (k := 2) (by decide) (by decide)) ?_
  refine law_ldv (kv := 3) hx hb hX hbl hbA hS hl dL_law_1186 dL_law_1187 dL_law_1188 dL_law_1189 dL_law_1190 (by decide) (li_in hi0 hi6 hL (k := 3) (by decide) (by decide)) ?_
  refine law_ldv (kv := 4) hx hb hX hbl hbA hS hl dL_law_1191 dL_law_1192 dL_law_1193 dL_law_1194 dL_law_1195 (by decide) (li_in hi0 hi6 hL (k := 4) (by decide) (by decide)) ?_
  refine va_calli (va_runV (As := [.int (xs (ii + 1).toNatClampNeg), .int (xs (ii + 2).toNatClampNeg), .int (xs (ii + 3).toNatClampNeg), .int (xs (ii + 4).toNatClampNeg)]) (rest := []) ⟨hx, hb, hml, hown, hts⟩ (wX10_likely l dC dI gh B (tot H) s.heap.size mm (xs (ii + 1).toNatClampNeg) (xs (ii + 2).toNatClampNeg) (xs (ii + 3).toNatClampNeg) (xs (ii + 4).toNatClampNeg) hB) (cwV 4 hts gL26_m rfl rfl rfl hd_yX10_likely ⟨lel 4 2048 rfl, lel 98 84000 rfl⟩) ⟨PM_fb, MI.recv hMI, PM_use hMI (Nat.le_refl _) hN hX1 (Nat.le_refl _) hS (fun _ h => h) (fun q h z => absurd (hBb q z) (Nat.not_lt.mpr h))⟩ rfl rfl hl.1 rfl (lv_room (Nat.le_of_ble_eq_true rfl)) dL_law_1196 ⟨(show N + 0 + 0 ≤ (600000 : Nat) from by omega), (show SL + 0 + 0 ≤ (7302250 : Nat) from by omega)⟩) hS (fun q _ h => hB q h) (fun q h => hB q h) (fun rm _ t H1 locs1 ht hvm hprm hB1 hz1 hk1 hS1 => ?_)
  have hXq := hB1.1
  rw [ht] at hXq
  have htq := hB1.2.1
  rw [ht] at htq
  have hXI := XI.kept htq (fun q h1 h2 => hk1 q h1 (fun z => h2.1 z)) hXI
  have hMI := MI.moved hvm.symm hXq
  have hBb : ∀ q, B q → q < H1.size := fun q h => Nat.lt_of_lt_of_le (hBb q h) hz1
  refine W.know (fun hkn => ?_)
  have hsz1 := hkn.2
  clear hB1 hk1 hz1 hkn hXq
  have hS := hS1
  clear hS1
  obtain ⟨H, eH⟩ : ∃ h : Heap, h = H1 := ⟨_, rfl⟩
  rw [← eH] at hXI hMI hBb hS hsz1 ⊢
  refine lv_pop hx hb dL_law_1199 rfl ?_
  refine lv_goto (tgt := 2425) hx hb dL_law_1200 (by decide) ?_
  refine W.tight (n := SL) (by have q9 := XI.tot hXI; omega) ?_
  refine W.widen (k := N + 3) (n := SL) (by omega) (Nat.le_refl _) ?_
  exact kk _ _ _ _ hXI hMI hBb hS (by omega) hl
theorem gL27_x : GoodIn lw_tbl (wsV RL 127 RX9 yX9_mend uX9_mend) := gin_V tbq_3_239 tbq_4_0 tbq_4_1 tbq_1_1 tw_uX9_mend guX9_mend
theorem gL27_m : GoodIn lw_tbl (wsV RL 130 RX10 yX10_mend uX10_mend) := gin_V tbq_7_71 tbq_7_72 tbq_7_73 tbq_1_9 tw_uX10_mend guX10_mend
set_option maxHeartbeats 4000000 in
set_option maxRecDepth 100000 in
theorem law_c27 {p : Program} {e : Env} {s : State} {m : MethodId} {below : List Frame} {meth : Method} {c : Code} (l : Launch) {b L : Nat} {xs : Nat → Int32} (hL : L ≤ 3072) (C0 : lw_At p s m meth c b L xs) (dC : Nat → ClassId) (dI : Nat → Nat → Nat) (gh : Nat → Int32) (B : Nat → Prop) (cc SL xx mm : Nat) (hB : ∀ q, B q → s.heap.size ≤ q) (hcc : cc = tot s.heap + SL) (hSL : SL ≤ 5000000) (hN : nst s) (hX1 : sx s.heap.size s) {ii : Int32} {N : Nat} (hi0 : 0 ≤ ii.toInt) (hi6 : ii.toInt + 6 ≤ (L : Int)) (hNN : N ≤ 100000) {H : Heap} {locs : List Loc} {ls : Array Slot} (hXI : XI dC dI gh (fun q : Nat => ¬ B q ∧ s.heap.size ≤ q) cc xx s H) (hMI : MI dC dI gh B mm s H) (hBb : ∀ q, B q → q < H.size) (hS : va_S (fun q : Nat => s.heap.size ≤ q) s.heap H locs) (hl : lv_has ls 4 [(3, .int ii), (2, .ref mm), (1, .ref xx), (0, .ref b)]) (kk : ∀ (gh : Nat → Int32) (H : Heap) (locs : List Loc) (ls : Array Slot), XI dC dI gh (fun q : Nat => ¬ B q ∧ s.heap.size ≤ q) cc xx s H → MI dC dI gh B mm s H → (∀ q, B q → q < H.size) → va_S (fun q : Nat => s.heap.size ≤ q) s.heap H locs → H.size ≤ s.heap.size + (N + 3) → lv_has ls 4 [(3, .int ii), (2, .ref mm), (1, .ref xx), (0, .ref b)] → W p l e room_1 s m #[Value.ref b] below meth c H locs (N + 3) SL (lw_Z below #[Value.ref b] s) (F0 m 2425 ls [])) : W p l e room_1 s m #[Value.ref b] below meth c H locs N SL (lw_Z below #[Value.ref b] s) (F0 m 1203 ls []) := by
  obtain ⟨hx, hb, hr, hml, hown0, hts, hX, hbl, hlocks, hgv⟩ := id C0
  have hown : s.vm.findClass RL = some m.cls := hown0
  have hbA : ¬ (fun q : Nat => s.heap.size ≤ q) b := Nat.not_le.mpr hbl
  have hAn : ∀ q, (fun q : Nat => ¬ B q ∧ s.heap.size ≤ q) q → s.heap.size ≤ q := fun _ h => h.2
  refine lv_aload_n hx hb dL_law_1203 rfl (lv_at hl 2 rfl) ?_
  refine law_ldv (kv := 1) hx hb hX hbl hbA hS hl dL_law_1204 dL_law_1205 dL_law_1206 dL_law_1207 dL_law_1208 (by decide) (li_in hi0 hi6 hL (k := 1) (by decide) (by decide)) ?_
  refine law_ldv (kv := 2) hx hb hX hbl hbA hS hl dL_law_1209 dL_law_1210 dL_law_1211 dL_law_1212 dL_law_1213 (by decide) (li_in hi0 hi6 hL (k := 2) (by decide) (by decide)) ?_
  refine va_calli (va_runV (As := [.int (xs (ii + 1).toNatClampNeg), .int (xs (ii + 2).toNatClampNeg)]) (rest := []) ⟨hx, hb, hml, hown, hts⟩ (wX9_mend l dC dI gh (fun q : Nat => ¬ B q ∧ s.heap.size ≤ q) cc s.heap.size xx (xs (ii + 1).toNatClampNeg) (xs (ii + 2).toNatClampNeg) hAn) (cwV 2 hts gL27_x rfl rfl rfl hd_yX9_mend ⟨lel 4 2048 rfl, lel 95 84000 rfl⟩) ⟨PX_fb, XI.recv hXI, PX_use hXI hN hX1 (Nat.le_refl _) hS (fun _ h => h) (fun q h => ⟨fun z => absurd (hBb q z) (Nat.not_lt.mpr h), Nat.le_trans hS.1 h⟩)⟩ rfl rfl hl.1 rfl (lv_room (Nat.le_of_ble_eq_true rfl)) dL_law_1214 ⟨(show N + 0 ≤ (600000 : Nat) from by omega), (show SL + 0 ≤ (7302250 : Nat) from by omega)⟩) hS (fun q _ h => h.2) (fun q h => h.2) (fun rx _ t H1 locs1 ht hvm hprx hB1 hz1 hk1 hS1 => ?_)
  have hXq := hB1.1
  rw [ht] at hXq
  have hMI := MI.kept (fun q h1 h2 => hk1 q h1 (fun z => z.1 h2)) hMI
  have hXI := XI.moved hvm.symm hXq
  have hBb : ∀ q, B q → q < H1.size := fun q h => Nat.lt_of_lt_of_le (hBb q h) hz1
  refine W.know (fun hkn => ?_)
  have hsz1 := hkn.2
  clear hB1 hk1 hz1 hkn hXq
  have hS := hS1
  clear hS1
  obtain ⟨H, eH⟩ : ∃ h : Heap, h = H1 := ⟨_, rfl⟩
  rw [← eH] at hXI hMI hBb hS hsz1 ⊢
  refine lv_pop hx hb dL_law_1217 rfl ?_
  refine lv_aload_n hx hb dL_law_1218 rfl (lv_at hl 1 rfl) ?_
  refine law_ldv (kv := 1) hx hb hX hbl hbA hS hl dL_law_1219 dL_law_1220 dL_law_1221 dL_law_1222 dL_law_1223 (by decide) (li_in hi0 hi6 hL (k := 1) (by decide) (by decide)) ?_
  refine law_ldv (kv := 2) hx hb hX hbl hbA hS hl dL_law_1224 dL_law_1225 dL_law_1226 dL_law_1227 dL_law_1228 (by decide) (li_in hi0 hi6 hL (k := 2) (by decide) (by decide)) ?_
  refine va_calli (va_runV (As := [.int (xs (ii + 1).toNatClampNeg), .int (xs (ii + 2).toNatClampNeg)]) (rest := []) ⟨hx, hb, hml, hown, hts⟩ (wX10_mend l dC dI gh B (tot H) s.heap.size mm (xs (ii + 1).toNatClampNeg) (xs (ii + 2).toNatClampNeg) hB) (cwV 2 hts gL27_m rfl rfl rfl hd_yX10_mend ⟨lel 4 2048 rfl, lel 92 84000 rfl⟩) ⟨PM_fb, MI.recv hMI, PM_use hMI (Nat.le_refl _) hN hX1 (Nat.le_refl _) hS (fun _ h => h) (fun q h z => absurd (hBb q z) (Nat.not_lt.mpr h))⟩ rfl rfl hl.1 rfl (lv_room (Nat.le_of_ble_eq_true rfl)) dL_law_1229 ⟨(show N + 0 + 0 ≤ (600000 : Nat) from by omega), (show SL + 0 + 0 ≤ (7302250 : Nat) from by omega)⟩) hS (fun q _ h => hB q h) (fun q h => hB q h) (fun rm _ t H1 locs1 ht hvm hprm hB1 hz1 hk1 hS1 => ?_)
  have hXq := hB1.1
  rw [ht] at hXq
  have htq := hB1.2.1
  rw [ht] at htq
  have hXI := XI.kept htq (fun q h1 h2 => hk1 q h1 (fun z => h2.1 z)) hXI
  have hMI := MI.moved hvm.symm hXq
  have hBb : ∀ q, B q → q < H1.size := fun q h => Nat.lt_of_lt_of_le (hBb q h) hz1
  refine W.know (fun hkn => ?_)
  have hsz1 := hkn.2
  clear hB1 hk1 hz1 hkn hXq
  have hS := hS1
  clear hS1
  obtain ⟨H, eH⟩ : ∃ h : Heap, h = H1 := ⟨_, rfl⟩
  rw [← eH] at hXI hMI hBb hS hsz1 ⊢
  refine lv_pop hx hb dL_law_1232 rfl ?_
  refine lv_goto (tgt := 2425) hx hb dL_law_1233 (by decide) ?_
  refine W.tight (n := SL) (by have q9 := XI.tot hXI; omega) ?_
  refine W.widen (k := N + 3) (n := SL) (by omega) (Nat.le_refl _) ?_
  exact kk _ _ _ _ hXI hMI hBb hS (by omega) hl
theorem gL28_x : GoodIn lw_tbl (wsV RL 131 RX9 yX9_mended uX9_mended) := gin_V tbq_4_17 tbq_4_18 tbq_4_19 tbq_1_1 tw_uX9_mended guX9_mended
theorem gL28_m : GoodIn lw_tbl (wsV RL 134 RX10 yX10_mended uX10_mended) := gin_V tbq_7_83 tbq_7_84 tbq_7_85 tbq_1_9 tw_uX10_mended guX10_mended
set_option maxHeartbeats 4000000 in
set_option maxRecDepth 100000 in
theorem law_c28 {p : Program} {e : Env} {s : State} {m : MethodId} {below : List Frame} {meth : Method} {c : Code} (l : Launch) {b L : Nat} {xs : Nat → Int32} (hL : L ≤ 3072) (C0 : lw_At p s m meth c b L xs) (dC : Nat → ClassId) (dI : Nat → Nat → Nat) (gh : Nat → Int32) (B : Nat → Prop) (cc SL xx mm : Nat) (hB : ∀ q, B q → s.heap.size ≤ q) (hcc : cc = tot s.heap + SL) (hSL : SL ≤ 5000000) (hN : nst s) (hX1 : sx s.heap.size s) {ii : Int32} {N : Nat} (hi0 : 0 ≤ ii.toInt) (hi6 : ii.toInt + 6 ≤ (L : Int)) (hNN : N ≤ 100000) {H : Heap} {locs : List Loc} {ls : Array Slot} (hXI : XI dC dI gh (fun q : Nat => ¬ B q ∧ s.heap.size ≤ q) cc xx s H) (hMI : MI dC dI gh B mm s H) (hBb : ∀ q, B q → q < H.size) (hS : va_S (fun q : Nat => s.heap.size ≤ q) s.heap H locs) (hl : lv_has ls 4 [(3, .int ii), (2, .ref mm), (1, .ref xx), (0, .ref b)]) (kk : ∀ (gh : Nat → Int32) (H : Heap) (locs : List Loc) (ls : Array Slot), XI dC dI gh (fun q : Nat => ¬ B q ∧ s.heap.size ≤ q) cc xx s H → MI dC dI gh B mm s H → (∀ q, B q → q < H.size) → va_S (fun q : Nat => s.heap.size ≤ q) s.heap H locs → H.size ≤ s.heap.size + (N + 3) → lv_has ls 4 [(3, .int ii), (2, .ref mm), (1, .ref xx), (0, .ref b)] → W p l e room_1 s m #[Value.ref b] below meth c H locs (N + 3) SL (lw_Z below #[Value.ref b] s) (F0 m 2425 ls [])) : W p l e room_1 s m #[Value.ref b] below meth c H locs N SL (lw_Z below #[Value.ref b] s) (F0 m 1236 ls []) := by
  obtain ⟨hx, hb, hr, hml, hown0, hts, hX, hbl, hlocks, hgv⟩ := id C0
  have hown : s.vm.findClass RL = some m.cls := hown0
  have hbA : ¬ (fun q : Nat => s.heap.size ≤ q) b := Nat.not_le.mpr hbl
  have hAn : ∀ q, (fun q : Nat => ¬ B q ∧ s.heap.size ≤ q) q → s.heap.size ≤ q := fun _ h => h.2
  refine lv_aload_n hx hb dL_law_1236 rfl (lv_at hl 2 rfl) ?_
  refine law_ldv (kv := 1) hx hb hX hbl hbA hS hl dL_law_1237 dL_law_1238 dL_law_1239 dL_law_1240 dL_law_1241 (by decide) (li_in hi0 hi6 hL (k := 1) (by decide) (by decide)) ?_
  refine law_ldv (kv := 2) hx hb hX hbl hbA hS hl dL_law_1242 dL_law_1243 dL_law_1244 dL_law_1245 dL_law_1246 (by decide) (li_in hi0 hi6 hL (k := 2) (by decide) (by decide)) ?_
  refine va_calli (va_runV (As := [.int (xs (ii + 1).toNatClampNeg), .int (xs (ii + 2).toNatClampNeg)]) (rest := []) ⟨hx, hb, hml, hown, hts⟩ (wX9_mended l dC dI gh (fun q : Nat => ¬ B q ∧ s.heap.size ≤ q) cc s.heap.size xx (xs (ii + 1).toNatClampNeg) (xs (ii + 2).toNatClampNeg) hAn) (cwV 2 hts gL28_x rfl rfl rfl hd_yX9_mended ⟨lel 4 2048 rfl, lel 99 84000 rfl⟩) ⟨PX_fb, XI.recv hXI, PX_use hXI hN hX1 (Nat.le_refl _) hS (fun _ h => h) (fun q h => ⟨fun z => absurd (hBb q z) (Nat.not_lt.mpr h), Nat.le_trans hS.1 h⟩)⟩ rfl rfl hl.1 rfl (lv_room (Nat.le_of_ble_eq_true rfl)) dL_law_1247 ⟨(show N + 0 ≤ (600000 : Nat) from by omega), (show SL + 0 ≤ (7302250 : Nat) from by omega)⟩) hS (fun q _ h => h.2) (fun q h => h.2) (fun rx _ t H1 locs1 ht hvm hprx hB1 hz1 hk1 hS1 => ?_)
  have hXq := hB1.1
  rw [ht] at hXq
  have hMI := MI.kept (fun q h1 h2 => hk1 q h1 (fun z => z.1 h2)) hMI
  have hXI := XI.moved hvm.symm hXq
  have hBb : ∀ q, B q → q < H1.size := fun q h => Nat.lt_of_lt_of_le (hBb q h) hz1
  refine W.know (fun hkn => ?_)
  have hsz1 := hkn.2
  clear hB1 hk1 hz1 hkn hXq
  have hS := hS1
  clear hS1
  obtain ⟨H, eH⟩ : ∃ h : Heap, h = H1 := ⟨_, rfl⟩
  rw [← eH] at hXI hMI hBb hS hsz1 ⊢
  refine lv_pop hx hb dL_law_1250 rfl ?_
  refine lv_aload_n hx hb dL_law_1251 rfl (lv_at hl 1 rfl) ?_
  refine law_ldv (kv := 1) hx hb hX hbl hbA hS hl dL_law_1252 dL_law_1253 dL_law_1254 dL_law_1255 dL_law_1256 (by decide) (li_in hi0 hi6 hL (k := 1) (by decide) (by decide)) ?_
  refine law_ldv (kv := 2) hx hb hX hbl hbA hS hl dL_law_1257 dL_law_1258 dL_law_1259 dL_law_1260 dL_law_1261 (by decide) (li_in hi0 hi6 hL (k := 2) (by decide) (by decide)) ?_
  refine va_calli (va_runV (As := [.int (xs (ii + 1).toNatClampNeg), .int (xs (ii + 2).toNatClampNeg)]) (rest := []) ⟨hx, hb, hml, hown, hts⟩ (wX10_mended l dC dI gh B (tot H) s.heap.size mm (xs (ii + 1).toNatClampNeg) (xs (ii + 2).toNatClampNeg) hB) (cwV 2 hts gL28_m rfl rfl rfl hd_yX10_mended ⟨lel 4 2048 rfl, lel 91 84000 rfl⟩) ⟨PM_fb, MI.recv hMI, PM_use hMI (Nat.le_refl _) hN hX1 (Nat.le_refl _) hS (fun _ h => h) (fun q h z => absurd (hBb q z) (Nat.not_lt.mpr h))⟩ rfl rfl hl.1 rfl (lv_room (Nat.le_of_ble_eq_true rfl)) dL_law_1262 ⟨(show N + 0 + 0 ≤ (600000 : Nat) from by omega), (show SL + 0 + 0 ≤ (7302250 : Nat) from by omega)⟩) hS (fun q _ h => hB q h) (fun q h => hB q h) (fun rm _ t H1 locs1 ht hvm hprm hB1 hz1 hk1 hS1 => ?_)
  have hXq := hB1.1
  rw [ht] at hXq
  have htq := hB1.2.1
  rw [ht] at htq
  have hXI := XI.kept htq (fun q h1 h2 => hk1 q h1 (fun z => h2.1 z)) hXI
  have hMI := MI.moved hvm.symm hXq
  have hBb : ∀ q, B q → q < H1.size := fun q h => Nat.lt_of_lt_of_le (hBb q h) hz1
  refine W.know (fun hkn => ?_)
  have hsz1 := hkn.2
  clear hB1 hk1 hz1 hkn hXq
  have hS := hS1
  clear hS1
  obtain ⟨H, eH⟩ : ∃ h : Heap, h = H1 := ⟨_, rfl⟩
  rw [← eH] at hXI hMI hBb hS hsz1 ⊢
  refine lv_pop hx hb dL_law_1265 rfl ?_
  refine lv_goto (tgt := 2425) hx hb dL_law_1266 (by decide) ?_
  refine W.tight (n := SL) (by have q9 := XI.tot hXI; omega) ?_
  refine W.widen (k := N + 3) (n := SL) (by omega) (Nat.le_refl _) ?_
  exact kk _ _ _ _ hXI hMI hBb hS (by omega) hl
theorem gL29_x : GoodIn lw_tbl (wsV RL 135 RX9 yX9_nearest uX9_nearest) := gin_V tbq_4_22 tbq_4_23 tbq_4_24 tbq_1_1 tw_uX9_nearest guX9_nearest
theorem gL29_m : GoodIn lw_tbl (wsV RL 138 RX10 yX10_nearest uX10_nearest) := gin_V tbq_7_87 tbq_7_88 tbq_7_89 tbq_1_9 tw_uX10_nearest guX10_nearest
set_option maxHeartbeats 4000000 in
set_option maxRecDepth 100000 in
theorem law_c29 {p : Program} {e : Env} {s : State} {m : MethodId} {below : List Frame} {meth : Method} {c : Code} (l : Launch) {b L : Nat} {xs : Nat → Int32} (hL : L ≤ 3072) (C0 : lw_At p s m meth c b L xs) (dC : Nat → ClassId) (dI : Nat → Nat → Nat) (gh : Nat → Int32) (B : Nat → Prop) (cc SL xx mm : Nat) (hB : ∀ q, B q → s.heap.size ≤ q) (hcc : cc = tot s.heap + SL) (hSL : SL ≤ 5000000) (hN : nst s) (hX1 : sx s.heap.size s) {ii : Int32} {N : Nat} (hi0 : 0 ≤ ii.toInt) (hi6 : ii.toInt + 6 ≤ (L : Int)) (hNN : N ≤ 100000) {H : Heap} {locs : List Loc} {ls : Array Slot} (hXI : XI dC dI gh (fun q : Nat => ¬ B q ∧ s.heap.size ≤ q) cc xx s H) (hMI : MI dC dI gh B mm s H) (hBb : ∀ q, B q → q < H.size) (hS : va_S (fun q : Nat => s.heap.size ≤ q) s.heap H locs) (hl : lv_has ls 4 [(3, .int ii), (2, .ref mm), (1, .ref xx), (0, .ref b)]) (kk : ∀ (gh : Nat → Int32) (H : Heap) (locs : List Loc) (ls : Array Slot), XI dC dI gh (fun q : Nat => ¬ B q ∧ s.heap.size ≤ q) cc xx s H → MI dC dI gh B mm s H → (∀ q, B q → q < H.size) → va_S (fun q : Nat => s.heap.size ≤ q) s.heap H locs → H.size ≤ s.heap.size + (N + 3) → lv_has ls 4 [(3, .int ii), (2, .ref mm), (1, .ref xx), (0, .ref b)] → W p l e room_1 s m #[Value.ref b] below meth c H locs (N + 3) SL (lw_Z below #[Value.ref b] s) (F0 m 2425 ls [])) : W p l e room_1 s m #[Value.ref b] below meth c H locs N SL (lw_Z below #[Value.ref b] s) (F0 m 1269 ls []) := by
  obtain ⟨hx, hb, hr, hml, hown0, hts, hX, hbl, hlocks, hgv⟩ := id C0
  have hown : s.vm.findClass RL = some m.cls := hown0
  have hbA : ¬ (fun q : Nat => s.heap.size ≤ q) b := Nat.not_le.mpr hbl
  have hAn : ∀ q, (fun q : Nat => ¬ B q ∧ s.heap.size ≤ q) q → s.heap.size ≤ q := fun _ h => h.2
  refine lv_aload_n hx hb dL_law_1269 rfl (lv_at hl 2 rfl) ?_
  refine law_ldv (kv := 1) hx hb hX hbl hbA hS hl dL_law_1270 dL_law_1271 dL_law_1272 dL_law_1273 dL_law_1274 (by decide) (li_in hi0 hi6 hL (k := 1) (by decide) (by decide)) ?_
  refine law_ldv (kv := 2) hx hb hX hbl hbA hS hl dL_law_1275 dL_law_1276 dL_law_1277 dL_law_1278 dL_law_1279 (by decide) (li_in hi0 hi6 hL (k := 2) (by decide) (by decide)) ?_
  refine va_calli (va_runV (As := [.int (xs (ii + 1).toNatClampNeg), .int (xs (ii + 2).toNatClampNeg)]) (rest := []) ⟨hx, hb, hml, hown, hts⟩ (wX9_nearest l dC dI gh (fun q : Nat => ¬ B q ∧ s.heap.size ≤ q) cc s.heap.size xx (xs (ii + 1).toNatClampNeg) (xs (ii + 2).toNatClampNeg) hAn) (cwV 2 hts gL29_x rfl rfl rfl hd_yX9_nearest ⟨lel 3 2048 rfl, lel 69 84000 rfl⟩) ⟨PX_fb, XI.recv hXI, PX_use hXI hN hX1 (Nat.le_refl _) hS (fun _ h => h) (fun q h => ⟨fun z => absurd (hBb q z) (Nat.not_lt.mpr h), Nat.le_trans hS.1 h⟩)⟩ rfl rfl hl.1 rfl (lv_room (Nat.le_of_ble_eq_true rfl)) dL_law_1280 ⟨(show N + 0 ≤ (600000 : Nat) from by omega), (show SL + 0 ≤ (7302250 : Nat) from by omega)⟩) hS (fun q _ h => h.2) (fun q h => h.2) (fun rx _ t H1 locs1 ht hvm hprx hB1 hz1 hk1 hS1 => ?_)
  have hXq := hB1.1
  rw [ht] at hXq
  have hMI := MI.kept (fun q h1 h2 => hk1 q h1 (fun z => z.1 h2)) hMI
  have hXI := XI.moved hvm.symm hXq
  have hBb : ∀ q, B q → q < H1.size := fun q h => Nat.lt_of_lt_of_le (hBb q h) hz1
  refine W.know (fun hkn => ?_)
  have hsz1 := hkn.2
  clear hB1 hk1 hz1 hkn hXq
  have hS := hS1
  clear hS1
  obtain ⟨H, eH⟩ : ∃ h : Heap, h = H1 := ⟨_, rfl⟩
  rw [← eH] at hXI hMI hBb hS hsz1 ⊢
  refine lv_pop hx hb dL_law_1283 rfl ?_
  refine lv_aload_n hx hb dL_law_1284 rfl (lv_at hl 1 rfl) ?_
  refine law_ldv (kv := 1) hx hb hX hbl hbA hS hl dL_law_1285 dL_law_1286 dL_law_1287 dL_law_1288 dL_law_1289 (by decide) (li_in hi0 hi6 hL (k := 1) (by decide) (by decide)) ?_
  refine law_ldv (kv := 2) hx hb hX hbl hbA hS hl dL_law_1290 dL_law_1291 dL_law_1292 dL_law_1293 dL_law_1294 (by decide) (li_in hi0 hi6 hL (k := 2) (by decide) (by decide)) ?_
  refine va_calli (va_runV (As := [.int (xs (ii + 1).toNatClampNeg), .int (xs (ii + 2).toNatClampNeg)]) (rest := []) ⟨hx, hb, hml, hown, hts⟩ (wX10_nearest l dC dI gh B (tot H) s.heap.size mm (xs (ii + 1).toNatClampNeg) (xs (ii + 2).toNatClampNeg) hB) (cwV 2 hts gL29_m rfl rfl rfl hd_yX10_nearest ⟨lel 4 2048 rfl, lel 93 84000 rfl⟩) ⟨PM_fb, MI.recv hMI, PM_use hMI (Nat.le_refl _) hN hX1 (Nat.le_refl _) hS (fun _ h => h) (fun q h z => absurd (hBb q z) (Nat.not_lt.mpr h))⟩ rfl rfl hl.1 rfl (lv_room (Nat.le_of_ble_eq_true rfl)) dL_law_1295 ⟨(show N + 0 + 0 ≤ (600000 : Nat) from by omega), (show SL + 0 + 0 ≤ (7302250 : Nat) from by omega)⟩) hS (fun q _ h => hB q h) (fun q h => hB q h) (fun rm _ t H1 locs1 ht hvm hprm hB1 hz1 hk1 hS1 => ?_)
  have hXq := hB1.1
  rw [ht] at hXq
  have htq := hB1.2.1
  rw [ht] at htq
  have hXI := XI.kept htq (fun q h1 h2 => hk1 q h1 (fun z => h2.1 z)) hXI
  have hMI := MI.moved hvm.symm hXq
  have hBb : ∀ q, B q → q < H1.size := fun q h => Nat.lt_of_lt_of_le (hBb q h) hz1
  refine W.know (fun hkn => ?_)
  have hsz1 := hkn.2
  clear hB1 hk1 hz1 hkn hXq
  have hS := hS1
  clear hS1
  obtain ⟨H, eH⟩ : ∃ h : Heap, h = H1 := ⟨_, rfl⟩
  rw [← eH] at hXI hMI hBb hS hsz1 ⊢
  refine lv_pop hx hb dL_law_1298 rfl ?_
  refine lv_goto (tgt := 2425) hx hb dL_law_1299 (by decide) ?_
  refine W.tight (n := SL) (by have q9 := XI.tot hXI; omega) ?_
  refine W.widen (k := N + 3) (n := SL) (by omega) (Nat.le_refl _) ?_
  exact kk _ _ _ _ hXI hMI hBb hS (by omega) hl
theorem gL30_x : GoodIn lw_tbl (wsV RL 139 RX9 yX9_about uX9_about) := gin_V tbq_4_26 tbq_4_27 tbq_4_28 tbq_1_1 tw_uX9_about guX9_about
theorem gL30_m : GoodIn lw_tbl (wsV RL 142 RX10 yX10_about uX10_about) := gin_V tbq_7_91 tbq_7_92 tbq_7_93 tbq_1_9 tw_uX10_about guX10_about
set_option maxHeartbeats 4000000 in
set_option maxRecDepth 100000 in
theorem law_c30 {p : Program} {e : Env} {s : State} {m : MethodId} {below : List Frame} {meth : Method} {c : Code} (l : Launch) {b L : Nat} {xs : Nat → Int32} (hL : L ≤ 3072) (C0 : lw_At p s m meth c b L xs) (dC : Nat → ClassId) (dI : Nat → Nat → Nat) (gh : Nat → Int32) (B : Nat → Prop) (cc SL xx mm : Nat) (hB : ∀ q, B q → s.heap.size ≤ q) (hcc : cc = tot s.heap + SL) (hSL : SL ≤ 5000000) (hN : nst s) (hX1 : sx s.heap.size s) {ii : Int32} {N : Nat} (hi0 : 0 ≤ ii.toInt) (hi6 : ii.toInt + 6 ≤ (L : Int)) (hNN : N ≤ 100000) {H : Heap} {locs : List Loc} {ls : Array Slot} (hXI : XI dC dI gh (fun q : Nat => ¬ B q ∧ s.heap.size ≤ q) cc xx s H) (hMI : MI dC dI gh B mm s H) (hBb : ∀ q, B q → q < H.size) (hS : va_S (fun q : Nat => s.heap.size ≤ q) s.heap H locs) (hl : lv_has ls 4 [(3, .int ii), (2, .ref mm), (1, .ref xx), (0, .ref b)]) (kk : ∀ (gh : Nat → Int32) (H : Heap) (locs : List Loc) (ls : Array Slot), XI dC dI gh (fun q : Nat => ¬ B q ∧ s.heap.size ≤ q) cc xx s H → MI dC dI gh B mm s H → (∀ q, B q → q < H.size) → va_S (fun q : Nat => s.heap.size ≤ q) s.heap H locs → H.size ≤ s.heap.size + (N + 3) → lv_has ls 4 [(3, .int ii), (2, .ref mm), (1, .ref xx), (0, .ref b)] → W p l e room_1 s m #[Value.ref b] below meth c H locs (N + 3) SL (lw_Z below #[Value.ref b] s) (F0 m 2425 ls [])) : W p l e room_1 s m #[Value.ref b] below meth c H locs N SL (lw_Z below #[Value.ref b] s) (F0 m 1302 ls []) := by
  obtain ⟨hx, hb, hr, hml, hown0, hts, hX, hbl, hlocks, hgv⟩ := id C0
  have hown : s.vm.findClass RL = some m.cls := hown0
  have hbA : ¬ (fun q : Nat => s.heap.size ≤ q) b := Nat.not_le.mpr hbl
  have hAn : ∀ q, (fun q : Nat => ¬ B q ∧ s.heap.size ≤ q) q → s.heap.size ≤ q := fun _ h => h.2
  refine lv_aload_n hx hb dL_law_1302 rfl (lv_at hl 2 rfl) ?_
  refine law_ldv (kv := 1) hx hb hX hbl hbA hS hl dL_law_1303 dL_law_1304 dL_law_1305 dL_law_1306 dL_law_1307 (by decide) (li_in hi0 hi6 hL (k := 1) (by decide) (by decide)) ?_
  refine va_calli (va_runV (As := [.int (xs (ii + 1).toNatClampNeg)]) (rest := []) ⟨hx, hb, hml, hown, hts⟩ (wX9_about l dC dI gh (fun q : Nat => ¬ B q ∧ s.heap.size ≤ q) cc s.heap.size xx (xs (ii + 1).toNatClampNeg) hAn) (cwV 1 hts gL30_x rfl rfl rfl hd_yX9_about ⟨lel 2 2048 rfl, lel 46 84000 rfl⟩) ⟨PX_fb, XI.recv hXI, PX_use hXI hN hX1 (Nat.le_refl _) hS (fun _ h => h) (fun q h => ⟨fun z => absurd (hBb q z) (Nat.not_lt.mpr h), Nat.le_trans hS.1 h⟩)⟩ rfl rfl hl.1 rfl (lv_room (Nat.le_of_ble_eq_true rfl)) dL_law_1308 ⟨(show N + 0 ≤ (600000 : Nat) from by omega), (show SL + 0 ≤ (7302250 : Nat) from by omega)⟩) hS (fun q _ h => h.2) (fun q h => h.2) (fun rx _ t H1 locs1 ht hvm hprx hB1 hz1 hk1 hS1 => ?_)
  have hXq := hB1.1
  rw [ht] at hXq
  have hMI := MI.kept (fun q h1 h2 => hk1 q h1 (fun z => z.1 h2)) hMI
  have hXI := XI.moved hvm.symm hXq
  have hBb : ∀ q, B q → q < H1.size := fun q h => Nat.lt_of_lt_of_le (hBb q h) hz1
  refine W.know (fun hkn => ?_)
  have hsz1 := hkn.2
  clear hB1 hk1 hz1 hkn hXq
  have hS := hS1
  clear hS1
  obtain ⟨H, eH⟩ : ∃ h : Heap, h = H1 := ⟨_, rfl⟩
  rw [← eH] at hXI hMI hBb hS hsz1 ⊢
  refine lv_pop hx hb dL_law_1311 rfl ?_
  refine lv_aload_n hx hb dL_law_1312 rfl (lv_at hl 1 rfl) ?_
  refine law_ldv (kv := 1) hx hb hX hbl hbA hS hl dL_law_1313 dL_law_1314 dL_law_1315 dL_law_1316 dL_law_1317 (by decide) (li_in hi0 hi6 hL (k := 1) (by decide) (by decide)) ?_
  refine va_calli (va_runV (As := [.int (xs (ii + 1).toNatClampNeg)]) (rest := []) ⟨hx, hb, hml, hown, hts⟩ (wX10_about l dC dI gh B (tot H) s.heap.size mm (xs (ii + 1).toNatClampNeg) hB) (cwV 1 hts gL30_m rfl rfl rfl hd_yX10_about ⟨lel 3 2048 rfl, lel 70 84000 rfl⟩) ⟨PM_fb, MI.recv hMI, PM_use hMI (Nat.le_refl _) hN hX1 (Nat.le_refl _) hS (fun _ h => h) (fun q h z => absurd (hBb q z) (Nat.not_lt.mpr h))⟩ rfl rfl hl.1 rfl (lv_room (Nat.le_of_ble_eq_true rfl)) dL_law_1318 ⟨(show N + 0 + 0 ≤ (600000 : Nat) from by omega), (show SL + 0 + 0 ≤ (7302250 : Nat) from by omega)⟩) hS (fun q _ h => hB q h) (fun q h => hB q h) (fun rm _ t H1 locs1 ht hvm hprm hB1 hz1 hk1 hS1 => ?_)
  have hXq := hB1.1
  rw [ht] at hXq
  have htq := hB1.2.1
  rw [ht] at htq
  have hXI := XI.kept htq (fun q h1 h2 => hk1 q h1 (fun z => h2.1 z)) hXI
  have hMI := MI.moved hvm.symm hXq
  have hBb : ∀ q, B q → q < H1.size := fun q h => Nat.lt_of_lt_of_le (hBb q h) hz1
  refine W.know (fun hkn => ?_)
  have hsz1 := hkn.2
  clear hB1 hk1 hz1 hkn hXq
  have hS := hS1
  clear hS1
  obtain ⟨H, eH⟩ : ∃ h : Heap, h = H1 := ⟨_, rfl⟩
  rw [← eH] at hXI hMI hBb hS hsz1 ⊢
  refine lv_pop hx hb dL_law_1321 rfl ?_
  refine lv_goto (tgt := 2425) hx hb dL_law_1322 (by decide) ?_
  refine W.tight (n := SL) (by have q9 := XI.tot hXI; omega) ?_
  refine W.widen (k := N + 3) (n := SL) (by omega) (Nat.le_refl _) ?_
  exact kk _ _ _ _ hXI hMI hBb hS (by omega) hl
theorem gL31_x : GoodIn lw_tbl (wsV RL 143 RX9 yX9_draw uX9_draw) := gin_V tbq_4_30 tbq_4_31 tbq_4_32 tbq_1_1 tw_uX9_draw guX9_draw
theorem gL31_m : GoodIn lw_tbl (wsV RL 146 RX10 yX10_draw_ uX10_draw_) := gin_V tbq_7_95 tbq_7_96 tbq_7_97 tbq_1_9 tw_uX10_draw_ guX10_draw_
set_option maxHeartbeats 4000000 in
set_option maxRecDepth 100000 in
theorem law_c31 {p : Program} {e : Env} {s : State} {m : MethodId} {below : List Frame} {meth : Method} {c : Code} (l : Launch) {b L : Nat} {xs : Nat → Int32} (hL : L ≤ 3072) (C0 : lw_At p s m meth c b L xs) (dC : Nat → ClassId) (dI : Nat → Nat → Nat) (gh : Nat → Int32) (B : Nat → Prop) (cc SL xx mm : Nat) (hB : ∀ q, B q → s.heap.size ≤ q) (hcc : cc = tot s.heap + SL) (hSL : SL ≤ 5000000) (hN : nst s) (hX1 : sx s.heap.size s) {ii : Int32} {N : Nat} (hi0 : 0 ≤ ii.toInt) (hi6 : ii.toInt + 6 ≤ (L : Int)) (hNN : N ≤ 100000) {H : Heap} {locs : List Loc} {ls : Array Slot} (hXI : XI dC dI gh (fun q : Nat => ¬ B q ∧ s.heap.size ≤ q) cc xx s H) (hMI : MI dC dI gh B mm s H) (hBb : ∀ q, B q → q < H.size) (hS : va_S (fun q : Nat => s.heap.size ≤ q) s.heap H locs) (hl : lv_has ls 4 [(3, .int ii), (2, .ref mm), (1, .ref xx), (0, .ref b)]) (kk : ∀ (gh : Nat → Int32) (H : Heap) (locs : List Loc) (ls : Array Slot), XI dC dI gh (fun q : Nat => ¬ B q ∧ s.heap.size ≤ q) cc xx s H → MI dC dI gh B mm s H → (∀ q, B q → q < H.size) → va_S (fun q : Nat => s.heap.size ≤ q) s.heap H locs → H.size ≤ s.heap.size + (N + 3) → lv_has ls 4 [(3, .int ii), (2, .ref mm), (1, .ref xx), (0, .ref b)] → W p l e room_1 s m #[Value.ref b] below meth c H locs (N + 3) SL (lw_Z below #[Value.ref b] s) (F0 m 2425 ls [])) : W p l e room_1 s m #[Value.ref b] below meth c H locs N SL (lw_Z below #[Value.ref b] s) (F0 m 1325 ls []) := by
  obtain ⟨hx, hb, hr, hml, hown0, hts, hX, hbl, hlocks, hgv⟩ := id C0
  have hown : s.vm.findClass RL = some m.cls := hown0
  have hbA : ¬ (fun q : Nat => s.heap.size ≤ q) b := Nat.not_le.mpr hbl
  have hAn : ∀ q, (fun q : Nat => ¬ B q ∧ s.heap.size ≤ q) q → s.heap.size ≤ q := fun _ h => h.2
  refine lv_aload_n hx hb dL_law_1325 rfl (lv_at hl 2 rfl) ?_
  refine law_ldv (kv := 1) hx hb hX hbl hbA hS hl dL_law_1326 dL_law_1327 dL_law_1328 dL_law_1329 dL_law_1330 (by decide) (li_in hi0 hi6 hL (k := 1) (by decide) (by decide)) ?_
  refine law_ldv (kv := 2) hx hb hX hbl hbA hS hl dL_law_1331 dL_law_1332 dL_law_1333 dL_law_1334 dL_law_1335 (by decide) (li_in hi0 hi6 hL (k := 2) (by decide) (by decide)) ?_
  refine va_calli (va_runV (As := [.int (xs (ii + 1).toNatClampNeg), .int (xs (ii + 2).toNatClampNeg)]) (rest := []) ⟨hx, hb, hml, hown, hts⟩ (wX9_draw l dC dI gh (fun q : Nat => ¬ B q ∧ s.heap.size ≤ q) cc s.heap.size xx (xs (ii + 1).toNatClampNeg) (xs (ii + 2).toNatClampNeg) hAn) (cwV 2 hts gL31_x rfl rfl rfl hd_yX9_draw ⟨lel 4 2048 rfl, lel 83 84000 rfl⟩) ⟨PX_fb, XI.recv hXI, PX_use hXI hN hX1 (Nat.le_refl _) hS (fun _ h => h) (fun q h => ⟨fun z => absurd (hBb q z) (Nat.not_lt.mpr h), Nat.le_trans hS.1 h⟩)⟩ rfl rfl hl.1 rfl (lv_room (Nat.le_of_ble_eq_true rfl)) dL_law_1336 ⟨(show N + 0 ≤ (600000 : Nat) from by omega), (show SL + 0 ≤ (7302250 : Nat) from by omega)⟩) hS (fun q _ h => h.2) (fun q h => h.2) (fun rx _ t H1 locs1 ht hvm hprx hB1 hz1 hk1 hS1 => ?_)
  have hXq := hB1.1
  rw [ht] at hXq
  have hMI := MI.kept (fun q h1 h2 => hk1 q h1 (fun z => z.1 h2)) hMI
  have hXI := XI.moved hvm.symm hXq
  have hBb : ∀ q, B q → q < H1.size := fun q h => Nat.lt_of_lt_of_le (hBb q h) hz1
  refine W.know (fun hkn => ?_)
  have hsz1 := hkn.2
  clear hB1 hk1 hz1 hkn hXq
  have hS := hS1
  clear hS1
  obtain ⟨H, eH⟩ : ∃ h : Heap, h = H1 := ⟨_, rfl⟩
  rw [← eH] at hXI hMI hBb hS hsz1 ⊢
  refine lv_pop hx hb dL_law_1339 rfl ?_
  refine lv_aload_n hx hb dL_law_1340 rfl (lv_at hl 1 rfl) ?_
  refine law_ldv (kv := 1) hx hb hX hbl hbA hS hl dL_law_1341 dL_law_1342 dL_law_1343 dL_law_1344 dL_law_1345 (by decide) (li_in hi0 hi6 hL (k := 1) (by decide) (by decide)) ?_
  refine law_ldv (kv := 2) hx hb hX hbl hbA hS hl dL_law_1346 dL_law_1347 dL_law_1348 dL_law_1349 dL_law_1350 (by decide) (li_in hi0 hi6 hL (k := 2) (by decide) (by decide)) ?_
  refine va_calli (va_runV (As := [.int (xs (ii + 1).toNatClampNeg), .int (xs (ii + 2).toNatClampNeg)]) (rest := []) ⟨hx, hb, hml, hown, hts⟩ (wX10_draw_ l dC dI gh B (tot H) s.heap.size mm (xs (ii + 1).toNatClampNeg) (xs (ii + 2).toNatClampNeg) hB) (cwV 2 hts gL31_m rfl rfl rfl hd_yX10_draw_ ⟨lel 3 2048 rfl, lel 69 84000 rfl⟩) ⟨PM_fb, MI.recv hMI, PM_use hMI (Nat.le_refl _) hN hX1 (Nat.le_refl _) hS (fun _ h => h) (fun q h z => absurd (hBb q z) (Nat.not_lt.mpr h))⟩ rfl rfl hl.1 rfl (lv_room (Nat.le_of_ble_eq_true rfl)) dL_law_1351 ⟨(show N + 0 + 0 ≤ (600000 : Nat) from by omega), (show SL + 0 + 0 ≤ (7302250 : Nat) from by omega)⟩) hS (fun q _ h => hB q h) (fun q h => hB q h) (fun rm _ t H1 locs1 ht hvm hprm hB1 hz1 hk1 hS1 => ?_)
  have hXq := hB1.1
  rw [ht] at hXq
  have htq := hB1.2.1
  rw [ht] at htq
  have hXI := XI.kept htq (fun q h1 h2 => hk1 q h1 (fun z => h2.1 z)) hXI
  have hMI := MI.moved hvm.symm hXq
  have hBb : ∀ q, B q → q < H1.size := fun q h => Nat.lt_of_lt_of_le (hBb q h) hz1
  refine W.know (fun hkn => ?_)
  have hsz1 := hkn.2
  clear hB1 hk1 hz1 hkn hXq
  have hS := hS1
  clear hS1
  obtain ⟨H, eH⟩ : ∃ h : Heap, h = H1 := ⟨_, rfl⟩
  rw [← eH] at hXI hMI hBb hS hsz1 ⊢
  refine lv_pop hx hb dL_law_1354 rfl ?_
  refine lv_goto (tgt := 2425) hx hb dL_law_1355 (by decide) ?_
  refine W.tight (n := SL) (by have q9 := XI.tot hXI; omega) ?_
  refine W.widen (k := N + 3) (n := SL) (by omega) (Nat.le_refl _) ?_
  exact kk _ _ _ _ hXI hMI hBb hS (by omega) hl
