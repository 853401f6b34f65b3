set_option maxRecDepth 16384
theorem hwo_use {av : List Value} {D : va_G} {cl : List vw_C} {ws ws' : va_W} {tys tys' : List (ClassId × FieldType)} {s : State} {H : Heap} {A : Nat → Prop} (hP : va_P D cl ws H) (hD : va_D A ws) (hK : va_K D cl tys s) (hN : nst s) (h2 : va_AO RX2 s) (h3 : va_AO RX3 s) (is : List Nat) (hs : is.filterMap (fun i => ws[i]?) = ws') (hn : va_nd is = true) (hs2 : is.map (fun i => ws[i]?) = ws'.map some) (it : List Nat) (ht : it.filterMap (fun i => tys[i]?) = tys') : ∀ U : State, U.heap = H → s.WarmedH U.vm → va_Pc av (hwo D cl ws' tys' H.size) av.toArray U := fun U hU hW => ⟨rfl, ⟨by rw [hU], by rw [hU]; exact hP.sub is hs, va_K.moved hW.alike (hK.sub it ht), (hD.sub is hn hs2).weaken (fun _ _ _ _ => trivial), hN.warm hW⟩, va_AO.moved hW.alike h2, va_AO.moved hW.alike h3⟩
theorem dL_law_0 : decode cL_law 0 = .ok (.new 7, 3) := by decide +kernel
theorem dL_law_3 : decode cL_law 3 = .ok (.dup, 1) := by decide +kernel
theorem dL_law_4 : decode cL_law 4 = .ok (.invokespecial 9, 3) := by decide +kernel
theorem dL_law_7 : decode cL_law 7 = .ok (.astore_n 1, 1) := by decide +kernel
theorem dL_law_8 : decode cL_law 8 = .ok (.new 10, 3) := by decide +kernel
theorem dL_law_11 : decode cL_law 11 = .ok (.dup, 1) := by decide +kernel
theorem dL_law_12 : decode cL_law 12 = .ok (.invokespecial 12, 3) := by decide +kernel
theorem dL_law_15 : decode cL_law 15 = .ok (.astore_n 2, 1) := by decide +kernel
theorem dL_law_16 : decode cL_law 16 = .ok (.iconst 0, 1) := by decide +kernel
theorem dL_law_17 : decode cL_law 17 = .ok (.istore_n 3, 1) := by decide +kernel
theorem tuX9_init : ∀ w ∈ uX9_init, w ∈ lw_tbl := List.forall_mem_cons.mpr ⟨(tb_1 (List.mem_of_getElem? (i := 25) rfl)), List.forall_mem_append.mpr ⟨List.forall_mem_append.mpr ⟨List.forall_mem_append.mpr ⟨List.forall_mem_append.mpr ⟨List.forall_mem_append.mpr ⟨List.forall_mem_append.mpr ⟨List.forall_mem_append.mpr ⟨List.forall_mem_append.mpr ⟨List.forall_mem_cons.mpr ⟨(tb_1 (List.mem_of_getElem? (i := 26) rfl)), List.forall_mem_cons.mpr ⟨(tb_1 (List.mem_of_getElem? (i := 27) rfl)), List.forall_mem_cons.mpr ⟨(tb_1 (List.mem_of_getElem? (i := 28) rfl)), List.forall_mem_cons.mpr ⟨(tb_1 (List.mem_of_getElem? (i := 29) rfl)), List.forall_mem_cons.mpr ⟨(tb_1 (List.mem_of_getElem? (i := 30) rfl)), List.forall_mem_cons.mpr ⟨(tb_1 (List.mem_of_getElem? (i := 2) rfl)), List.forall_mem_cons.mpr ⟨(tb_1 (List.mem_of_getElem? (i := 33) rfl)), List.forall_mem_cons.mpr ⟨(tb_1 (List.mem_of_getElem? (i := 34) rfl)), List.forall_mem_cons.mpr ⟨(tb_1 (List.mem_of_getElem? (i := 45) rfl)), List.forall_mem_cons.mpr ⟨(tb_1 (List.mem_of_getElem? (i := 35) rfl)), List.forall_mem_cons.mpr ⟨(tb_1 (List.mem_of_getElem? (i := 32) rfl)), List.forall_mem_cons.mpr ⟨(tb_1 (List.mem_of_getElem? (i := 209) rfl)), List.forall_mem_cons.mpr ⟨(tb_1 (List.mem_of_getElem? (i := 46) rfl)), List.forall_mem_cons.mpr ⟨(tb_1 (List.mem_of_getElem? (i := 47) rfl)), List.forall_mem_cons.mpr ⟨(tb_1 (List.mem_of_getElem? (i := 3) rfl)), List.forall_mem_cons.mpr ⟨(tb_1 (List.mem_of_getElem? (i := 50) rfl)), List.forall_mem_cons.mpr ⟨(tb_1 (List.mem_of_getElem? (i := 51) rfl)), List.forall_mem_cons.mpr ⟨(tb_1 (List.mem_of_getElem? (i := 88) rfl)), List.forall_mem_cons.mpr ⟨(tb_1 (List.mem_of_getElem? (i := 65) rfl)), List.forall_mem_cons.mpr ⟨(tb_1 (List.mem_of_getElem? (i := 66) rfl)), List.forall_mem_cons.mpr ⟨(tb_1 (List.mem_of_getElem? (i := 89) rfl)), List.forall_mem_cons.mpr ⟨(tb_1 (List.mem_of_getElem? (i := 67) rfl)), List.forall_mem_cons.mpr ⟨(tb_1 (List.mem_of_getElem? (i := 68) rfl)), List.forall_mem_cons.mpr ⟨(tb_1 (List.mem_of_getElem? (i := 49) rfl)), List.forall_mem_cons.mpr ⟨(tb_1 (List.mem_of_getElem? (i := 210) rfl)), List.forall_mem_cons.mpr ⟨(tb_1 (List.mem_of_getElem? (i := 90) rfl)), List.forall_mem_cons.mpr ⟨(tb_1 (List.mem_of_getElem? (i := 91) rfl)), List.forall_mem_cons.mpr ⟨(tb_1 (List.mem_of_getElem? (i := 4) rfl)), List.forall_mem_cons.mpr ⟨(tb_1 (List.mem_of_getElem? (i := 94) rfl)), List.forall_mem_cons.mpr ⟨(tb_1 (List.mem_of_getElem? (i := 95) rfl)), List.forall_mem_cons.mpr ⟨(tb_1 (List.mem_of_getElem? (i := 100) rfl)), List.forall_mem_cons.mpr ⟨(tb_1 (List.mem_of_getElem? (i := 96) rfl)), List.forall_mem_cons.mpr ⟨(tb_1 (List.mem_of_getElem? (i := 97) rfl)), List.forall_mem_cons.mpr ⟨(tb_1 (List.mem_of_getElem? (i := 92) rfl)), List.forall_mem_cons.mpr ⟨(tb_1 (List.mem_of_getElem? (i := 93) rfl)), List.forall_mem_cons.mpr ⟨(tb_1 (List.mem_of_getElem? (i := 211) rfl)), List.forall_mem_cons.mpr ⟨(tb_1 (List.mem_of_getElem? (i := 126) rfl)), List.forall_mem_cons.mpr ⟨(tb_1 (List.mem_of_getElem? (i := 127) rfl)), List.forall_mem_cons.mpr ⟨(tb_1 (List.mem_of_getElem? (i := 5) rfl)), List.forall_mem_cons.mpr ⟨(tb_1 (List.mem_of_getElem? (i := 130) rfl)), List.forall_mem_cons.mpr ⟨(tb_1 (List.mem_of_getElem? (i := 131) rfl)), List.forall_mem_cons.mpr ⟨(tb_1 (List.mem_of_getElem? (i := 145) rfl)), List.forall_mem_cons.mpr ⟨(tb_1 (List.mem_of_getElem? (i := 146) rfl)), List.forall_mem_cons.mpr ⟨(tb_1 (List.mem_of_getElem? (i := 129) rfl)), List.forall_mem_cons.mpr ⟨(tb_1 (List.mem_of_getElem? (i := 212) rfl)), List.forall_mem_cons.mpr ⟨(tb_1 (List.mem_of_getElem? (i := 213) rfl)), List.forall_mem_cons.mpr ⟨(tb_1 (List.mem_of_getElem? (i := 182) rfl)), List.forall_mem_cons.mpr ⟨(tb_1 (List.mem_of_getElem? (i := 214) rfl)), List.forall_mem_cons.mpr ⟨(tb_1 (List.mem_of_getElem? (i := 163) rfl)), List.forall_mem_cons.mpr ⟨(tb_1 (List.mem_of_getElem? (i := 165) rfl)), List.forall_mem_cons.mpr ⟨(tb_1 (List.mem_of_getElem? (i := 6) rfl)), List.forall_mem_cons.mpr ⟨(tb_1 (List.mem_of_getElem? (i := 168) rfl)), List.forall_mem_cons.mpr ⟨(tb_1 (List.mem_of_getElem? (i := 169) rfl)), List.forall_mem_cons.mpr ⟨(tb_1 (List.mem_of_getElem? (i := 170) rfl)), List.forall_mem_cons.mpr ⟨(tb_1 (List.mem_of_getElem? (i := 174) rfl)), List.forall_mem_cons.mpr ⟨(tb_1 (List.mem_of_getElem? (i := 167) rfl)), List.forall_mem_cons.mpr ⟨(tb_1 (List.mem_of_getElem? (i := 215) rfl)), List.forall_mem_cons.mpr ⟨(tb_1 (List.mem_of_getElem? (i := 183) rfl)), List.forall_mem_cons.mpr ⟨(tb_1 (List.mem_of_getElem? (i := 184) rfl)), List.forall_mem_cons.mpr ⟨(tb_1 (List.mem_of_getElem? (i := 7) rfl)), List.forall_mem_cons.mpr ⟨(tb_1 (List.mem_of_getElem? (i := 187) rfl)), List.forall_mem_cons.mpr ⟨(tb_1 (List.mem_of_getElem? (i := 188) rfl)), List.forall_mem_cons.mpr ⟨(tb_1 (List.mem_of_getElem? (i := 189) rfl)), List.forall_mem_cons.mpr ⟨(tb_1 (List.mem_of_getElem? (i := 190) rfl)), List.forall_mem_cons.mpr ⟨(tb_1 (List.mem_of_getElem? (i := 191) rfl)), List.forall_mem_cons.mpr ⟨(tb_1 (List.mem_of_getElem? (i := 186) rfl)), List.forall_mem_cons.mpr ⟨(tb_1 (List.mem_of_getElem? (i := 216) rfl)), List.forall_mem_cons.mpr ⟨(tb_1 (List.mem_of_getElem? (i := 199) rfl)), List.forall_mem_cons.mpr ⟨(tb_1 (List.mem_of_getElem? (i := 200) rfl)), List.forall_mem_cons.mpr ⟨(tb_1 (List.mem_of_getElem? (i := 8) rfl)), List.forall_mem_cons.mpr ⟨(tb_1 (List.mem_of_getElem? (i := 203) rfl)), List.forall_mem_cons.mpr ⟨(tb_1 (List.mem_of_getElem? (i := 204) rfl)), List.forall_mem_cons.mpr ⟨(tb_1 (List.mem_of_getElem? (i := 205) rfl)), List.forall_mem_cons.mpr ⟨(tb_1 (List.mem_of_getElem? (i := 202) rfl)), List.forall_mem_cons.mpr ⟨(tb_1 (List.mem_of_getElem? (i := 217) rfl)), List.forall_mem_cons.mpr ⟨(tb_1 (List.mem_of_getElem? (i := 218) rfl)), (fun _ h => absurd h List.not_mem_nil)⟩⟩⟩⟩⟩⟩⟩⟩⟩⟩⟩⟩⟩⟩⟩⟩⟩⟩⟩⟩⟩⟩⟩⟩⟩⟩⟩⟩⟩⟩⟩⟩⟩⟩⟩⟩⟩⟩⟩⟩⟩⟩⟩⟩⟩⟩⟩⟩⟩⟩⟩⟩⟩⟩⟩⟩⟩⟩⟩⟩⟩⟩⟩⟩⟩⟩⟩⟩⟩⟩⟩⟩⟩⟩⟩⟩, inX7⟩, inX9⟩, inX4⟩, inX1⟩, inX2⟩, inX3⟩, inX5⟩, inX6⟩⟩
theorem tuX10_init : ∀ w ∈ uX10_init, w ∈ lw_tbl := List.forall_mem_cons.mpr ⟨(tb_5 (List.mem_of_getElem? (i := 64) rfl)), List.forall_mem_append.mpr ⟨List.forall_mem_cons.mpr ⟨(tb_5 (List.mem_of_getElem? (i := 65) rfl)), List.forall_mem_cons.mpr ⟨(tb_1 (List.mem_of_getElem? (i := 27) rfl)), List.forall_mem_cons.mpr ⟨(tb_1 (List.mem_of_getElem? (i := 28) rfl)), List.forall_mem_cons.mpr ⟨(tb_1 (List.mem_of_getElem? (i := 88) rfl)), List.forall_mem_cons.mpr ⟨(tb_5 (List.mem_of_getElem? (i := 66) rfl)), List.forall_mem_cons.mpr ⟨(tb_5 (List.mem_of_getElem? (i := 67) rfl)), List.forall_mem_cons.mpr ⟨(tb_1 (List.mem_of_getElem? (i := 182) rfl)), List.forall_mem_cons.mpr ⟨(tb_5 (List.mem_of_getElem? (i := 68) rfl)), List.forall_mem_cons.mpr ⟨(tb_5 (List.mem_of_getElem? (i := 69) rfl)), List.forall_mem_cons.mpr ⟨(tb_1 (List.mem_of_getElem? (i := 45) rfl)), List.forall_mem_cons.mpr ⟨(tb_5 (List.mem_of_getElem? (i := 70) rfl)), List.forall_mem_cons.mpr ⟨(tb_5 (List.mem_of_getElem? (i := 72) rfl)), List.forall_mem_cons.mpr ⟨(tb_5 (List.mem_of_getElem? (i := 79) rfl)), List.forall_mem_cons.mpr ⟨(tb_5 (List.mem_of_getElem? (i := 80) rfl)), List.forall_mem_cons.mpr ⟨(tb_5 (List.mem_of_getElem? (i := 81) rfl)), List.forall_mem_cons.mpr ⟨(tb_5 (List.mem_of_getElem? (i := 85) rfl)), List.forall_mem_cons.mpr ⟨(tb_5 (List.mem_of_getElem? (i := 86) rfl)), List.forall_mem_cons.mpr ⟨(tb_5 (List.mem_of_getElem? (i := 88) rfl)), List.forall_mem_cons.mpr ⟨(tb_5 (List.mem_of_getElem? (i := 89) rfl)), List.forall_mem_cons.mpr ⟨(tb_5 (List.mem_of_getElem? (i := 90) rfl)), List.forall_mem_cons.mpr ⟨(tb_5 (List.mem_of_getElem? (i := 91) rfl)), List.forall_mem_cons.mpr ⟨(tb_1 (List.mem_of_getElem? (i := 89) rfl)), List.forall_mem_cons.mpr ⟨(tb_5 (List.mem_of_getElem? (i := 92) rfl)), List.forall_mem_cons.mpr ⟨(tb_5 (List.mem_of_getElem? (i := 93) rfl)), List.forall_mem_cons.mpr ⟨(tb_5 (List.mem_of_getElem? (i := 94) rfl)), List.forall_mem_cons.mpr ⟨(tb_5 (List.mem_of_getElem? (i := 95) rfl)), List.forall_mem_cons.mpr ⟨(tb_5 (List.mem_of_getElem? (i := 96) rfl)), List.forall_mem_cons.mpr ⟨(tb_5 (List.mem_of_getElem? (i := 97) rfl)), (fun _ h => absurd h List.not_mem_nil)⟩⟩⟩⟩⟩⟩⟩⟩⟩⟩⟩⟩⟩⟩⟩⟩⟩⟩⟩⟩⟩⟩⟩⟩⟩⟩⟩⟩, inX10⟩⟩
set_option maxRecDepth 20000 in
theorem gL_start__X9_init_I : GoodIn lw_tbl (uX9_init) := goodIn_sub tuX9_init (by decide +kernel)
set_option maxRecDepth 20000 in
theorem gL_start__X10_init_I : GoodIn lw_tbl (uX10_init) := goodIn_sub tuX10_init (by decide +kernel)
set_option maxHeartbeats 4000000 in
set_option maxRecDepth 100000 in
theorem whole_start {p : Program} {e : Env} {s : State} {m : MethodId} {below : List Frame} {meth : Method} {c : Code} (l : Launch) {b L : Nat} {xs : Nat → Int32} (hL : L ≤ 3072) (C0 : lw_At p s m meth c b L xs) : W p l e room_1 s m #[Value.ref b] below meth c s.heap [] 0 0 (lw_Z below #[Value.ref b] s) (entryFrame m ([Value.ref b] : List Value).toArray 4) := by
  obtain ⟨hx, hb, hr, hml, hown0, hts, hX, hbl, hlocks, hgv⟩ := id C0
  have hown : s.vm.findClass RL = some m.cls := hown0
  have hA : ∀ q : Nat, s.heap.size ≤ q → (fun q : Nat => s.heap.size ≤ q) q := fun _ h => h
  have hbA : ¬ (fun q : Nat => s.heap.size ≤ q) b := Nat.not_le.mpr hbl
  obtain ⟨c0, iS0, hKn0⟩ := u_known (C := RX1) (T := TX1) (N := 9) (n := 9) hts inX1 (hts (.instantiable RX1 9) (tb_1 (List.mem_of_getElem? (i := 91) rfl)))
  obtain ⟨c1, iS1, hKn1⟩ := u_known (C := RX2) (T := TX2) (N := 7) (n := 7) hts inX2 (hts (.instantiable RX2 7) (tb_1 (List.mem_of_getElem? (i := 127) rfl)))
  obtain ⟨c2, iS2, hKn2⟩ := u_known (C := RX3) (T := TX3) (N := 3) (n := 3) hts inX3 (hts (.instantiable RX3 3) (tb_1 (List.mem_of_getElem? (i := 165) rfl)))
  obtain ⟨c3, iS3, hKn3⟩ := u_known (C := RX4) (T := TX4) (N := 9) (n := 9) hts inX4 (hts (.instantiable RX4 9) (tb_1 (List.mem_of_getElem? (i := 47) rfl)))
  obtain ⟨c4, iS4, hKn4⟩ := u_known (C := RX5) (T := TX5) (N := 3) (n := 3) hts inX5 (hts (.instantiable RX5 3) (tb_1 (List.mem_of_getElem? (i := 184) rfl)))
  obtain ⟨c5, iS5, hKn5⟩ := u_known (C := RX6) (T := TX6) (N := 1) (n := 1) hts inX6 (hts (.instantiable RX6 1) (tb_1 (List.mem_of_getElem? (i := 200) rfl)))
  obtain ⟨c6, iS6, hKn6⟩ := u_known (C := RX7) (T := TX7) (N := 2) (n := 2) hts inX7 (hts (.instantiable RX7 2) (tb_1 (List.mem_of_getElem? (i := 30) rfl)))
  obtain ⟨c7, iS7, hKn7⟩ := u_known (C := RX9) (T := TX9) (N := 10) (n := 10) hts inX9 (hts (.instantiable RX9 10) (tb_1 (List.mem_of_getElem? (i := 22) rfl)))
  obtain ⟨c8, iS8, hKn8⟩ := u_known (C := RX10) (T := TX10) (N := 33) (n := 33) hts inX10 (hts (.instantiable RX10 33) (tb_5 (List.mem_of_getElem? (i := 61) rfl)))
  obtain ⟨dC, dI, hKc⟩ : ∃ (dC : Nat → ClassId) (dI : Nat → Nat → Nat), ∀ (k : Nat) (q : vw_C), vwCl[k]? = some q → u_Kn s q.1 q.2.1 q.2.2 (dC k) (dI k) := by
    refine ⟨fun k => if k = 0 then c0 else if k = 1 then c1 else if k = 2 then c2 else if k = 3 then c3 else if k = 4 then c4 else if k = 5 then c5 else if k = 6 then c6 else if k = 7 then c7 else c8, fun k => if k = 0 then iS0 else if k = 1 then iS1 else if k = 2 then iS2 else if k = 3 then iS3 else if k = 4 then iS4 else if k = 5 then iS5 else if k = 6 then iS6 else if k = 7 then iS7 else iS8, ?_⟩
    intro k q hq
    match k, hq with
    | 0, hq => cases hq; exact hKn0
    | 1, hq => cases hq; exact hKn1
    | 2, hq => cases hq; exact hKn2
    | 3, hq => cases hq; exact hKn3
    | 4, hq => cases hq; exact hKn4
    | 5, hq => cases hq; exact hKn5
    | 6, hq => cases hq; exact hKn6
    | 7, hq => cases hq; exact hKn7
    | 8, hq => cases hq; exact hKn8
    | k + 9, hq => simp [vwCl] at hq
  have hS : va_S (fun q : Nat => s.heap.size ≤ q) s.heap s.heap [] := va_S.rf
  have hK : va_K (dC, dI) vwCl [] s := ⟨hKc, fun k q h => by simp at h⟩
  have hP : va_P (dC, dI) vwCl [] s.heap := fun k q h => by simp at h
  have hD : va_D (fun q : Nat => s.heap.size ≤ q) [] := ⟨fun i j p q h => by simp at h, fun k q h => by simp at h⟩
  have hN : nst s := fun w hw => va_Nw.of (nst_t (nst_all w hw)) (hts w (nst_in w hw))
  have hX1 : sx s.heap.size s := law_sx hgv hts
  have hAO_X2 : va_AO RX2 s := va_AO.of (hts (.arrayOver (.object RX2)) (tb_1 (List.mem_of_getElem? (i := 162) rfl)))
  have hAO_X3 : va_AO RX3 s := va_AO.of (hts (.arrayOver (.object RX3)) (tb_1 (List.mem_of_getElem? (i := 164) rfl)))
  have hl := lv_entry ([.ref b]) (n := 4) (Nat.le_of_ble_eq_true rfl)
  rw [lg_entry_eq]
  generalize (lg_sl ([.ref b]) ++ List.replicate (4 - (lg_sl ([.ref b])).length) Slot.unset).toArray = ls at hl ⊢
  have hl : lv_has ls 4 [(0, .ref b)] := hl
  refine va_new (ci := 7) (fs := [.null, .null, .null, .null, .null, .null, .null, .null, .null, .null]) (C := RX9) (T := TX9) (N := 10) hx hb hts inX9 tyX9 tyX9_ok hown (hts (.classLink RL 7 RX9) (tb_1 (List.mem_of_getElem? (i := 21) rfl))) (hts (.instantiable RX9 10) (tb_1 (List.mem_of_getElem? (i := 22) rfl))) (hts (.initialized RX9) (tb_1 (List.mem_of_getElem? (i := 1) rfl))) hK hP hD hS hA rfl (fun j hj => by rcases (show j = 0 ∨ j = 1 ∨ j = 2 ∨ j = 3 ∨ j = 4 ∨ j = 5 ∨ j = 6 ∨ j = 7 ∨ j = 8 ∨ j = 9 by omega) with rfl | rfl | rfl | rfl | rfl | rfl | rfl | rfl | rfl | rfl <;> rfl) (lel 1 600000 rfl) (lel 10 7302250 rfl) dL_law_0 (fun q_1 H hP hD hS => ?_)
  have hP : va_P (dC, dI) vwCl [(q_1, .inr (7, [.null, .null, .null, .null, .null, .null, .null, .null, .null, .null]))] H := hP
  have hD : va_D (fun q : Nat => s.heap.size ≤ q) [(q_1, .inr (7, [.null, .null, .null, .null, .null, .null, .null, .null, .null, .null]))] := hD
  refine W.widen (k := 1) (n := 10) (lel _ _ rfl) (lel _ _ rfl) ?_
  refine lv_dup hx hb dL_law_3 rfl ?_
  have hFc := va_free (wc := [(q_1, .inr (7, [.null, .null, .null, .null, .null, .null, .null, .null, .null, .null]))]) hD hS hA [0] rfl
  refine va_callv (va_runI (As := []) (rest := [.ref q_1]) ⟨hx, hb, hml, hown, hts⟩ (kX9_init l dC dI q_1 (H.size)) (cwI 0 hts gL_start__X9_init_I rfl rfl rfl (hts (.initialized RX9) (tb_1 (List.mem_of_getElem? (i := 1) rfl))) (hts (.methodLink RL 9 yX9_init) (tb_1 (List.mem_of_getElem? (i := 23) rfl))) (hts (.instanceMethod yX9_init) (tb_1 (List.mem_of_getElem? (i := 24) rfl))) rfl (by decide +kernel) ⟨lel 3 2048 rfl, lel 54 84000 rfl⟩) ⟨hwo_fb, (hwo_use hP hD hK hN hAO_X2 hAO_X3 [0] rfl (by decide) rfl [] rfl)⟩ rfl rfl hl.1 rfl (lv_room (Nat.le_of_ble_eq_true rfl)) dL_law_4 ⟨lel 39 600000 rfl, lel 3530 7302250 rfl⟩) hS (fun q _ h => hFc q h) hFc (fun u_3 t H1 locs ht hvm hwr_2 hB hz1 hk1 hS => ?_)
  have h9_0 := hB
  clear hB
  refine Exists.elim h9_0 (fun q_4 h9_1 => ?_)
  clear h9_0
  refine Exists.elim h9_1 (fun q_5 h9_2 => ?_)
  clear h9_1
  refine Exists.elim h9_2 (fun q_6 h9_3 => ?_)
  clear h9_2
  refine Exists.elim h9_3 (fun q_7 h9_4 => ?_)
  clear h9_3
  refine Exists.elim h9_4 (fun q_8 h9_5 => ?_)
  clear h9_4
  refine Exists.elim h9_5 (fun q_9 h9_6 => ?_)
  clear h9_5
  refine Exists.elim h9_6 (fun q_10 h9_7 => ?_)
  clear h9_6
  refine Exists.elim h9_7 (fun q_11 h9_8 => ?_)
  clear h9_7
  refine Exists.elim h9_8 (fun q_12 h9_9 => ?_)
  clear h9_8
  refine Exists.elim h9_9 (fun q_13 h9_10 => ?_)
  clear h9_9
  refine Exists.elim h9_10 (fun q_14 h9_11 => ?_)
  clear h9_10
  refine Exists.elim h9_11 (fun q_15 h9_12 => ?_)
  clear h9_11
  refine Exists.elim h9_12 (fun q_16 h9_13 => ?_)
  clear h9_12
  refine Exists.elim h9_13 (fun q_17 h9_14 => ?_)
  clear h9_13
  refine Exists.elim h9_14 (fun q_18 h9_15 => ?_)
  clear h9_14
  refine Exists.elim h9_15 (fun q_19 h9_16 => ?_)
  clear h9_15
  refine Exists.elim h9_16 (fun q_20 h9_17 => ?_)
  clear h9_16
  refine Exists.elim h9_17 (fun q_21 h9_18 => ?_)
  clear h9_17
  refine Exists.elim h9_18 (fun q_22 h9_19 => ?_)
  clear h9_18
  refine Exists.elim h9_19 (fun q_23 h9_20 => ?_)
  clear h9_19
  refine Exists.elim h9_20 (fun q_24 h9_21 => ?_)
  clear h9_20
  refine Exists.elim h9_21 (fun q_25 h9_22 => ?_)
  clear h9_21
  refine Exists.elim h9_22 (fun q_26 h9_23 => ?_)
  clear h9_22
  refine Exists.elim h9_23 (fun q_27 h9_24 => ?_)
  clear h9_23
  refine Exists.elim h9_24 (fun q_28 h9_25 => ?_)
  clear h9_24
  refine Exists.elim h9_25 (fun q_29 h9_26 => ?_)
  clear h9_25
  refine Exists.elim h9_26 (fun q_30 h9_27 => ?_)
  clear h9_26
  refine Exists.elim h9_27 (fun q_31 h9_28 => ?_)
  clear h9_27
  refine Exists.elim h9_28 (fun q_32 h9_29 => ?_)
  clear h9_28
  refine Exists.elim h9_29 (fun q_33 h9_30 => ?_)
  clear h9_29
  refine Exists.elim h9_30 (fun q_34 h9_31 => ?_)
  clear h9_30
  refine Exists.elim h9_31 (fun q_35 h9_32 => ?_)
  clear h9_31
  refine Exists.elim h9_32 (fun q_36 h9_33 => ?_)
  clear h9_32
  refine Exists.elim h9_33 (fun q_37 h9_34 => ?_)
  clear h9_33
  refine Exists.elim h9_34 (fun q_38 h9_35 => ?_)
  clear h9_34
  refine Exists.elim h9_35 (fun q_39 h9_36 => ?_)
  clear h9_35
  refine Exists.elim h9_36 (fun q_40 h9_37 => ?_)
  clear h9_36
  refine Exists.elim h9_37 (fun q_41 h9_38 => ?_)
  clear h9_37
  refine Exists.elim h9_38 (fun cA_42 h9_39 => ?_)
  clear h9_38
  refine Exists.elim h9_39 (fun cA_43 h9_40 => ?_)
  clear h9_39
  refine Exists.elim h9_40 (fun cA_44 h9_41 => ?_)
  clear h9_40
  refine Exists.elim h9_41 (fun cA_45 h9_42 => ?_)
  clear h9_41
  refine Exists.elim h9_42 (fun cA_46 h9_43 => ?_)
  clear h9_42
  refine Exists.elim h9_43 (fun cA_47 h9_44 => ?_)
  clear h9_43
  refine Exists.elim h9_44 (fun cA_48 h9_45 => ?_)
  clear h9_44
  refine Exists.elim h9_45 (fun cA_49 h9_46 => ?_)
  clear h9_45
  refine Exists.elim h9_46 (fun cA_50 h9_47 => ?_)
  clear h9_46
  refine Exists.elim h9_47 (fun cA_51 h9_48 => ?_)
  clear h9_47
  refine Exists.elim h9_48 (fun cA_52 h9_49 => ?_)
  clear h9_48
  refine Exists.elim h9_49 (fun cA_53 h9_50 => ?_)
  clear h9_49
  refine Exists.elim h9_50 (fun cA_54 h9_51 => ?_)
  clear h9_50
  refine Exists.elim h9_51 (fun cA_55 h9_52 => ?_)
  clear h9_51
  refine Exists.elim h9_52 (fun cA_56 h9_53 => ?_)
  clear h9_52
  refine Exists.elim h9_53 (fun cA_57 h9_54 => ?_)
  clear h9_53
  refine Exists.elim h9_54 (fun cA_58 h9_55 => ?_)
  clear h9_54
  refine Exists.elim h9_55 (fun cA_59 h9_56 => ?_)
  clear h9_55
  refine Exists.elim h9_56 (fun cA_60 h9_57 => ?_)
  clear h9_56
  refine Exists.elim h9_57 (fun cA_61 h9_58 => ?_)
  clear h9_57
  refine Exists.elim h9_58 (fun cA_62 h9_59 => ?_)
  clear h9_58
  refine Exists.elim h9_59 (fun cA_63 h9_60 => ?_)
  clear h9_59
  refine Exists.elim h9_60 (fun cA_64 h9_61 => ?_)
  clear h9_60
  refine Exists.elim h9_61 (fun cA_65 h9_62 => ?_)
  clear h9_61
  refine Exists.elim h9_62 (fun cA_66 h9_63 => ?_)
  clear h9_62
  refine and_el h9_63 (fun hP1 h9_64 => ?_)
  clear h9_63
  refine and_el h9_64 (fun hK1 h9_65 => ?_)
  clear h9_64
  have hD1 := h9_65
  clear h9_65
  rw [ht] at hP1
  have hK1 := va_K.moved hvm.symm hK1
  obtain ⟨hP, hD⟩ := va_join (wr := []) (w1 := [(q_1, .inr (7, [.ref q_4, .ref q_6, .ref q_11, .ref q_12, .ref q_15, .ref q_25, .ref q_26, .ref q_35, .ref q_39, .ref q_41])), (q_4, .inr (6, [.ref q_5, .int 0])), (q_5, .inl (cA_42, 1200, .inl (fun _ => 0))), (q_6, .inr (3, [.int 0, .int 0, .int 0, .int 0, .int 0, .ref q_7, .ref q_8, .ref q_9, .ref q_10])), (q_7, .inl (cA_43, 9, .inl (fun _ => 0))), (q_8, .inl (cA_44, 600, .inl (fun _ => 0))), (q_9, .inl (cA_45, 600, .inr (.inl (fun _ => 0)))), (q_10, .inl (cA_46, 600, .inr (.inl (fun _ => 0)))), (q_11, .inr (0, [.ref q_4, .ref q_6, .int 0, .int (-1), .int 0, .int 0, .int 0, .int 0, .int 0])), (q_12, .inr (1, [.int 0, .int 0, .int 0, .int 0, .int 0, .ref q_13, .ref q_14])), (q_13, .inl (cA_47, 0, .inr (.inl (fun _ => 0)))), (q_14, .inl (cA_48, 0, .inl (fun _ => 0))), (q_15, .inl (cA_49, 3, .inr (.inr (.inr (.inr (sf3 q_16 q_19 q_22)))))), (q_16, .inr (1, [.int 0, .int 0, .int 0, .int 0, .int 0, .ref q_17, .ref q_18])), (q_17, .inl (cA_50, 0, .inr (.inl (fun _ => 0)))), (q_18, .inl (cA_51, 0, .inl (fun _ => 0))), (q_19, .inr (1, [.int 0, .int 0, .int 0, .int 0, .int 0, .ref q_20, .ref q_21])), (q_20, .inl (cA_52, 0, .inr (.inl (fun _ => 0)))), (q_21, .inl (cA_53, 0, .inl (fun _ => 0))), (q_22, .inr (1, [.int 0, .int 0, .int 0, .int 0, .int 0, .ref q_23, .ref q_24])), (q_23, .inl (cA_54, 0, .inr (.inl (fun _ => 0)))), (q_24, .inl (cA_55, 0, .inl (fun _ => 0))), (q_25, .inl (cA_56, 3, .inl (fun _ => 0))), (q_26, .inl (cA_57, 4, .inr (.inr (.inr (.inr (sf4 q_27 q_29 q_31 q_33)))))), (q_27, .inr (2, [.int (-1), .int 0, .ref q_28])), (q_28, .inl (cA_58, 60, .inr (.inl (fun _ => 0)))), (q_29, .inr (2, [.int (-1), .int 0, .ref q_30])), (q_30, .inl (cA_59, 60, .inr (.inl (fun _ => 0)))), (q_31, .inr (2, [.int (-1), .int 0, .ref q_32])), (q_32, .inl (cA_60, 60, .inr (.inl (fun _ => 0)))), (q_33, .inr (2, [.int (-1), .int 0, .ref q_34])), (q_34, .inl (cA_61, 60, .inr (.inl (fun _ => 0)))), (q_35, .inr (4, [.ref q_36, .ref q_37, .ref q_38])), (q_36, .inl (cA_62, 0, .inl (fun _ => 0))), (q_37, .inl (cA_63, 0, .inl (fun _ => 0))), (q_38, .inl (cA_64, 0, .inl (fun _ => 0))), (q_39, .inr (5, [.ref q_40])), (q_40, .inl (cA_65, 181, .inr (.inl (fun _ => 0)))), (q_41, .inl (cA_66, 16, .inl (fun _ => 0)))]) hP hD [0] [] rfl rfl (by decide) (by decide) hk1 hFc hP1 hD1
  have hK := (hK.sub (tys' := []) [] rfl).app hK1
  generalize H1 = H at hP hS ⊢
  have hP : va_P (dC, dI) vwCl [(q_1, .inr (7, [.ref q_4, .ref q_6, .ref q_11, .ref q_12, .ref q_15, .ref q_25, .ref q_26, .ref q_35, .ref q_39, .ref q_41])), (q_4, .inr (6, [.ref q_5, .int 0])), (q_5, .inl (cA_42, 1200, .inl (fun _ => 0))), (q_6, .inr (3, [.int 0, .int 0, .int 0, .int 0, .int 0, .ref q_7, .ref q_8, .ref q_9, .ref q_10])), (q_7, .inl (cA_43, 9, .inl (fun _ => 0))), (q_8, .inl (cA_44, 600, .inl (fun _ => 0))), (q_9, .inl (cA_45, 600, .inr (.inl (fun _ => 0)))), (q_10, .inl (cA_46, 600, .inr (.inl (fun _ => 0)))), (q_11, .inr (0, [.ref q_4, .ref q_6, .int 0, .int (-1), .int 0, .int 0, .int 0, .int 0, .int 0])), (q_12, .inr (1, [.int 0, .int 0, .int 0, .int 0, .int 0, .ref q_13, .ref q_14])), (q_13, .inl (cA_47, 0, .inr (.inl (fun _ => 0)))), (q_14, .inl (cA_48, 0, .inl (fun _ => 0))), (q_15, .inl (cA_49, 3, .inr (.inr (.inr (.inr (sf3 q_16 q_19 q_22)))))), (q_16, .inr (1, [.int 0, .int 0, .int 0, .int 0, .int 0, .ref q_17, .ref q_18])), (q_17, .inl (cA_50, 0, .inr (.inl (fun _ => 0)))), (q_18, .inl (cA_51, 0, .inl (fun _ => 0))), (q_19, .inr (1, [.int 0, .int 0, .int 0, .int 0, .int 0, .ref q_20, .ref q_21])), (q_20, .inl (cA_52, 0, .inr (.inl (fun _ => 0)))), (q_21, .inl (cA_53, 0, .inl (fun _ => 0))), (q_22, .inr (1, [.int 0, .int 0, .int 0, .int 0, .int 0, .ref q_23, .ref q_24])), (q_23, .inl (cA_54, 0, .inr (.inl (fun _ => 0)))), (q_24, .inl (cA_55, 0, .inl (fun _ => 0))), (q_25, .inl (cA_56, 3, .inl (fun _ => 0))), (q_26, .inl (cA_57, 4, .inr (.inr (.inr (.inr (sf4 q_27 q_29 q_31 q_33)))))), (q_27, .inr (2, [.int (-1), .int 0, .ref q_28])), (q_28, .inl (cA_58, 60, .inr (.inl (fun _ => 0)))), (q_29, .inr (2, [.int (-1), .int 0, .ref q_30])), (q_30, .inl (cA_59, 60, .inr (.inl (fun _ => 0)))), (q_31, .inr (2, [.int (-1), .int 0, .ref q_32])), (q_32, .inl (cA_60, 60, .inr (.inl (fun _ => 0)))), (q_33, .inr (2, [.int (-1), .int 0, .ref q_34])), (q_34, .inl (cA_61, 60, .inr (.inl (fun _ => 0)))), (q_35, .inr (4, [.ref q_36, .ref q_37, .ref q_38])), (q_36, .inl (cA_62, 0, .inl (fun _ => 0))), (q_37, .inl (cA_63, 0, .inl (fun _ => 0))), (q_38, .inl (cA_64, 0, .inl (fun _ => 0))), (q_39, .inr (5, [.ref q_40])), (q_40, .inl (cA_65, 181, .inr (.inl (fun _ => 0)))), (q_41, .inl (cA_66, 16, .inl (fun _ => 0)))] H := hP
  have hD : va_D (fun q : Nat => s.heap.size ≤ q) [(q_1, .inr (7, [.ref q_4, .ref q_6, .ref q_11, .ref q_12, .ref q_15, .ref q_25, .ref q_26, .ref q_35, .ref q_39, .ref q_41])), (q_4, .inr (6, [.ref q_5, .int 0])), (q_5, .inl (cA_42, 1200, .inl (fun _ => 0))), (q_6, .inr (3, [.int 0, .int 0, .int 0, .int 0, .int 0, .ref q_7, .ref q_8, .ref q_9, .ref q_10])), (q_7, .inl (cA_43, 9, .inl (fun _ => 0))), (q_8, .inl (cA_44, 600, .inl (fun _ => 0))), (q_9, .inl (cA_45, 600, .inr (.inl (fun _ => 0)))), (q_10, .inl (cA_46, 600, .inr (.inl (fun _ => 0)))), (q_11, .inr (0, [.ref q_4, .ref q_6, .int 0, .int (-1), .int 0, .int 0, .int 0, .int 0, .int 0])), (q_12, .inr (1, [.int 0, .int 0, .int 0, .int 0, .int 0, .ref q_13, .ref q_14])), (q_13, .inl (cA_47, 0, .inr (.inl (fun _ => 0)))), (q_14, .inl (cA_48, 0, .inl (fun _ => 0))), (q_15, .inl (cA_49, 3, .inr (.inr (.inr (.inr (sf3 q_16 q_19 q_22)))))), (q_16, .inr (1, [.int 0, .int 0, .int 0, .int 0, .int 0, .ref q_17, .ref q_18])), (q_17, .inl (cA_50, 0, .inr (.inl (fun _ => 0)))), (q_18, .inl (cA_51, 0, .inl (fun _ => 0))), (q_19, .inr (1, [.int 0, .int 0, .int 0, .int 0, .int 0, .ref q_20, .ref q_21])), (q_20, .inl (cA_52, 0, .inr (.inl (fun _ => 0)))), (q_21, .inl (cA_53, 0, .inl (fun _ => 0))), (q_22, .inr (1, [.int 0, .int 0, .int 0, .int 0, .int 0, .ref q_23, .ref q_24])), (q_23, .inl (cA_54, 0, .inr (.inl (fun _ => 0)))), (q_24, .inl (cA_55, 0, .inl (fun _ => 0))), (q_25, .inl (cA_56, 3, .inl (fun _ => 0))), (q_26, .inl (cA_57, 4, .inr (.inr (.inr (.inr (sf4 q_27 q_29 q_31 q_33)))))), (q_27, .inr (2, [.int (-1), .int 0, .ref q_28])), (q_28, .inl (cA_58, 60, .inr (.inl (fun _ => 0)))), (q_29, .inr (2, [.int (-1), .int 0, .ref q_30])), (q_30, .inl (cA_59, 60, .inr (.inl (fun _ => 0)))), (q_31, .inr (2, [.int (-1), .int 0, .ref q_32])), (q_32, .inl (cA_60, 60, .inr (.inl (fun _ => 0)))), (q_33, .inr (2, [.int (-1), .int 0, .ref q_34])), (q_34, .inl (cA_61, 60, .inr (.inl (fun _ => 0)))), (q_35, .inr (4, [.ref q_36, .ref q_37, .ref q_38])), (q_36, .inl (cA_62, 0, .inl (fun _ => 0))), (q_37, .inl (cA_63, 0, .inl (fun _ => 0))), (q_38, .inl (cA_64, 0, .inl (fun _ => 0))), (q_39, .inr (5, [.ref q_40])), (q_40, .inl (cA_65, 181, .inr (.inl (fun _ => 0)))), (q_41, .inl (cA_66, 16, .inl (fun _ => 0)))] := hD
  have hK : va_K (dC, dI) vwCl [(cA_42, .byte), (cA_43, .int), (cA_44, .int), (cA_45, .long), (cA_46, .long), (cA_47, .long), (cA_48, .int), (cA_49, .object RX2), (cA_50, .long), (cA_51, .int), (cA_52, .long), (cA_53, .int), (cA_54, .long), (cA_55, .int), (cA_56, .boolean), (cA_57, .object RX3), (cA_58, .long), (cA_59, .long), (cA_60, .long), (cA_61, .long), (cA_62, .int), (cA_63, .int), (cA_64, .byte), (cA_65, .long), (cA_66, .int)] s := hK
  refine W.widen (k := 39) (n := 3530) (lel _ _ rfl) (lel _ _ rfl) ?_
  refine lv_astore_n (lv' := [(1, .ref q_1), (0, .ref b)]) hx hb dL_law_7 rfl hl (by decide) rfl (fun ls hl => ?_)
  refine va_new (ci := 8) (fs := [.int 0, .null, .null, .null, .null, .null, .int 0, .null, .int 0, .int 0, .int 0, .int 0, .int 0, .int 0, .int 0, .null, .null, .int 0, .int 0, .int 0, .null, .null, .long 0, .null, .null, .null, .null, .null, .null, .null, .null, .null, .null]) (C := RX10) (T := TX10) (N := 33) hx hb hts inX10 tyX10 tyX10_ok hown (hts (.classLink RL 10 RX10) (tb_5 (List.mem_of_getElem? (i := 60) rfl))) (hts (.instantiable RX10 33) (tb_5 (List.mem_of_getElem? (i := 61) rfl))) (hts (.initialized RX10) (tb_1 (List.mem_of_getElem? (i := 9) rfl))) hK hP hD hS hA rfl (fun j hj => by rcases (show j = 0 ∨ j = 1 ∨ j = 2 ∨ j = 3 ∨ j = 4 ∨ j = 5 ∨ j = 6 ∨ j = 7 ∨ j = 8 ∨ j = 9 ∨ j = 10 ∨ j = 11 ∨ j = 12 ∨ j = 13 ∨ j = 14 ∨ j = 15 ∨ j = 16 ∨ j = 17 ∨ j = 18 ∨ j = 19 ∨ j = 20 ∨ j = 21 ∨ j = 22 ∨ j = 23 ∨ j = 24 ∨ j = 25 ∨ j = 26 ∨ j = 27 ∨ j = 28 ∨ j = 29 ∨ j = 30 ∨ j = 31 ∨ j = 32 by omega) with rfl | rfl | rfl | rfl | rfl | rfl | rfl | rfl | rfl | rfl | rfl | rfl | rfl | rfl | rfl | rfl | rfl | rfl | rfl | rfl | rfl | rfl | rfl | rfl | rfl | rfl | rfl | rfl | rfl | rfl | rfl | rfl | rfl <;> rfl) (lel 40 600000 rfl) (lel 3563 7302250 rfl) dL_law_8 (fun q_67 H hP hD hS => ?_)
  have hP : va_P (dC, dI) vwCl [(q_1, .inr (7, [.ref q_4, .ref q_6, .ref q_11, .ref q_12, .ref q_15, .ref q_25, .ref q_26, .ref q_35, .ref q_39, .ref q_41])), (q_4, .inr (6, [.ref q_5, .int 0])), (q_5, .inl (cA_42, 1200, .inl (fun _ => 0))), (q_6, .inr (3, [.int 0, .int 0, .int 0, .int 0, .int 0, .ref q_7, .ref q_8, .ref q_9, .ref q_10])), (q_7, .inl (cA_43, 9, .inl (fun _ => 0))), (q_8, .inl (cA_44, 600, .inl (fun _ => 0))), (q_9, .inl (cA_45, 600, .inr (.inl (fun _ => 0)))), (q_10, .inl (cA_46, 600, .inr (.inl (fun _ => 0)))), (q_11, .inr (0, [.ref q_4, .ref q_6, .int 0, .int (-1), .int 0, .int 0, .int 0, .int 0, .int 0])), (q_12, .inr (1, [.int 0, .int 0, .int 0, .int 0, .int 0, .ref q_13, .ref q_14])), (q_13, .inl (cA_47, 0, .inr (.inl (fun _ => 0)))), (q_14, .inl (cA_48, 0, .inl (fun _ => 0))), (q_15, .inl (cA_49, 3, .inr (.inr (.inr (.inr (sf3 q_16 q_19 q_22)))))), (q_16, .inr (1, [.int 0, .int 0, .int 0, .int 0, .int 0, .ref q_17, .ref q_18])), (q_17, .inl (cA_50, 0, .inr (.inl (fun _ => 0)))), (q_18, .inl (cA_51, 0, .inl (fun _ => 0))), (q_19, .inr (1, [.int 0, .int 0, .int 0, .int 0, .int 0, .ref q_20, .ref q_21])), (q_20, .inl (cA_52, 0, .inr (.inl (fun _ => 0)))), (q_21, .inl (cA_53, 0, .inl (fun _ => 0))), (q_22, .inr (1, [.int 0, .int 0, .int 0, .int 0, .int 0, .ref q_23, .ref q_24])), (q_23, .inl (cA_54, 0, .inr (.inl (fun _ => 0)))), (q_24, .inl (cA_55, 0, .inl (fun _ => 0))), (q_25, .inl (cA_56, 3, .inl (fun _ => 0))), (q_26, .inl (cA_57, 4, .inr (.inr (.inr (.inr (sf4 q_27 q_29 q_31 q_33)))))), (q_27, .inr (2, [.int (-1), .int 0, .ref q_28])), (q_28, .inl (cA_58, 60, .inr (.inl (fun _ => 0)))), (q_29, .inr (2, [.int (-1), .int 0, .ref q_30])), (q_30, .inl (cA_59, 60, .inr (.inl (fun _ => 0)))), (q_31, .inr (2, [.int (-1), .int 0, .ref q_32])), (q_32, .inl (cA_60, 60, .inr (.inl (fun _ => 0)))), (q_33, .inr (2, [.int (-1), .int 0, .ref q_34])), (q_34, .inl (cA_61, 60, .inr (.inl (fun _ => 0)))), (q_35, .inr (4, [.ref q_36, .ref q_37, .ref q_38])), (q_36, .inl (cA_62, 0, .inl (fun _ => 0))), (q_37, .inl (cA_63, 0, .inl (fun _ => 0))), (q_38, .inl (cA_64, 0, .inl (fun _ => 0))), (q_39, .inr (5, [.ref q_40])), (q_40, .inl (cA_65, 181, .inr (.inl (fun _ => 0)))), (q_41, .inl (cA_66, 16, .inl (fun _ => 0))), (q_67, .inr (8, [.int 0, .null, .null, .null, .null, .null, .int 0, .null, .int 0, .int 0, .int 0, .int 0, .int 0, .int 0, .int 0, .null, .null, .int 0, .int 0, .int 0, .null, .null, .long 0, .null, .null, .null, .null, .null, .null, .null, .null, .null, .null]))] H := hP
  have hD : va_D (fun q : Nat => s.heap.size ≤ q) [(q_1, .inr (7, [.ref q_4, .ref q_6, .ref q_11, .ref q_12, .ref q_15, .ref q_25, .ref q_26, .ref q_35, .ref q_39, .ref q_41])), (q_4, .inr (6, [.ref q_5, .int 0])), (q_5, .inl (cA_42, 1200, .inl (fun _ => 0))), (q_6, .inr (3, [.int 0, .int 0, .int 0, .int 0, .int 0, .ref q_7, .ref q_8, .ref q_9, .ref q_10])), (q_7, .inl (cA_43, 9, .inl (fun _ => 0))), (q_8, .inl (cA_44, 600, .inl (fun _ => 0))), (q_9, .inl (cA_45, 600, .inr (.inl (fun _ => 0)))), (q_10, .inl (cA_46, 600, .inr (.inl (fun _ => 0)))), (q_11, .inr (0, [.ref q_4, .ref q_6, .int 0, .int (-1), .int 0, .int 0, .int 0, .int 0, .int 0])), (q_12, .inr (1, [.int 0, .int 0, .int 0, .int 0, .int 0, .ref q_13, .ref q_14])), (q_13, .inl (cA_47, 0, .inr (.inl (fun _ => 0)))), (q_14, .inl (cA_48, 0, .inl (fun _ => 0))), (q_15, .inl (cA_49, 3, .inr (.inr (.inr (.inr (sf3 q_16 q_19 q_22)))))), (q_16, .inr (1, [.int 0, .int 0, .int 0, .int 0, .int 0, .ref q_17, .ref q_18])), (q_17, .inl (cA_50, 0, .inr (.inl (fun _ => 0)))), (q_18, .inl (cA_51, 0, .inl (fun _ => 0))), (q_19, .inr (1, [.int 0, .int 0, .int 0, .int 0, .int 0, .ref q_20, .ref q_21])), (q_20, .inl (cA_52, 0, .inr (.inl (fun _ => 0)))), (q_21, .inl (cA_53, 0, .inl (fun _ => 0))), (q_22, .inr (1, [.int 0, .int 0, .int 0, .int 0, .int 0, .ref q_23, .ref q_24])), (q_23, .inl (cA_54, 0, .inr (.inl (fun _ => 0)))), (q_24, .inl (cA_55, 0, .inl (fun _ => 0))), (q_25, .inl (cA_56, 3, .inl (fun _ => 0))), (q_26, .inl (cA_57, 4, .inr (.inr (.inr (.inr (sf4 q_27 q_29 q_31 q_33)))))), (q_27, .inr (2, [.int (-1), .int 0, .ref q_28])), (q_28, .inl (cA_58, 60, .inr (.inl (fun _ => 0)))), (q_29, .inr (2, [.int (-1), .int 0, .ref q_30])), (q_30, .inl (cA_59, 60, .inr (.inl (fun _ => 0)))), (q_31, .inr (2, [.int (-1), .int 0, .ref q_32])), (q_32, .inl (cA_60, 60, .inr (.inl (fun _ => 0)))), (q_33, .inr (2, [.int (-1), .int 0, .ref q_34])), (q_34, .inl (cA_61, 60, .inr (.inl (fun _ => 0)))), (q_35, .inr (4, [.ref q_36, .ref q_37, .ref q_38])), (q_36, .inl (cA_62, 0, .inl (fun _ => 0))), (q_37, .inl (cA_63, 0, .inl (fun _ => 0))), (q_38, .inl (cA_64, 0, .inl (fun _ => 0))), (q_39, .inr (5, [.ref q_40])), (q_40, .inl (cA_65, 181, .inr (.inl (fun _ => 0)))), (q_41, .inl (cA_66, 16, .inl (fun _ => 0))), (q_67, .inr (8, [.int 0, .null, .null, .null, .null, .null, .int 0, .null, .int 0, .int 0, .int 0, .int 0, .int 0, .int 0, .int 0, .null, .null, .int 0, .int 0, .int 0, .null, .null, .long 0, .null, .null, .null, .null, .null, .null, .null, .null, .null, .null]))] := hD
  refine W.widen (k := 40) (n := 3563) (lel _ _ rfl) (lel _ _ rfl) ?_
  refine lv_dup hx hb dL_law_11 rfl ?_
  have hFc := va_free (wc := [(q_67, .inr (8, [.int 0, .null, .null, .null, .null, .null, .int 0, .null, .int 0, .int 0, .int 0, .int 0, .int 0, .int 0, .int 0, .null, .null, .int 0, .int 0, .int 0, .null, .null, .long 0, .null, .null, .null, .null, .null, .null, .null, .null, .null, .null]))]) hD hS hA [39] rfl
  refine va_callv (va_runI (As := []) (rest := [.ref q_67]) ⟨hx, hb, hml, hown, hts⟩ (kX10_init l dC dI q_67 (H.size)) (cwI 0 hts gL_start__X10_init_I rfl rfl rfl (hts (.initialized RX10) (tb_1 (List.mem_of_getElem? (i := 9) rfl))) (hts (.methodLink RL 12 yX10_init) (tb_5 (List.mem_of_getElem? (i := 62) rfl))) (hts (.instanceMethod yX10_init) (tb_5 (List.mem_of_getElem? (i := 63) rfl))) rfl (by decide +kernel) ⟨lel 2 2048 rfl, lel 32 84000 rfl⟩) ⟨hw_fb, (hw_use hP hD hK hN [39] rfl (by decide) rfl [] rfl)⟩ rfl rfl hl.1 rfl (lv_room (Nat.le_of_ble_eq_true rfl)) dL_law_12 ⟨lel 60 600000 rfl, lel 75000 7302250 rfl⟩) hS (fun q _ h => hFc q h) hFc (fun u_69 t H1 locs ht hvm hwr_68 hB hz1 hk1 hS => ?_)
  have h9_0 := hB
  clear hB
  refine Exists.elim h9_0 (fun q_70 h9_1 => ?_)
  clear h9_0
  refine Exists.elim h9_1 (fun q_71 h9_2 => ?_)
  clear h9_1
  refine Exists.elim h9_2 (fun q_72 h9_3 => ?_)
  clear h9_2
  refine Exists.elim h9_3 (fun q_73 h9_4 => ?_)
  clear h9_3
  refine Exists.elim h9_4 (fun q_74 h9_5 => ?_)
  clear h9_4
  refine Exists.elim h9_5 (fun q_75 h9_6 => ?_)
  clear h9_5
  refine Exists.elim h9_6 (fun q_76 h9_7 => ?_)
  clear h9_6
  refine Exists.elim h9_7 (fun q_77 h9_8 => ?_)
  clear h9_7
  refine Exists.elim h9_8 (fun q_78 h9_9 => ?_)
  clear h9_8
  refine Exists.elim h9_9 (fun q_79 h9_10 => ?_)
  clear h9_9
  refine Exists.elim h9_10 (fun q_80 h9_11 => ?_)
  clear h9_10
  refine Exists.elim h9_11 (fun q_81 h9_12 => ?_)
  clear h9_11
  refine Exists.elim h9_12 (fun q_82 h9_13 => ?_)
  clear h9_12
  refine Exists.elim h9_13 (fun q_83 h9_14 => ?_)
  clear h9_13
  refine Exists.elim h9_14 (fun q_84 h9_15 => ?_)
  clear h9_14
  refine Exists.elim h9_15 (fun q_85 h9_16 => ?_)
  clear h9_15
  refine Exists.elim h9_16 (fun q_86 h9_17 => ?_)
  clear h9_16
  refine Exists.elim h9_17 (fun q_87 h9_18 => ?_)
  clear h9_17
  refine Exists.elim h9_18 (fun q_88 h9_19 => ?_)
  clear h9_18
  refine Exists.elim h9_19 (fun q_89 h9_20 => ?_)
  clear h9_19
  refine Exists.elim h9_20 (fun cA_90 h9_21 => ?_)
  clear h9_20
  refine Exists.elim h9_21 (fun cA_91 h9_22 => ?_)
  clear h9_21
  refine Exists.elim h9_22 (fun cA_92 h9_23 => ?_)
  clear h9_22
  refine Exists.elim h9_23 (fun cA_93 h9_24 => ?_)
  clear h9_23
  refine Exists.elim h9_24 (fun cA_94 h9_25 => ?_)
  clear h9_24
  refine Exists.elim h9_25 (fun cA_95 h9_26 => ?_)
  clear h9_25
  refine Exists.elim h9_26 (fun cA_96 h9_27 => ?_)
  clear h9_26
  refine Exists.elim h9_27 (fun cA_97 h9_28 => ?_)
  clear h9_27
  refine Exists.elim h9_28 (fun cA_98 h9_29 => ?_)
  clear h9_28
  refine Exists.elim h9_29 (fun cA_99 h9_30 => ?_)
  clear h9_29
  refine Exists.elim h9_30 (fun cA_100 h9_31 => ?_)
  clear h9_30
  refine Exists.elim h9_31 (fun cA_101 h9_32 => ?_)
  clear h9_31
  refine Exists.elim h9_32 (fun cA_102 h9_33 => ?_)
  clear h9_32
  refine Exists.elim h9_33 (fun cA_103 h9_34 => ?_)
  clear h9_33
  refine Exists.elim h9_34 (fun cA_104 h9_35 => ?_)
  clear h9_34
  refine Exists.elim h9_35 (fun cA_105 h9_36 => ?_)
  clear h9_35
  refine Exists.elim h9_36 (fun cA_106 h9_37 => ?_)
  clear h9_36
  refine Exists.elim h9_37 (fun cA_107 h9_38 => ?_)
  clear h9_37
  refine Exists.elim h9_38 (fun cA_108 h9_39 => ?_)
  clear h9_38
  refine Exists.elim h9_39 (fun cA_109 h9_40 => ?_)
  clear h9_39
  refine and_el h9_40 (fun hP1 h9_41 => ?_)
  clear h9_40
  refine and_el h9_41 (fun hK1 h9_42 => ?_)
  clear h9_41
  have hD1 := h9_42
  clear h9_42
  rw [ht] at hP1
  have hK1 := va_K.moved hvm.symm hK1
  obtain ⟨hP, hD⟩ := va_join (wr := [(q_1, .inr (7, [.ref q_4, .ref q_6, .ref q_11, .ref q_12, .ref q_15, .ref q_25, .ref q_26, .ref q_35, .ref q_39, .ref q_41])), (q_4, .inr (6, [.ref q_5, .int 0])), (q_5, .inl (cA_42, 1200, .inl (fun _ => 0))), (q_6, .inr (3, [.int 0, .int 0, .int 0, .int 0, .int 0, .ref q_7, .ref q_8, .ref q_9, .ref q_10])), (q_7, .inl (cA_43, 9, .inl (fun _ => 0))), (q_8, .inl (cA_44, 600, .inl (fun _ => 0))), (q_9, .inl (cA_45, 600, .inr (.inl (fun _ => 0)))), (q_10, .inl (cA_46, 600, .inr (.inl (fun _ => 0)))), (q_11, .inr (0, [.ref q_4, .ref q_6, .int 0, .int (-1), .int 0, .int 0, .int 0, .int 0, .int 0])), (q_12, .inr (1, [.int 0, .int 0, .int 0, .int 0, .int 0, .ref q_13, .ref q_14])), (q_13, .inl (cA_47, 0, .inr (.inl (fun _ => 0)))), (q_14, .inl (cA_48, 0, .inl (fun _ => 0))), (q_15, .inl (cA_49, 3, .inr (.inr (.inr (.inr (sf3 q_16 q_19 q_22)))))), (q_16, .inr (1, [.int 0, .int 0, .int 0, .int 0, .int 0, .ref q_17, .ref q_18])), (q_17, .inl (cA_50, 0, .inr (.inl (fun _ => 0)))), (q_18, .inl (cA_51, 0, .inl (fun _ => 0))), (q_19, .inr (1, [.int 0, .int 0, .int 0, .int 0, .int 0, .ref q_20, .ref q_21])), (q_20, .inl (cA_52, 0, .inr (.inl (fun _ => 0)))), (q_21, .inl (cA_53, 0, .inl (fun _ => 0))), (q_22, .inr (1, [.int 0, .int 0, .int 0, .int 0, .int 0, .ref q_23, .ref q_24])), (q_23, .inl (cA_54, 0, .inr (.inl (fun _ => 0)))), (q_24, .inl (cA_55, 0, .inl (fun _ => 0))), (q_25, .inl (cA_56, 3, .inl (fun _ => 0))), (q_26, .inl (cA_57, 4, .inr (.inr (.inr (.inr (sf4 q_27 q_29 q_31 q_33)))))), (q_27, .inr (2, [.int (-1), .int 0, .ref q_28])), (q_28, .inl (cA_58, 60, .inr (.inl (fun _ => 0)))), (q_29, .inr (2, [.int (-1), .int 0, .ref q_30])), (q_30, .inl (cA_59, 60, .inr (.inl (fun _ => 0)))), (q_31, .inr (2, [.int (-1), .int 0, .ref q_32])), (q_32, .inl (cA_60, 60, .inr (.inl (fun _ => 0)))), (q_33, .inr (2, [.int (-1), .int 0, .ref q_34])), (q_34, .inl (cA_61, 60, .inr (.inl (fun _ => 0)))), (q_35, .inr (4, [.ref q_36, .ref q_37, .ref q_38])), (q_36, .inl (cA_62, 0, .inl (fun _ => 0))), (q_37, .inl (cA_63, 0, .inl (fun _ => 0))), (q_38, .inl (cA_64, 0, .inl (fun _ => 0))), (q_39, .inr (5, [.ref q_40])), (q_40, .inl (cA_65, 181, .inr (.inl (fun _ => 0)))), (q_41, .inl (cA_66, 16, .inl (fun _ => 0)))]) (w1 := [(q_67, .inr (8, [.int 0, .ref q_70, .ref q_71, .ref q_72, .ref q_73, .ref q_74, .int 0, .ref q_75, .int 0, .int 0, .int 0, .int 0, .int 0, .int 0, .int (-1), .ref q_76, .ref q_77, .int 0, .int 0, .int 0, .ref q_78, .ref q_79, .long 0, .ref q_80, .ref q_81, .ref q_82, .ref q_83, .ref q_84, .ref q_85, .ref q_86, .ref q_87, .ref q_88, .ref q_89])), (q_70, .inl (cA_90, 1875, .inl (fun _ => 0))), (q_71, .inl (cA_91, 5625, .inl (fun _ => 0))), (q_72, .inl (cA_92, 3, .inl (fun _ => 0))), (q_73, .inl (cA_93, 20000, .inl (fun _ => 0))), (q_74, .inl (cA_94, 1200, .inl (fun _ => 0))), (q_75, .inl (cA_95, 5, .inl (fun _ => 0))), (q_76, .inl (cA_96, 1875, .inl (fun _ => 0))), (q_77, .inl (cA_97, 78, .inl (fun _ => 0))), (q_78, .inl (cA_98, 12, .inl (fun _ => 0))), (q_79, .inl (cA_99, 26, .inl (fun _ => 0))), (q_80, .inl (cA_100, 16, .inl (fun _ => 0))), (q_81, .inl (cA_101, 20000, .inl (fun _ => 0))), (q_82, .inl (cA_102, 20000, .inl (fun _ => 0))), (q_83, .inl (cA_103, 12, .inl monthsF)), (q_84, .inl (cA_104, 201, .inr (.inl (fun _ => 0)))), (q_85, .inl (cA_105, 201, .inr (.inl (fun _ => 0)))), (q_86, .inl (cA_106, 4, .inl manyF)), (q_87, .inl (cA_107, 4, .inl (fun _ => 0))), (q_88, .inl (cA_108, 240, .inr (.inl (fun _ => 0)))), (q_89, .inl (cA_109, 60, .inr (.inl (fun _ => 0))))]) hP hD [39] [0, 1, 2, 3, 4, 5, 6, 7, 8, 9, 10, 11, 12, 13, 14, 15, 16, 17, 18, 19, 20, 21, 22, 23, 24, 25, 26, 27, 28, 29, 30, 31, 32, 33, 34, 35, 36, 37, 38] rfl rfl (by decide) (by decide) hk1 hFc hP1 hD1
  have hK := (hK.sub (tys' := [(cA_42, .byte), (cA_43, .int), (cA_44, .int), (cA_45, .long), (cA_46, .long), (cA_47, .long), (cA_48, .int), (cA_49, .object RX2), (cA_50, .long), (cA_51, .int), (cA_52, .long), (cA_53, .int), (cA_54, .long), (cA_55, .int), (cA_56, .boolean), (cA_57, .object RX3), (cA_58, .long), (cA_59, .long), (cA_60, .long), (cA_61, .long), (cA_62, .int), (cA_63, .int), (cA_64, .byte), (cA_65, .long), (cA_66, .int)]) [0, 1, 2, 3, 4, 5, 6, 7, 8, 9, 10, 11, 12, 13, 14, 15, 16, 17, 18, 19, 20, 21, 22, 23, 24] rfl).app hK1
  generalize H1 = H at hP hS ⊢
  have hP : va_P (dC, dI) vwCl [(q_1, .inr (7, [.ref q_4, .ref q_6, .ref q_11, .ref q_12, .ref q_15, .ref q_25, .ref q_26, .ref q_35, .ref q_39, .ref q_41])), (q_4, .inr (6, [.ref q_5, .int 0])), (q_5, .inl (cA_42, 1200, .inl (fun _ => 0))), (q_6, .inr (3, [.int 0, .int 0, .int 0, .int 0, .int 0, .ref q_7, .ref q_8, .ref q_9, .ref q_10])), (q_7, .inl (cA_43, 9, .inl (fun _ => 0))), (q_8, .inl (cA_44, 600, .inl (fun _ => 0))), (q_9, .inl (cA_45, 600, .inr (.inl (fun _ => 0)))), (q_10, .inl (cA_46, 600, .inr (.inl (fun _ => 0)))), (q_11, .inr (0, [.ref q_4, .ref q_6, .int 0, .int (-1), .int 0, .int 0, .int 0, .int 0, .int 0])), (q_12, .inr (1, [.int 0, .int 0, .int 0, .int 0, .int 0, .ref q_13, .ref q_14])), (q_13, .inl (cA_47, 0, .inr (.inl (fun _ => 0)))), (q_14, .inl (cA_48, 0, .inl (fun _ => 0))), (q_15, .inl (cA_49, 3, .inr (.inr (.inr (.inr (sf3 q_16 q_19 q_22)))))), (q_16, .inr (1, [.int 0, .int 0, .int 0, .int 0, .int 0, .ref q_17, .ref q_18])), (q_17, .inl (cA_50, 0, .inr (.inl (fun _ => 0)))), (q_18, .inl (cA_51, 0, .inl (fun _ => 0))), (q_19, .inr (1, [.int 0, .int 0, .int 0, .int 0, .int 0, .ref q_20, .ref q_21])), (q_20, .inl (cA_52, 0, .inr (.inl (fun _ => 0)))), (q_21, .inl (cA_53, 0, .inl (fun _ => 0))), (q_22, .inr (1, [.int 0, .int 0, .int 0, .int 0, .int 0, .ref q_23, .ref q_24])), (q_23, .inl (cA_54, 0, .inr (.inl (fun _ => 0)))), (q_24, .inl (cA_55, 0, .inl (fun _ => 0))), (q_25, .inl (cA_56, 3, .inl (fun _ => 0))), (q_26, .inl (cA_57, 4, .inr (.inr (.inr (.inr (sf4 q_27 q_29 q_31 q_33)))))), (q_27, .inr (2, [.int (-1), .int 0, .ref q_28])), (q_28, .inl (cA_58, 60, .inr (.inl (fun _ => 0)))), (q_29, .inr (2, [.int (-1), .int 0, .ref q_30])), (q_30, .inl (cA_59, 60, .inr (.inl (fun _ => 0)))), (q_31, .inr (2, [.int (-1), .int 0, .ref q_32])), (q_32, .inl (cA_60, 60, .inr (.inl (fun _ => 0)))), (q_33, .inr (2, [.int (-1), .int 0, .ref q_34])), (q_34, .inl (cA_61, 60, .inr (.inl (fun _ => 0)))), (q_35, .inr (4, [.ref q_36, .ref q_37, .ref q_38])), (q_36, .inl (cA_62, 0, .inl (fun _ => 0))), (q_37, .inl (cA_63, 0, .inl (fun _ => 0))), (q_38, .inl (cA_64, 0, .inl (fun _ => 0))), (q_39, .inr (5, [.ref q_40])), (q_40, .inl (cA_65, 181, .inr (.inl (fun _ => 0)))), (q_41, .inl (cA_66, 16, .inl (fun _ => 0))), (q_67, .inr (8, [.int 0, .ref q_70, .ref q_71, .ref q_72, .ref q_73, .ref q_74, .int 0, .ref q_75, .int 0, .int 0, .int 0, .int 0, .int 0, .int 0, .int (-1), .ref q_76, .ref q_77, .int 0, .int 0, .int 0, .ref q_78, .ref q_79, .long 0, .ref q_80, .ref q_81, .ref q_82, .ref q_83, .ref q_84, .ref q_85, .ref q_86, .ref q_87, .ref q_88, .ref q_89])), (q_70, .inl (cA_90, 1875, .inl (fun _ => 0))), (q_71, .inl (cA_91, 5625, .inl (fun _ => 0))), (q_72, .inl (cA_92, 3, .inl (fun _ => 0))), (q_73, .inl (cA_93, 20000, .inl (fun _ => 0))), (q_74, .inl (cA_94, 1200, .inl (fun _ => 0))), (q_75, .inl (cA_95, 5, .inl (fun _ => 0))), (q_76, .inl (cA_96, 1875, .inl (fun _ => 0))), (q_77, .inl (cA_97, 78, .inl (fun _ => 0))), (q_78, .inl (cA_98, 12, .inl (fun _ => 0))), (q_79, .inl (cA_99, 26, .inl (fun _ => 0))), (q_80, .inl (cA_100, 16, .inl (fun _ => 0))), (q_81, .inl (cA_101, 20000, .inl (fun _ => 0))), (q_82, .inl (cA_102, 20000, .inl (fun _ => 0))), (q_83, .inl (cA_103, 12, .inl monthsF)), (q_84, .inl (cA_104, 201, .inr (.inl (fun _ => 0)))), (q_85, .inl (cA_105, 201, .inr (.inl (fun _ => 0)))), (q_86, .inl (cA_106, 4, .inl manyF)), (q_87, .inl (cA_107, 4, .inl (fun _ => 0))), (q_88, .inl (cA_108, 240, .inr (.inl (fun _ => 0)))), (q_89, .inl (cA_109, 60, .inr (.inl (fun _ => 0))))] H := hP
  have hD : va_D (fun q : Nat => s.heap.size ≤ q) [(q_1, .inr (7, [.ref q_4, .ref q_6, .ref q_11, .ref q_12, .ref q_15, .ref q_25, .ref q_26, .ref q_35, .ref q_39, .ref q_41])), (q_4, .inr (6, [.ref q_5, .int 0])), (q_5, .inl (cA_42, 1200, .inl (fun _ => 0))), (q_6, .inr (3, [.int 0, .int 0, .int 0, .int 0, .int 0, .ref q_7, .ref q_8, .ref q_9, .ref q_10])), (q_7, .inl (cA_43, 9, .inl (fun _ => 0))), (q_8, .inl (cA_44, 600, .inl (fun _ => 0))), (q_9, .inl (cA_45, 600, .inr (.inl (fun _ => 0)))), (q_10, .inl (cA_46, 600, .inr (.inl (fun _ => 0)))), (q_11, .inr (0, [.ref q_4, .ref q_6, .int 0, .int (-1), .int 0, .int 0, .int 0, .int 0, .int 0])), (q_12, .inr (1, [.int 0, .int 0, .int 0, .int 0, .int 0, .ref q_13, .ref q_14])), (q_13, .inl (cA_47, 0, .inr (.inl (fun _ => 0)))), (q_14, .inl (cA_48, 0, .inl (fun _ => 0))), (q_15, .inl (cA_49, 3, .inr (.inr (.inr (.inr (sf3 q_16 q_19 q_22)))))), (q_16, .inr (1, [.int 0, .int 0, .int 0, .int 0, .int 0, .ref q_17, .ref q_18])), (q_17, .inl (cA_50, 0, .inr (.inl (fun _ => 0)))), (q_18, .inl (cA_51, 0, .inl (fun _ => 0))), (q_19, .inr (1, [.int 0, .int 0, .int 0, .int 0, .int 0, .ref q_20, .ref q_21])), (q_20, .inl (cA_52, 0, .inr (.inl (fun _ => 0)))), (q_21, .inl (cA_53, 0, .inl (fun _ => 0))), (q_22, .inr (1, [.int 0, .int 0, .int 0, .int 0, .int 0, .ref q_23, .ref q_24])), (q_23, .inl (cA_54, 0, .inr (.inl (fun _ => 0)))), (q_24, .inl (cA_55, 0, .inl (fun _ => 0))), (q_25, .inl (cA_56, 3, .inl (fun _ => 0))), (q_26, .inl (cA_57, 4, .inr (.inr (.inr (.inr (sf4 q_27 q_29 q_31 q_33)))))), (q_27, .inr (2, [.int (-1), .int 0, .ref q_28])), (q_28, .inl (cA_58, 60, .inr (.inl (fun _ => 0)))), (q_29, .inr (2, [.int (-1), .int 0, .ref q_30])), (q_30, .inl (cA_59, 60, .inr (.inl (fun _ => 0)))), (q_31, .inr (2, [.int (-1), .int 0, .ref q_32])), (q_32, .inl (cA_60, 60, .inr (.inl (fun _ => 0)))), (q_33, .inr (2, [.int (-1), .int 0, .ref q_34])), (q_34, .inl (cA_61, 60, .inr (.inl (fun _ => 0)))), (q_35, .inr (4, [.ref q_36, .ref q_37, .ref q_38])), (q_36, .inl (cA_62, 0, .inl (fun _ => 0))), (q_37, .inl (cA_63, 0, .inl (fun _ => 0))), (q_38, .inl (cA_64, 0, .inl (fun _ => 0))), (q_39, .inr (5, [.ref q_40])), (q_40, .inl (cA_65, 181, .inr (.inl (fun _ => 0)))), (q_41, .inl (cA_66, 16, .inl (fun _ => 0))), (q_67, .inr (8, [.int 0, .ref q_70, .ref q_71, .ref q_72, .ref q_73, .ref q_74, .int 0, .ref q_75, .int 0, .int 0, .int 0, .int 0, .int 0, .int 0, .int (-1), .ref q_76, .ref q_77, .int 0, .int 0, .int 0, .ref q_78, .ref q_79, .long 0, .ref q_80, .ref q_81, .ref q_82, .ref q_83, .ref q_84, .ref q_85, .ref q_86, .ref q_87, .ref q_88, .ref q_89])), (q_70, .inl (cA_90, 1875, .inl (fun _ => 0))), (q_71, .inl (cA_91, 5625, .inl (fun _ => 0))), (q_72, .inl (cA_92, 3, .inl (fun _ => 0))), (q_73, .inl (cA_93, 20000, .inl (fun _ => 0))), (q_74, .inl (cA_94, 1200, .inl (fun _ => 0))), (q_75, .inl (cA_95, 5, .inl (fun _ => 0))), (q_76, .inl (cA_96, 1875, .inl (fun _ => 0))), (q_77, .inl (cA_97, 78, .inl (fun _ => 0))), (q_78, .inl (cA_98, 12, .inl (fun _ => 0))), (q_79, .inl (cA_99, 26, .inl (fun _ => 0))), (q_80, .inl (cA_100, 16, .inl (fun _ => 0))), (q_81, .inl (cA_101, 20000, .inl (fun _ => 0))), (q_82, .inl (cA_102, 20000, .inl (fun _ => 0))), (q_83, .inl (cA_103, 12, .inl monthsF)), (q_84, .inl (cA_104, 201, .inr (.inl (fun _ => 0)))), (q_85, .inl (cA_105, 201, .inr (.inl (fun _ => 0)))), (q_86, .inl (cA_106, 4, .inl manyF)), (q_87, .inl (cA_107, 4, .inl (fun _ => 0))), (q_88, .inl (cA_108, 240, .inr (.inl (fun _ => 0)))), (q_89, .inl (cA_109, 60, .inr (.inl (fun _ => 0))))] := hD
  have hK : va_K (dC, dI) vwCl [(cA_42, .byte), (cA_43, .int), (cA_44, .int), (cA_45, .long), (cA_46, .long), (cA_47, .long), (cA_48, .int), (cA_49, .object RX2), (cA_50, .long), (cA_51, .int), (cA_52, .long), (cA_53, .int), (cA_54, .long), (cA_55, .int), (cA_56, .boolean), (cA_57, .object RX3), (cA_58, .long), (cA_59, .long), (cA_60, .long), (cA_61, .long), (cA_62, .int), (cA_63, .int), (cA_64, .byte), (cA_65, .long), (cA_66, .int), (cA_90, .int), (cA_91, .int), (cA_92, .boolean), (cA_93, .int), (cA_94, .byte), (cA_95, .int), (cA_96, .int), (cA_97, .int), (cA_98, .int), (cA_99, .boolean), (cA_100, .int), (cA_101, .int), (cA_102, .int), (cA_103, .int), (cA_104, .long), (cA_105, .long), (cA_106, .int), (cA_107, .int), (cA_108, .long), (cA_109, .long)] s := hK
  refine W.widen (k := 60) (n := 75000) (lel _ _ rfl) (lel _ _ rfl) ?_
  refine lv_astore_n (lv' := [(2, .ref q_67), (1, .ref q_1), (0, .ref b)]) hx hb dL_law_15 rfl hl (by decide) rfl (fun ls hl => ?_)
  refine lv_iconst (v := 0) hx hb dL_law_16 (by decide) ?_
  refine lv_istore_n (lv' := [(3, .int 0), (2, .ref q_67), (1, .ref q_1), (0, .ref b)]) hx hb dL_law_17 rfl hl (by decide) rfl (fun ls hl => ?_)
  exact law_init l hL C0 dC dI q_1 q_4 q_5 q_6 q_7 q_8 q_9 q_10 q_11 q_12 q_13 q_14 q_15 q_16 q_17 q_18 q_19 q_20 q_21 q_22 q_23 q_24 q_25 q_26 q_27 q_28 q_29 q_30 q_31 q_32 q_33 q_34 q_35 q_36 q_37 q_38 q_39 q_40 q_41 q_67 q_70 q_71 q_72 q_73 q_74 q_75 q_76 q_77 q_78 q_79 q_80 q_81 q_82 q_83 q_84 q_85 q_86 q_87 q_88 q_89 cA_42 cA_43 cA_44 cA_45 cA_46 cA_47 cA_48 cA_49 cA_50 cA_51 cA_52 cA_53 cA_54 cA_55 cA_56 cA_57 cA_58 cA_59 cA_60 cA_61 cA_62 cA_63 cA_64 cA_65 cA_66 cA_90 cA_91 cA_92 cA_93 cA_94 cA_95 cA_96 cA_97 cA_98 cA_99 cA_100 cA_101 cA_102 cA_103 cA_104 cA_105 cA_106 cA_107 cA_108 cA_109 hP hD hK hS hN hX1 hl
