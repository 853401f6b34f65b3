def strL : List (String × Nat × String × Nat) := [(RX1, 62, "roll", 4), (RX1, 68, "length", 6), (RX1, 76, "base", 4), (RX1, 87, "law", 3), (RX1, 105, "or", 2), (RX1, 117, "and", 3), (RX1, 123, "not", 3), (RX1, 125, "half", 4), (RX1, 139, "odd", 3), (RX1, 145, "mirror", 6), (RX1, 147, "unlike", 6), (RX1, 149, "square", 6), (RX1, 151, "sum", 3), (RX1, 155, "rest", 4), (RX1, 160, "by", 2), (RX1, 162, "places", 6), (RX1, 168, "like", 4), (RX1, 170, "of", 2), (RX10, 188, "of", 2), (RX10, 192, "half", 4), (RX10, 194, "odd", 3), (RX10, 196, "mirror", 6), (RX10, 198, "unlike", 6), (RX10, 200, "square", 6), (RX10, 202, "sum", 3), (RX10, 204, "rest", 4), (RX10, 209, "by", 2), (RX10, 211, "places", 6), (RX10, 216, "like", 4), (RX10, 227, "not", 3), (RX10, 241, "and", 3), (RX10, 243, "or", 2), (RX10, 248, "roll", 4), (RX10, 250, "length", 6), (RX10, 255, "base", 4), (RX10, 266, "law", 3)]
def monL : List Int32 := [31, 28, 31, 30, 31, 30, 31, 31, 30, 31, 30, 31]
def txt (n0 q n : Nat) (f : Nat → Int32) (U : State) : Prop := ∃ b : Nat, va_O "java/lang/String" q (fun a => n0 ≤ a) U U.heap ∧ va_OF "java/lang/String" "coder" "B" (.int 0) q (fun a => n0 ≤ a) U U.heap ∧ va_OF "java/lang/String" "value" "[B" (.ref b) q (fun a => n0 ≤ a) U U.heap ∧ va_T .byte b n (fun j => .int (f j)) (fun a => n0 ≤ a) U U.heap
def sx (n0 : Nat) (U : State) : Prop := va_Z "java/lang/String" "COMPACT_STRINGS" "Z" (.int 1) (fun a => n0 ≤ a) U U.heap ∧ va_Zq "jdk/internal/util/Preconditions" "SIOOBE_FORMATTER" "Ljava/util/function/BiFunction;" (fun a => n0 ≤ a) U U.heap ∧ (∀ w ∈ strL, ∃ (q : Nat) (f : Nat → Int32), vk_R w.1 w.2.1 w.2.2.1 q U ∧ txt n0 q w.2.2.2 f U) ∧ ∃ t : Nat, va_Z "LuckyTicket$Year" "MONTHS" "[I" (.ref t) (fun a => n0 ≤ a) U U.heap ∧ va_T .int t 12 (fun j => .int (monL.getD j 0)) (fun a => n0 ≤ a) U U.heap
theorem txt.mv {n0 q n : Nat} {f : Nat → Int32} {s U : State} (hk : ∀ a : Nat, a < s.heap.size → ¬ n0 ≤ a → U.heap[a]? = s.heap[a]?) (hv : s.vm.Alike U.vm) (h : txt n0 q n f s) : txt n0 q n f U := by
  obtain ⟨b, h1, h2, h3, h4⟩ := h
  exact ⟨b, (va_O.moved hv h1).kept hk, (va_OF.moved hv h2).kept hk, (va_OF.moved hv h3).kept hk, (va_T.moved hv h4).kept hk⟩
theorem sx.mv {n0 : Nat} {s U : State} (hk : ∀ a : Nat, a < s.heap.size → ¬ n0 ≤ a → U.heap[a]? = s.heap[a]?) (hv : s.vm.Alike U.vm) (hR : ∀ (o : String) (k : Nat) (t : String) (q : Nat), vk_R o k t q s → vk_R o k t q U) (h : sx n0 s) : sx n0 U := by
  obtain ⟨h1, h2, h3, t, h4, h5⟩ := h
  refine ⟨(va_Z.moved hv h1).kept hk, (va_Zq.moved hv h2).kept hk, fun w hw => ?_, t, (va_Z.moved hv h4).kept hk, (va_T.moved hv h5).kept hk⟩
  obtain ⟨q, f, g1, g2⟩ := h3 w hw
  exact ⟨q, f, hR _ _ _ _ g1, g2.mv hk hv⟩
theorem sx.call {n0 : Nat} {U : State} {g : JFrame} {mk : MethodId} {a : Array Value} (h : sx n0 U) : sx n0 (U.calling g mk a) := sx.mv (s := U) (U := U.calling g mk a) (fun _ _ _ => rfl) (Vm.Alike.refl U.vm) (fun _ _ _ _ q => vk_R.same (u := U) (U := U.calling g mk a) rfl q) h
theorem txt.call {n0 q n : Nat} {f : Nat → Int32} {U : State} {g : JFrame} {mk : MethodId} {a : Array Value} (h : txt n0 q n f U) : txt n0 q n f (U.calling g mk a) := txt.mv (s := U) (U := U.calling g mk a) (fun _ _ _ => rfl) (Vm.Alike.refl U.vm) h
theorem vs_up {A B : Nat → Prop} {H0 H : Heap} {locs : List Loc} (h : va_S A H0 H locs) (hAB : ∀ q, A q → B q) : va_S B H0 H locs := ⟨h.1, fun q h1 h2 => h.2.1 q h1 (fun z => h2 (hAB q z)), fun l hl => hAB _ (h.2.2 l hl)⟩
def tbs (n0 : Nat) (bx : List (Nat × Nat × (Nat → Int32))) (U : State) : Prop := ∀ t ∈ bx, va_T .byte t.1 t.2.1 (fun j => .int (t.2.2 j)) (fun a => n0 ≤ a) U U.heap
def tts (n0 : Nat) (tx : List (Nat × Nat × (Nat → Int32))) (U : State) : Prop := ∀ t ∈ tx, txt n0 t.1 t.2.1 t.2.2 U
def px (D : va_G) (cl : List vw_C) (ws : va_W) (tys : List (ClassId × FieldType)) (n0 : Nat) (tx bx : List (Nat × Nat × (Nat → Int32))) (U : State) : Prop := pw D cl ws tys U ∧ sx n0 U ∧ tts n0 tx U ∧ tbs n0 bx U
theorem px_fb {av : List Value} {D : va_G} {cl : List vw_C} {ws : va_W} {tys : List (ClassId × FieldType)} {n0 : Nat} {tx bx : List (Nat × Nat × (Nat → Int32))} : FrameBlind (va_Pc av (px D cl ws tys n0 tx bx)) := fun a U g mk q => by
  obtain ⟨q0, q1, q2, q3, q4⟩ := q
  exact ⟨q0, (pw_fb a U g mk ⟨q0, q1⟩).2, q2.call, fun t ht => (q3 t ht).call, fun t ht => va_T.moved (u := U) (U := U.calling g mk a) (Vm.Alike.refl U.vm) (q4 t ht)⟩
theorem px_use {av : List Value} {D : va_G} {cl : List vw_C} {ws ws' : va_W} {tys tys' : List (ClassId × FieldType)} {n0 : Nat} {tx bx : List (Nat × Nat × (Nat → Int32))} {s : State} {H : Heap} {locs : List Loc} (hP : va_P D cl ws H) (hK : va_K D cl tys s) (hN : nst s) (hX : sx n0 s) (hS : va_S (fun a => n0 ≤ a) s.heap H locs) (is : List Nat) (hs : is.filterMap (fun i => ws[i]?) = ws') (it : List Nat) (ht : it.filterMap (fun i => tys[i]?) = tys') (htx : tts n0 tx s) (hbx : tbs n0 bx s) : ∀ U : State, U.heap = H → s.WarmedH U.vm → va_Pc av (px D cl ws' tys' n0 tx bx) av.toArray U := fun U hU hW => by
  have hk : ∀ a : Nat, a < s.heap.size → ¬ n0 ≤ a → U.heap[a]? = s.heap[a]? := fun a h1 h2 => by rw [hU]; exact hS.2.1 a h1 h2
  exact ⟨rfl, (pw_use (av := av) hP hK hN is hs it ht U hU hW).2, hX.mv hk hW.alike (fun _ _ _ _ q => vk_R.warm hW q), fun t h => (htx t h).mv hk hW.alike, fun t h => (va_T.moved hW.alike (hbx t h)).kept hk⟩
def hx_ (D : va_G) (cl : List vw_C) (ws : va_W) (tys : List (ClassId × FieldType)) (sz n0 : Nat) (tx : List (Nat × Nat × (Nat → Int32))) (U : State) : Prop := hw D cl ws tys sz U ∧ n0 ≤ sz ∧ va_D (fun a => n0 ≤ a) ws ∧ sx n0 U ∧ tts n0 tx U
theorem hx_fb {av : List Value} {D : va_G} {cl : List vw_C} {ws : va_W} {tys : List (ClassId × FieldType)} {sz n0 : Nat} {tx : List (Nat × Nat × (Nat → Int32))} : FrameBlind (va_Pc av (hx_ D cl ws tys sz n0 tx)) := fun a U g mk q => by
  obtain ⟨q0, q1, q2, q3, q4, q5⟩ := q
  exact ⟨q0, (hw_fb a U g mk ⟨q0, q1⟩).2, q2, q3, q4.call, fun t ht => (q5 t ht).call⟩
theorem hx_use {av : List Value} {D : va_G} {cl : List vw_C} {ws ws' : va_W} {tys tys' : List (ClassId × FieldType)} {n0 : Nat} {tx : List (Nat × Nat × (Nat → Int32))} {s : State} {H : Heap} {A : Nat → Prop} {locs : List Loc} (hP : va_P D cl ws H) (hD : va_D A ws) (hK : va_K D cl tys s) (hN : nst s) (hX : sx n0 s) (hS : va_S A s.heap H locs) (hAn : ∀ q, A q → n0 ≤ q) (hn0 : n0 ≤ s.heap.size) (is : List Nat) (hs : is.filterMap (fun i => ws[i]?) = ws') (hn : va_nd is = true) (hs2 : is.map (fun i => ws[i]?) = ws'.map some) (it : List Nat) (ht : it.filterMap (fun i => tys[i]?) = tys') (htx : tts n0 tx s) : ∀ U : State, U.heap = H → s.WarmedH U.vm → va_Pc av (hx_ D cl ws' tys' H.size n0 tx) av.toArray U := fun U hU hW => by
  have hk : ∀ a : Nat, a < s.heap.size → ¬ n0 ≤ a → U.heap[a]? = s.heap[a]? := fun a h1 h2 => by rw [hU]; exact hS.2.1 a h1 (fun z => h2 (hAn a z))
  exact ⟨rfl, (hw_use (av := av) hP hD hK hN is hs hn hs2 it ht U hU hW).2, Nat.le_trans hn0 hS.1, (hD.sub is hn hs2).weaken (fun _ _ _ h => hAn _ h), hX.mv hk hW.alike (fun _ _ _ _ q => vk_R.warm hW q), fun t h => (htx t h).mv hk hW.alike⟩
theorem tts_0 {n0 : Nat} {s : State} : tts n0 [] s := fun _ h => by cases h
theorem tts_1 {n0 q n : Nat} {f : Nat → Int32} {s : State} (h : txt n0 q n f s) : tts n0 [(q, n, f)] s := fun t ht => by
  cases ht with
  | head => exact h
  | tail _ h2 => cases h2
theorem tbs_0 {n0 : Nat} {s : State} : tbs n0 [] s := fun _ h => by cases h
theorem tbs_1 {n0 q n : Nat} {f : Nat → Int32} {s : State} (h : va_T .byte q n (fun j => .int (f j)) (fun a => n0 ≤ a) s s.heap) : tbs n0 [(q, n, f)] s := fun t ht => by
  cases ht with
  | head => exact h
  | tail _ h2 => cases h2
theorem vx_recv {E : String} {q : Nat} {A : Nat → Prop} {s : State} {H : Heap} {locs : List Loc} (h : va_O E q A s s.heap) (hS : va_S A s.heap H locs) : ∃ cell : Cell, H[q]? = some cell ∧ cell.vm.isStatics = false ∧ s.vm.findClass E = some cell.cls := by
  obtain ⟨cell, h1, h2, h3, -⟩ := h.kept hS.2.1
  exact ⟨cell, h1, h2, h3⟩
theorem txt.recv {n0 q n : Nat} {f : Nat → Int32} {s : State} {H : Heap} {locs : List Loc} (h : txt n0 q n f s) (hS : va_S (fun a => n0 ≤ a) s.heap H locs) : ∃ cell : Cell, H[q]? = some cell ∧ cell.vm.isStatics = false ∧ s.vm.findClass "java/lang/String" = some cell.cls := by
  obtain ⟨b, h1, -⟩ := h
  exact vx_recv h1 hS
def chr8 (x : Int32) : Int32 := (x &&& 255).toUInt32.toUInt16.toUInt32.toInt32
def WD (fb : Nat → Int32) (t a o : Int32) (n : Nat) (f : Nat → Int32) : Prop := t.toInt = 1 ∧ o.toInt - a.toInt = (n : Int) ∧ ∀ j : Nat, j < n → fb (a.toInt.toNat + j) = chr8 (f j)
theorem wd_next {fb f : Nat → Int32} {a i i' z r : Int32} (h : ∀ j : Nat, j < i.toInt.toNat → fb (a.toInt.toNat + j) = chr8 (f j)) (h0 : 0 ≤ i.toInt) (h1 : i'.toInt = i.toInt + 1) (ha : 0 ≤ a.toInt) (hz : z.toInt = a.toInt + i.toInt) {x : Int32} (hx : x = fb z.toNatClampNeg) (hr : r = chr8 (f i.toNatClampNeg)) (hxr : x = r) : ∀ j : Nat, j < i'.toInt.toNat → fb (a.toInt.toNat + j) = chr8 (f j) := fun j hj => by
  rcases Nat.lt_or_ge j i.toInt.toNat with q | q
  · exact h j q
  · have e : j = i.toInt.toNat := by omega
    have e2 : a.toInt.toNat + j = z.toNatClampNeg := by
      show _ = z.toInt.toNat
      omega
    rw [e2, ← hx, hxr, hr, e]
    rfl
theorem wd_ne {fb f : Nat → Int32} {a i z r x : Int32} (h0 : 0 ≤ i.toInt) (ha : 0 ≤ a.toInt) (hz : z.toInt = a.toInt + i.toInt) (hx : x = fb z.toNatClampNeg) (hr : r = chr8 (f i.toNatClampNeg)) (hxr : ¬ x = r) : ¬ fb (a.toInt.toNat + i.toInt.toNat) = chr8 (f i.toInt.toNat) := fun q => by
  have e2 : a.toInt.toNat + i.toInt.toNat = z.toNatClampNeg := by
    show _ = z.toInt.toNat
    omega
  rw [e2, ← hx] at q
  exact hxr (q.trans hr.symm)
def pwr (a b r : Int32) : Prop := ∃ i : Nat, (i : Int) ≤ b.toInt ∧ r.toInt = ((a.toInt.toNat ^ i : Nat) : Int) ∧ ((i : Int) = b.toInt ∨ 20000 < r.toInt)
theorem pwr_step {a x z i i' : Int32} (h : x.toInt = ((a.toInt.toNat ^ i.toInt.toNat : Nat) : Int)) (hz : z.toInt = x.toInt * a.toInt) (ha : 0 ≤ a.toInt) (h0 : 0 ≤ i.toInt) (hi : i'.toInt = i.toInt + 1) : z.toInt = ((a.toInt.toNat ^ i'.toInt.toNat : Nat) : Int) := by
  have e : i'.toInt.toNat = i.toInt.toNat + 1 := by omega
  have e2 : ((a.toInt.toNat : Nat) : Int) = a.toInt := Int.toNat_of_nonneg ha
  rw [e, Nat.pow_succ, Int.natCast_mul, ← h, e2, hz]
theorem pwr_end {a b x i : Int32} (h : x.toInt = ((a.toInt.toNat ^ i.toInt.toNat : Nat) : Int)) (h0 : 0 ≤ i.toInt) (hb : i.toInt ≤ b.toInt) (hq : i.toInt = b.toInt ∨ 20000 < x.toInt) : pwr a b x := ⟨i.toInt.toNat, by omega, h, by omega⟩
theorem gb_1 {b n r : Int32} (h : pwr b n r) (hr : r.toInt ≤ 20000) : b.toInt.toNat ^ n.toInt.toNat ≤ 20000 := by
  obtain ⟨i, h1, h2, h3⟩ := h
  have e : i = n.toInt.toNat := by omega
  rw [← e]
  omega
theorem gb_2 {b n : Int32} (hb : b.toInt = 2) (hn : n.toInt ≤ 12) : b.toInt.toNat ^ n.toInt.toNat ≤ 20000 := by
  rw [hb]
  have h : (2 : Nat) ^ n.toInt.toNat ≤ 2 ^ 12 := Nat.pow_le_pow_right (by decide) (by omega)
  exact Nat.le_trans h (by decide)
def GM (n b : Int32) : Prop := (1 ≤ n.toInt ∧ n.toInt ≤ 12 ∧ 2 ≤ b.toInt ∧ b.toInt ≤ 16) ∧ b.toInt.toNat ^ n.toInt.toNat ≤ 20000
theorem gm_of {n b g : Int32} (h1 : 1 ≤ n.toInt ∧ n.toInt ≤ 12) (h2 : 2 ≤ b.toInt ∧ b.toInt ≤ g.toInt) (hg : g.toInt ≤ 16) (hp : g.toInt.toNat ^ n.toInt.toNat ≤ 20000) : GM n b :=
  ⟨⟨h1.1, h1.2, h2.1, by omega⟩, Nat.le_trans (Nat.pow_le_pow_left (by omega) _) hp⟩
theorem nil_lt {P : Nat → Prop} : ∀ j : Nat, j < (0 : Int32).toInt.toNat → P j := fun j hj => by
  have e9 : (0 : Int32).toInt.toNat = 0 := by decide
  rw [e9] at hj
  exact absurd hj (Nat.not_lt_zero j)
theorem run_of {p : Program} {l : Launch} {e : Env} {R : Room} {s : State} {m : MethodId} {args : Array Value} {below : List Frame} {meth : Method} {c : Code} {H : Heap} {locs : List Loc} {cells slots mc ms : Nat} {g : JFrame} {rest : List Value} {Qa : State → Outcome → State → Prop} {free : Addr → Prop} (h : va_Run p l e R s m args below meth c H locs cells slots mc ms g rest Qa free) : CallRun p l e R s m args below meth c H locs cells slots mc ms g rest Qa free := fun T hT X => by
  obtain ⟨v, st₀, t, T', L, h0, X', hL, e1, -, hq, st⟩ := h T hT X
  exact ⟨v, st₀, t, T', L, h0, X', hL, e1, hq, st⟩
def vq_S : Array Value → State → Outcome → State → Prop := fun _ st o t => o = .returned none ∧ t.heap = st.heap
theorem shr_0 (x : Int32) : x >>> ((0 : Int32) &&& 31) = x := by
  have e : ((0 : Int32) &&& 31) = 0 := by decide
  rw [e]
  exact Int32.shiftRight_zero
theorem chr_n (x : Int32) : narrow .char (.int (chr8 x)) = .int (chr8 x) := by
  have h : ∀ z : UInt32, z % 65536 % 65536 = z % 65536 := fun z => by
    apply UInt32.toNat_inj.mp
    rw [UInt32.toNat_mod, UInt32.toNat_mod]
    exact Nat.mod_mod _ _
  unfold chr8
  simp [narrow, h]
section LDCW
variable {p : Program} {l : Launch} {e : Env} {R : Room} {s : State} {m : MethodId} {args : Array Value} {below : List Frame} {meth : Method} {c : Code} {H : Heap} {locs : List Loc} {cells slots : Nat} {Q : State → Prop} {cc : ByteArray} {pc : Nat} {ls : Array Slot} {rest : List Value}
theorem vq_callS {a : Array Value} {st0 : List Value} (hr : CallRun p l e R s m args below meth c H locs cells slots 0 0 (F0 m pc ls st0) rest (vq_S a) (fun _ => False))
    (kk : W p l e R s m args below meth c H locs cells slots Q (F0 m (pc + 3) ls rest)) : W p l e R s m args below meth c H locs cells slots Q (F0 m pc ls st0) := by
  intro T hT X
  obtain ⟨v, st₀, t, T', L, h0, X', hL, e1, ⟨hv, hh⟩, st⟩ := hr T hT X
  cases hv
  obtain ⟨t2, a1, b1⟩ := kk T' (by rw [e1, hh, h0]) (Stand.forget X' (fun q h => (hL q h).elim))
  exact ⟨t2, st t2 a1, b1⟩
theorem ldcwS_ {T : State} (X : Stand p l e R s m args below meth c T locs cells slots) (hexec : p.tables.exec = Jvm.exec) {own text : String} {index : Nat} {a : Addr} (hown : s.vm.findClass own = some m.cls)
    (hconst : (Cond.stringRef own index text).before args s = true) (hev : (Term.string own index).eval args s none [] s = some (.ref a)) {g : JFrame} (hg : g.method = m) (hdg : decode c.code g.pc = .ok (.ldc_w index, 3)) :
    ∀ target, Steps p.tables e below (T.setTop { g with pc := g.pc + 3, stack := .ref a :: g.stack }) target → Steps p.tables e below (T.setTop g) target := by
  obtain ⟨k, cf, i, a', hk, hcf, hcp, -, hr, hev'⟩ := Cond.stringRef_spec hown hconst
  cases hev.symm.trans hev'
  obtain ⟨k', hk', he⟩ := X.warmed.alike.2.2 _ _ hk
  have hr' : k'.resolved[index]? = some (some (.string a)) := by
    rcases X.warmed.entry hk hk' index with h | ⟨h, -⟩
    · rw [h]; exact hr
    · rw [hr] at h; cases h
  intro target hrest
  subst hg
  jvm_step X.here [hexec, hdg, ldc_w.wp_string (e := e) (s := T) (f := g) X.here.top hk' (by rw [he]; exact hcf) hcp hr']
  exact hrest
theorem va_ldcwS (hexec : p.tables.exec = Jvm.exec) (hb : c.code = cc) {own tx : String} {index q : Nat} (hown : s.vm.findClass own = some m.cls) (hZ : vk_R own index tx q s) (hdg : decode cc pc = .ok (.ldc_w index, 3))
    (k : W p l e R s m args below meth c H locs cells slots Q (F0 m (pc + 3) ls (.ref q :: rest))) : W p l e R s m args below meth c H locs cells slots Q (F0 m pc ls rest) := by
  intro T hT X
  obtain ⟨t, a1, b1⟩ := k T hT X
  exact ⟨t, ldcwS_ X hexec hown (text := tx) (a := q) hZ.1 hZ.2 (g := F0 m pc ls rest) rfl (by rw [hb]; exact hdg) t a1, b1⟩
end LDCW
theorem sx_len : ∀ w ∈ strL, 2 ≤ w.2.2.2 ∧ w.2.2.2 ≤ 6 := by decide +kernel
