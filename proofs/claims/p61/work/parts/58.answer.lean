def RG (gh : Nat → Int32) (j : Nat) (w z : Int32) : Prop := (w.toInt = -1 ∧ (gh j).toInt = -1) ∨ (0 ≤ w.toInt ∧ (gh j).toInt = z.toInt ∧ (gh (4 + j)).toInt = w.toInt)
def GR (gh f g : Nat → Int32) : Prop := ∀ j : Nat, j < 4 → (f j).toInt = (gh j).toInt ∧ (0 ≤ (gh j).toInt → (g j).toInt = (gh (4 + j)).toInt)
def rwG (gh : Nat → Int32) (a b c : Int32) : Nat → Int32 := fun q => if (0 ≤ a.toInt ∧ a.toInt ≤ 3) ∧ (0 ≤ b.toInt ∧ b.toInt ≤ 3) ∧ (0 ≤ c.toInt ∧ c.toInt ≤ 60) then (if q = a.toInt.toNat then c else if q = 4 + a.toInt.toNat then b else gh q) else gh q
theorem rwG_no {gh : Nat → Int32} {a b c : Int32} (h : ¬ ((0 ≤ a.toInt ∧ a.toInt ≤ 3) ∧ (0 ≤ b.toInt ∧ b.toInt ≤ 3) ∧ (0 ≤ c.toInt ∧ c.toInt ≤ 60))) : rwG gh a b c = gh := funext (fun _ => if_neg h)
theorem rwG_a {gh : Nat → Int32} {a b c : Int32} (h : (0 ≤ a.toInt ∧ a.toInt ≤ 3) ∧ (0 ≤ b.toInt ∧ b.toInt ≤ 3) ∧ (0 ≤ c.toInt ∧ c.toInt ≤ 60)) : rwG gh a b c a.toInt.toNat = c := by unfold rwG; rw [if_pos h, if_pos rfl]
theorem rwG_b {gh : Nat → Int32} {a b c : Int32} (h : (0 ≤ a.toInt ∧ a.toInt ≤ 3) ∧ (0 ≤ b.toInt ∧ b.toInt ≤ 3) ∧ (0 ≤ c.toInt ∧ c.toInt ≤ 60)) : rwG gh a b c (4 + a.toInt.toNat) = b := by unfold rwG; rw [if_pos h, if_neg (by omega), if_pos rfl]
theorem rwG_n {gh : Nat → Int32} {a b c : Int32} (h : (0 ≤ a.toInt ∧ a.toInt ≤ 3) ∧ (0 ≤ b.toInt ∧ b.toInt ≤ 3) ∧ (0 ≤ c.toInt ∧ c.toInt ≤ 60)) {q : Nat} (h1 : q ≠ a.toInt.toNat) (h2 : q ≠ 4 + a.toInt.toNat) : rwG gh a b c q = gh q := by unfold rwG; rw [if_pos h, if_neg h1, if_neg h2]
theorem rg_no {gh : Nat → Int32} {a b c w z : Int32} {j : Nat} (h : ¬ ((0 ≤ a.toInt ∧ a.toInt ≤ 3) ∧ (0 ≤ b.toInt ∧ b.toInt ≤ 3) ∧ (0 ≤ c.toInt ∧ c.toInt ≤ 60))) (hr : RG gh j w z) : RG (rwG gh a b c) j w z := by rw [rwG_no h]; exact hr
theorem rg_at1 {gh : Nat → Int32} {a b c : Int32} {j : Nat} (h : (0 ≤ a.toInt ∧ a.toInt ≤ 3) ∧ (0 ≤ b.toInt ∧ b.toInt ≤ 3) ∧ (0 ≤ c.toInt ∧ c.toInt ≤ 60)) (hj : a.toInt = (j : Int)) : RG (rwG gh a b c) j b c := by
  have e : j = a.toInt.toNat := by omega
  exact Or.inr ⟨h.2.1.1, by rw [e, rwG_a h], by rw [e, rwG_b h]⟩
theorem rg_ne {gh : Nat → Int32} {a b c w z : Int32} {j : Nat} (h : (0 ≤ a.toInt ∧ a.toInt ≤ 3) ∧ (0 ≤ b.toInt ∧ b.toInt ≤ 3) ∧ (0 ≤ c.toInt ∧ c.toInt ≤ 60)) (hj : a.toInt ≠ (j : Int)) (h4 : j < 4) (hr : RG gh j w z) : RG (rwG gh a b c) j w z := by
  have e1 : rwG gh a b c j = gh j := rwG_n h (by omega) (by omega)
  have e2 : rwG gh a b c (4 + j) = gh (4 + j) := rwG_n h (by omega) (by omega)
  unfold RG; rw [e1, e2]; exact hr
theorem gr_no {gh f g : Nat → Int32} {a b c : Int32} (h : ¬ ((0 ≤ a.toInt ∧ a.toInt ≤ 3) ∧ (0 ≤ b.toInt ∧ b.toInt ≤ 3) ∧ (0 ≤ c.toInt ∧ c.toInt ≤ 60))) (hr : GR gh f g) : GR (rwG gh a b c) f g := by rw [rwG_no h]; exact hr
theorem gr_set {gh f g f1 g1 : Nat → Int32} {a b c : Int32} (h : (0 ≤ a.toInt ∧ a.toInt ≤ 3) ∧ (0 ≤ b.toInt ∧ b.toInt ≤ 3) ∧ (0 ≤ c.toInt ∧ c.toInt ≤ 60)) (hr : GR gh f g) (ef : upd f a.toNatClampNeg c = f1) (eg : upd g a.toNatClampNeg b = g1) : GR (rwG gh a b c) f1 g1 := fun j hj => by
  have ea : a.toNatClampNeg = a.toInt.toNat := rfl
  by_cases e : j = a.toInt.toNat
  · rw [← ef, ← eg, ea, e, pk_us, pk_us, rwG_a h, rwG_b h]
    exact ⟨rfl, fun _ => rfl⟩
  · rw [← ef, ← eg, ea, pk_un e, pk_un e, rwG_n h e (by omega), rwG_n h (show 4 + j ≠ a.toInt.toNat from by omega) (by omega)]
    exact hr j hj
theorem gr_f {gh f g : Nat → Int32} {a z : Int32} (hr : GR gh f g) (h : 0 ≤ a.toInt ∧ a.toInt ≤ 3) (e : z = f a.toNatClampNeg) : z.toInt = (gh a.toInt.toNat).toInt := by
  rw [e]; exact (hr a.toInt.toNat (by omega)).1
theorem gr_g {gh f g : Nat → Int32} {a z : Int32} (hr : GR gh f g) (h : 0 ≤ a.toInt ∧ a.toInt ≤ 3) (e : z = g a.toNatClampNeg) : 0 ≤ (gh a.toInt.toNat).toInt → z.toInt = (gh (4 + a.toInt.toNat)).toInt := by
  rw [e]; exact (hr a.toInt.toNat (by omega)).2
theorem gr_many {g : Nat → Int32} : GR (fun _ => -1) manyF g := fun j hj => ⟨congrArg Int32.toInt (manyF_eq j hj), fun h => absurd (show (0 : Int) ≤ (-1 : Int32).toInt from h) (by decide)⟩
def wrA (gh : Nat → Int32) (a b : Int32) : Int32 := if 0 ≤ a.toInt ∧ a.toInt ≤ 3 then (if (gh a.toInt.toNat).toInt = -1 then -6 else if 0 ≤ b.toInt ∧ b.toInt < (gh a.toInt.toNat).toInt then 0 else -7) else -2
theorem wr_2 {gh : Nat → Int32} {a b : Int32} (h : ¬ (0 ≤ a.toInt ∧ a.toInt ≤ 3)) : (-2 : Int32) = wrA gh a b := (if_neg h).symm
theorem wr_6 {gh : Nat → Int32} {a b : Int32} {j : Nat} (ha : a.toInt = (j : Int)) (hj : j ≤ 3) (h : (gh j).toInt = -1) : (-6 : Int32) = wrA gh a b := by
  have e : a.toInt.toNat = j := by omega
  unfold wrA; rw [if_pos (by omega), e, if_pos h]
theorem wr_7 {gh : Nat → Int32} {a b : Int32} {j : Nat} (ha : a.toInt = (j : Int)) (hj : j ≤ 3) (h : ¬ (gh j).toInt = -1) (h2 : ¬ (0 ≤ b.toInt ∧ b.toInt < (gh j).toInt)) : (-7 : Int32) = wrA gh a b := by
  have e : a.toInt.toNat = j := by omega
  unfold wrA; rw [if_pos (by omega), e, if_neg h, if_neg h2]
theorem wr_0 {gh : Nat → Int32} {a b : Int32} {j : Nat} (ha : a.toInt = (j : Int)) (hj : j ≤ 3) (h : ¬ (gh j).toInt = -1) (h2 : 0 ≤ b.toInt ∧ b.toInt < (gh j).toInt) : (0 : Int32) = wrA gh a b := by
  have e : a.toInt.toNat = j := by omega
  unfold wrA; rw [if_pos (by omega), e, if_neg h, if_pos h2]
def psA (gh : Nat → Int32) (a i c k n : Int32) : Int32 := if (0 ≤ a.toInt ∧ a.toInt ≤ 3) ∧ (0 ≤ c.toInt ∧ c.toInt ≤ 3) then (if (gh a.toInt.toNat).toInt = -1 ∨ (gh c.toInt.toNat).toInt = -1 then -6 else if ¬ (gh (4 + a.toInt.toNat)).toInt = (gh (4 + c.toInt.toNat)).toInt then -8 else if (0 ≤ i.toInt ∧ 0 ≤ k.toInt ∧ 0 ≤ n.toInt) ∧ i.toInt + n.toInt ≤ (gh a.toInt.toNat).toInt ∧ k.toInt + n.toInt ≤ (gh c.toInt.toNat).toInt then 0 else -7) else -2
theorem ps_2 {gh : Nat → Int32} {a i c k n : Int32} (h : ¬ ((0 ≤ a.toInt ∧ a.toInt ≤ 3) ∧ (0 ≤ c.toInt ∧ c.toInt ≤ 3))) : (-2 : Int32) = psA gh a i c k n := (if_neg h).symm
theorem ps_6 {gh : Nat → Int32} {a i c k n : Int32} {j t : Nat} (ha : a.toInt = (j : Int)) (hc : c.toInt = (t : Int)) (hj : j ≤ 3 ∧ t ≤ 3) (h : (gh j).toInt = -1 ∨ (gh t).toInt = -1) : (-6 : Int32) = psA gh a i c k n := by
  have e : a.toInt.toNat = j := by omega
  have e2 : c.toInt.toNat = t := by omega
  unfold psA; rw [if_pos (by omega), e, e2, if_pos h]
theorem ps_8 {gh : Nat → Int32} {a i c k n : Int32} {j t : Nat} (ha : a.toInt = (j : Int)) (hc : c.toInt = (t : Int)) (hj : j ≤ 3 ∧ t ≤ 3) (h : ¬ ((gh j).toInt = -1 ∨ (gh t).toInt = -1)) (h2 : ¬ (gh (4 + j)).toInt = (gh (4 + t)).toInt) : (-8 : Int32) = psA gh a i c k n := by
  have e : a.toInt.toNat = j := by omega
  have e2 : c.toInt.toNat = t := by omega
  unfold psA; rw [if_pos (by omega), e, e2, if_neg h, if_pos h2]
theorem ps_7 {gh : Nat → Int32} {a i c k n : Int32} {j t : Nat} (ha : a.toInt = (j : Int)) (hc : c.toInt = (t : Int)) (hj : j ≤ 3 ∧ t ≤ 3) (h : ¬ ((gh j).toInt = -1 ∨ (gh t).toInt = -1)) (h2 : (gh (4 + j)).toInt = (gh (4 + t)).toInt) (h3 : ¬ ((0 ≤ i.toInt ∧ 0 ≤ k.toInt ∧ 0 ≤ n.toInt) ∧ i.toInt + n.toInt ≤ (gh j).toInt ∧ k.toInt + n.toInt ≤ (gh t).toInt)) : (-7 : Int32) = psA gh a i c k n := by
  have e : a.toInt.toNat = j := by omega
  have e2 : c.toInt.toNat = t := by omega
  unfold psA; rw [if_pos (by omega), e, e2, if_neg h, if_neg (fun q => q h2), if_neg h3]
theorem ps_0 {gh : Nat → Int32} {a i c k n : Int32} {j t : Nat} (ha : a.toInt = (j : Int)) (hc : c.toInt = (t : Int)) (hj : j ≤ 3 ∧ t ≤ 3) (h : ¬ ((gh j).toInt = -1 ∨ (gh t).toInt = -1)) (h2 : (gh (4 + j)).toInt = (gh (4 + t)).toInt) (h3 : (0 ≤ i.toInt ∧ 0 ≤ k.toInt ∧ 0 ≤ n.toInt) ∧ i.toInt + n.toInt ≤ (gh j).toInt ∧ k.toInt + n.toInt ≤ (gh t).toInt) : (0 : Int32) = psA gh a i c k n := by
  have e : a.toInt.toNat = j := by omega
  have e2 : c.toInt.toNat = t := by omega
  unfold psA; rw [if_pos (by omega), e, e2, if_neg h, if_neg (fun q => q h2), if_pos h3]
def uX9_isWithin2 : List Cond := List.cons (.code yX9_isWithin cX9_isWithin 3 (some .boolean)) ([] : List Cond)
theorem guX9_isWithin2 : GU uX9_isWithin2 := gu_cons (gu_all (by decide +kernel))
set_option maxHeartbeats 4000000 in
set_option maxRecDepth 100000 in
theorem kX9_isWithin2 (l : Launch) (dC : Nat → ClassId) (dI : Nat → Nat → Nat) (a1 : Int32) (a2 : Int32) (a3 : Int32) : Met l yX9_isWithin uX9_isWithin2 ({ frames := 0, cells := 0, slots := 0, locals := 0 }) (va_Pc [.int a1, .int a2, .int a3] (fun _ => True)) (vp_Si (fun r => ((0 : Int) ≤ r.toInt ∧ r.toInt ≤ 1) ∧ (r ≠ 0 → (a2.toInt ≤ a1.toInt ∧ a1.toInt ≤ a3.toInt)) ∧ (r = 0 → (¬ (a2.toInt ≤ a1.toInt ∧ a1.toInt ≤ a3.toInt))))) 0 0 (fun _ => False) := by
  refine Met.ofW (cc := cX9_isWithin) (maxL := 3) (ret := (some .boolean)) pn_X9 rfl ?_
  intro p e s m args below meth c s₁ B hml hv
  obtain ⟨rfl, _⟩ := hv
  have hx := B.exec
  have hb := B.bytes
  have hr := B.returns
  have hts := atoms_spec (ws := uX9_isWithin2) B.pre
  have hown : s.vm.findClass RX9 = some m.cls := hown_of B.named rfl
  have hlocks := B.notSynchronized
  have hl := lv_entry ([.int a1, .int a2, .int a3]) (n := 3) (Nat.le_of_ble_eq_true rfl)
  rw [lg_entry_eq]
  generalize (lg_sl ([.int a1, .int a2, .int a3]) ++ List.replicate (3 - (lg_sl ([.int a1, .int a2, .int a3])).length) Slot.unset).toArray = ls at hl ⊢
  have hl : lv_has ls 3 [(0, .int a1), (1, .int a2), (2, .int a3)] := hl
  refine lv_iload_n hx hb dX9_isWithin_0 rfl (lv_at hl 0 rfl) ?_
  refine lv_iload_n hx hb dX9_isWithin_1 rfl (lv_at hl 1 rfl) ?_
  refine lv_icmp_lt (tgt := 14) hx hb dX9_isWithin_2 (by decide) (fun c_3 => ?_) (fun c_3 => ?_)
  ·
    have n_c_3 : (a1.toInt : Int) < a2.toInt := c_lt rfl rfl c_3
    have b_a1 : (-2147483648 : Int) ≤ a1.toInt ∧ a1.toInt ≤ 2147483646 := r_lt1 (ti_rng a1) (ti_rng a2) n_c_3 (by decide)
    have b_a2 : (-2147483647 : Int) ≤ a2.toInt ∧ a2.toInt ≤ 2147483647 := r_lt2 (ti_rng a1) (ti_rng a2) n_c_3 (by decide)
    refine lv_iconst (v := 0) hx hb dX9_isWithin_14 (by decide) ?_
    exact W.zret (v := 0) hx hb hr rfl (fun t ht hW => ⟨0, rfl, ⟨(rg_w (by decide : (0 : Int) ≤ (0 : Int32).toInt ∧ (0 : Int32).toInt ≤ 0) (by decide) (by decide)), (fun h9 => absurd rfl h9), (fun _ => (by omega))⟩, ht⟩) t_nil dX9_isWithin_15
  ·
    have n_c_3 : (a2.toInt : Int) ≤ a1.toInt := c_nlt rfl rfl c_3
    refine lv_iload_n hx hb dX9_isWithin_5 rfl (lv_at hl 0 rfl) ?_
    refine lv_iload_n hx hb dX9_isWithin_6 rfl (lv_at hl 2 rfl) ?_
    refine lv_icmp_gt (tgt := 14) hx hb dX9_isWithin_7 (by decide) (fun c_4 => ?_) (fun c_4 => ?_)
    ·
      have n_c_4 : (a3.toInt : Int) < a1.toInt := c_gt rfl rfl c_4
      have b_a3 : (-2147483648 : Int) ≤ a3.toInt ∧ a3.toInt ≤ 2147483646 := r_lt1 (ti_rng a3) (ti_rng a1) n_c_4 (by decide)
      have b_a1 : (-2147483647 : Int) ≤ a1.toInt ∧ a1.toInt ≤ 2147483647 := r_lt2 (ti_rng a3) (ti_rng a1) n_c_4 (by decide)
      refine lv_iconst (v := 0) hx hb dX9_isWithin_14 (by decide) ?_
      exact W.zret (v := 0) hx hb hr rfl (fun t ht hW => ⟨0, rfl, ⟨(rg_w (by decide : (0 : Int) ≤ (0 : Int32).toInt ∧ (0 : Int32).toInt ≤ 0) (by decide) (by decide)), (fun h9 => absurd rfl h9), (fun _ => (by omega))⟩, ht⟩) t_nil dX9_isWithin_15
    ·
      have n_c_4 : (a1.toInt : Int) ≤ a3.toInt := c_ngt rfl rfl c_4
      refine lv_iconst (v := 1) hx hb dX9_isWithin_10 (by decide) ?_
      refine lv_goto (tgt := 15) hx hb dX9_isWithin_11 (by decide) ?_
      exact W.zret (v := 1) hx hb hr rfl (fun t ht hW => ⟨1, rfl, ⟨(rg_w (by decide : (1 : Int) ≤ (1 : Int32).toInt ∧ (1 : Int32).toInt ≤ 1) (by decide) (by decide)), (fun _ => (by omega)), (fun h9 => absurd h9 (by decide))⟩, ht⟩) t_nil dX9_isWithin_15
def uX9_hasSlot2 : List Cond := List.cons (.code yX9_hasSlot cX9_hasSlot 2 (some .boolean)) (HAppend.hAppend ([.fieldLink RX9 50 "LuckyTicket" "slots" "[LLuckyTicket$Row;", .methodLink RX9 158 yX9_isWithin, .static yX9_isWithin, .initialized RX9] : List Cond) (HAppend.hAppend uX9_isWithin2 wsX90))
theorem iX9_hasSlot2_X9 : ∀ w ∈ wsX90, w ∈ uX9_hasSlot2 := fun _ h => (List.mem_cons_of_mem _ (List.mem_append_right _ (List.mem_append_right _ h)))
theorem guX9_hasSlot2 : GU uX9_hasSlot2 := gu_cons (gu_app (by decide +kernel) (gu_ap guX9_isWithin2 gws_X9))
theorem gX9_hasSlot2__X9_isWithin2_S158 : GoodIn uX9_hasSlot2 (va_wsS RX9 158 yX9_isWithin uX9_isWithin2) := gin_S (List.mem_of_getElem? (i := 2) rfl) (List.mem_of_getElem? (i := 3) rfl) (List.mem_of_getElem? (i := 4) rfl) (fun _ h => (List.mem_cons_of_mem _ (List.mem_append_right _ (List.mem_append_left _ h)))) guX9_isWithin2
set_option maxHeartbeats 4000000 in
set_option maxRecDepth 100000 in
theorem kX9_hasSlot2 (l : Launch) (dC : Nat → ClassId) (dI : Nat → Nat → Nat) (h0 : Nat) (tp : Nat) (sc : Nat) (rd : Nat) (cu : Nat) (im : Nat) (ig : Nat) (sl : Nat) (se : Nat) (sm : Nat) (fc : Nat) (cS : ClassId) (s0 : Nat) (s1 : Nat) (s2 : Nat) (s3 : Nat) (a1 : Int32) : Met l yX9_hasSlot uX9_hasSlot2 ({ frames := 1, cells := 0, slots := 0, locals := 22 }) (va_Pc [.ref h0, .int a1] (pw (dC, dI) vwCl [(h0, .inr (7, [.ref tp, .ref sc, .ref rd, .ref cu, .ref im, .ref ig, .ref sl, .ref se, .ref sm, .ref fc])), (sl, .inl (cS, 4, .inr (.inr (.inr (.inr (sf4 s0 s1 s2 s3))))))] [(cS, .object RX3)])) (vp_Si (fun r => ((0 : Int) ≤ r.toInt ∧ r.toInt ≤ 1) ∧ (r ≠ 0 → ((0 : Int) ≤ a1.toInt ∧ a1.toInt ≤ 3) ∧ (True)) ∧ (r = 0 → (¬ (0 ≤ a1.toInt ∧ a1.toInt ≤ 3))))) 0 0 (fun _ => False) := by
  refine Met.ofW (cc := cX9_hasSlot) (maxL := 2) (ret := (some .boolean)) pn_X9 rfl ?_
  intro p e s m args below meth c s₁ B hml hv
  obtain ⟨rfl, hP, hK, hN⟩ := hv
  have hx := B.exec
  have hb := B.bytes
  have hr := B.returns
  have hts := atoms_spec (ws := uX9_hasSlot2) B.pre
  have hown : s.vm.findClass RX9 = some m.cls := hown_of B.named rfl
  have hlocks := B.notSynchronized
  have hl := lv_entry ([.ref h0, .int a1]) (n := 2) (Nat.le_of_ble_eq_true rfl)
  rw [lg_entry_eq]
  generalize (lg_sl ([.ref h0, .int a1]) ++ List.replicate (2 - (lg_sl ([.ref h0, .int a1])).length) Slot.unset).toArray = ls at hl ⊢
  have hl : lv_has ls 2 [(0, .ref h0), (1, .int a1)] := hl
  refine lv_iload_n hx hb dX9_hasSlot_0 rfl (lv_at hl 1 rfl) ?_
  refine lv_iconst (v := 0) hx hb dX9_hasSlot_1 (by decide) ?_
  refine lv_aload_n hx hb dX9_hasSlot_2 rfl (lv_at hl 0 rfl) ?_
  refine va_get (D := (dC, dI)) (ci := 7) (v := .ref sl) (C := RX9) (T := TX9) (N := 10) hx hb hts iX9_hasSlot2_X9 hown hK hP 0 rfl rfl 6 (by decide) (hts (.fieldLink RX9 50 "LuckyTicket" "slots" "[LLuckyTicket$Row;") (List.mem_of_getElem? (i := 1) rfl)) (fun _ h9 => h9) rfl dX9_hasSlot_3 ?_
  refine va_alen (v := 4) hx hb hK hP 1 0 rfl rfl (by rfl) dX9_hasSlot_6 ?_
  refine lv_iconst (v := 1) hx hb dX9_hasSlot_7 (by decide) ?_
  refine lv_isub hx hb dX9_hasSlot_8 ?_
  refine lv_topi (fun z_3 e_z_3 => ?_)
  obtain rfl : z_3 = 3 := e_z_3.trans (by decide)
  refine vp_callSi (W.runS (As := [.int a1, .int 0, .int 3]) (rest := []) ⟨hx, hb, hml, hown, hts⟩ (kX9_isWithin2 l dC dI a1 0 3 ) (va_cwS 3 hts gX9_hasSlot2__X9_isWithin2_S158 rfl rfl rfl hd_yX9_isWithin.2 ⟨lel 1 1 rfl, lel 22 22 rfl⟩) ⟨pn_fb, pn_use⟩ rfl rfl hl.1 rfl (lv_room (Nat.le_of_ble_eq_true rfl)) dX9_hasSlot_9 ⟨lel 0 0 rfl, lel 0 0 rfl⟩) (fun r_4 h_r_4 => ?_)
  obtain ⟨b_r_4, nz_r_4, zz_r_4⟩ := h_r_4
  have b_r_4 : (0 : Int) ≤ r_4.toInt ∧ r_4.toInt ≤ 1 := b_r_4
  exact W.zret (v := r_4) hx hb hr (zn_b b_r_4) (fun t ht hW => ⟨r_4, rfl, ⟨b_r_4, (fun h9 => by have h8 := nz_r_4 h9; have h7 := (by decide : (0 : Int32).toInt = 0); have h7 := (by decide : (3 : Int32).toInt = 3); exact ⟨⟨by omega, by omega⟩, trivial⟩), (fun h9 => by have h8 := zz_r_4 h9; have h7 := (by decide : (0 : Int32).toInt = 0); have h7 := (by decide : (3 : Int32).toInt = 3); exact (by omega))⟩, ht⟩) t_nil dX9_hasSlot_12
def uX3_stands2 : List Cond := List.cons (.code yX3_stands cX3_stands 1 (some .boolean)) (HAppend.hAppend ([.fieldLink RX3 9 "LuckyTicket$Row" "width" "I"] : List Cond) wsX30)
theorem iX3_stands2_X3 : ∀ w ∈ wsX30, w ∈ uX3_stands2 := fun _ h => (List.mem_cons_of_mem _ (List.mem_append_right _ h))
theorem guX3_stands2 : GU uX3_stands2 := gu_cons (gu_app (by decide +kernel) gws_X3)
set_option maxHeartbeats 4000000 in
set_option maxRecDepth 100000 in
theorem kX3_stands2 (l : Launch) (dC : Nat → ClassId) (dI : Nat → Nat → Nat) (rw : Nat) (wd : Int32) (rz : Int32) (nu : Nat) (b_wd : (-1 : Int) ≤ wd.toInt ∧ wd.toInt ≤ 3) (b_rz : (0 : Int) ≤ rz.toInt ∧ rz.toInt ≤ 60) : Met l yX3_stands uX3_stands2 ({ frames := 0, cells := 0, slots := 0, locals := 0 }) (va_Pc [.ref rw] (pw (dC, dI) vwCl [(rw, .inr (2, [.int wd, .int rz, .ref nu]))] [])) (vp_Si (fun r => ((0 : Int) ≤ r.toInt ∧ r.toInt ≤ 1) ∧ (r ≠ 0 → ((0 : Int) ≤ wd.toInt ∧ wd.toInt ≤ 3) ∧ (True)) ∧ (r = 0 → (wd.toInt = -1)))) 0 0 (fun _ => False) := by
  refine Met.ofW (cc := cX3_stands) (maxL := 1) (ret := (some .boolean)) pn_X3 rfl ?_
  intro p e s m args below meth c s₁ B hml hv
  obtain ⟨rfl, hP, hK, hN⟩ := hv
  have hx := B.exec
  have hb := B.bytes
  have hr := B.returns
  have hts := atoms_spec (ws := uX3_stands2) B.pre
  have hown : s.vm.findClass RX3 = some m.cls := hown_of B.named rfl
  have hlocks := B.notSynchronized
  have hl := lv_entry ([.ref rw]) (n := 1) (Nat.le_of_ble_eq_true rfl)
  rw [lg_entry_eq]
  generalize (lg_sl ([.ref rw]) ++ List.replicate (1 - (lg_sl ([.ref rw])).length) Slot.unset).toArray = ls at hl ⊢
  have hl : lv_has ls 1 [(0, .ref rw)] := hl
  refine lv_aload_n hx hb dX3_stands_0 rfl (lv_at hl 0 rfl) ?_
  refine va_get (D := (dC, dI)) (ci := 2) (v := .int wd) (C := RX3) (T := TX3) (N := 3) hx hb hts iX3_stands2_X3 hown hK hP 0 rfl rfl 0 (by decide) (hts (.fieldLink RX3 9 "LuckyTicket$Row" "width" "I") (List.mem_of_getElem? (i := 1) rfl)) (fun _ h9 => h9) rfl dX3_stands_1 ?_
  refine lv_iconst (v := (-1)) hx hb dX3_stands_4 (by decide) ?_
  refine lv_icmp_eq (tgt := 12) hx hb dX3_stands_5 (by decide) (fun c_2 => ?_) (fun c_2 => ?_)
  ·
    have n_c_2 : (wd.toInt : Int) = (-1) := c_eq rfl (by decide) c_2
    have b_wd : (-1 : Int) ≤ wd.toInt ∧ wd.toInt ≤ -1 := r_eq1 b_wd (by decide : (-1 : Int) ≤ ((-1) : Int32).toInt ∧ ((-1) : Int32).toInt ≤ -1) n_c_2 (by decide)
    refine lv_iconst (v := 0) hx hb dX3_stands_12 (by decide) ?_
    exact W.zret (v := 0) hx hb hr rfl (fun t ht hW => ⟨0, rfl, ⟨(rg_w (by decide : (0 : Int) ≤ (0 : Int32).toInt ∧ (0 : Int32).toInt ≤ 0) (by decide) (by decide)), (fun h9 => absurd rfl h9), (fun _ => (by omega))⟩, ht⟩) t_nil dX3_stands_13
  ·
    have n_c_2 : (wd.toInt : Int) ≠ (-1) := c_ne rfl (by decide) c_2
    have b_wd : (0 : Int) ≤ wd.toInt ∧ wd.toInt ≤ 3 := r_ne1 b_wd (by decide : (-1 : Int) ≤ ((-1) : Int32).toInt ∧ ((-1) : Int32).toInt ≤ -1) n_c_2 (by decide)
    refine lv_iconst (v := 1) hx hb dX3_stands_8 (by decide) ?_
    refine lv_goto (tgt := 13) hx hb dX3_stands_9 (by decide) ?_
    exact W.zret (v := 1) hx hb hr rfl (fun t ht hW => ⟨1, rfl, ⟨(rg_w (by decide : (1 : Int) ≤ (1 : Int32).toInt ∧ (1 : Int32).toInt ≤ 1) (by decide) (by decide)), (fun _ => ⟨⟨by omega, by omega⟩, trivial⟩), (fun h9 => absurd h9 (by decide))⟩, ht⟩) t_nil dX3_stands_13
def uX3_hasStretch2 : List Cond := List.cons (.code yX3_hasStretch cX3_hasStretch 3 (some .boolean)) (HAppend.hAppend ([.fieldLink RX3 19 "LuckyTicket$Row" "size" "I"] : List Cond) wsX30)
theorem iX3_hasStretch2_X3 : ∀ w ∈ wsX30, w ∈ uX3_hasStretch2 := fun _ h => (List.mem_cons_of_mem _ (List.mem_append_right _ h))
theorem guX3_hasStretch2 : GU uX3_hasStretch2 := gu_cons (gu_app (by decide +kernel) gws_X3)
set_option maxHeartbeats 4000000 in
set_option maxRecDepth 100000 in
theorem kX3_hasStretch2 (l : Launch) (dC : Nat → ClassId) (dI : Nat → Nat → Nat) (rw : Nat) (wd : Int32) (rz : Int32) (nu : Nat) (a1 : Int32) (a2 : Int32) (b_wd : (-1 : Int) ≤ wd.toInt ∧ wd.toInt ≤ 3) (b_rz : (0 : Int) ≤ rz.toInt ∧ rz.toInt ≤ 60) : Met l yX3_hasStretch uX3_hasStretch2 ({ frames := 0, cells := 0, slots := 0, locals := 0 }) (va_Pc [.ref rw, .int a1, .int a2] (pw (dC, dI) vwCl [(rw, .inr (2, [.int wd, .int rz, .ref nu]))] [])) (vp_Si (fun r => ((0 : Int) ≤ r.toInt ∧ r.toInt ≤ 1) ∧ (r ≠ 0 → ((0 : Int) ≤ a1.toInt ∧ a1.toInt ≤ 60) ∧ ((0 : Int) ≤ a2.toInt ∧ a2.toInt ≤ 60) ∧ (a1.toInt + a2.toInt ≤ rz.toInt)) ∧ (r = 0 → (¬ (0 ≤ a1.toInt ∧ 0 ≤ a2.toInt ∧ a1.toInt + a2.toInt ≤ rz.toInt))))) 0 0 (fun _ => False) := by
  refine Met.ofW (cc := cX3_hasStretch) (maxL := 3) (ret := (some .boolean)) pn_X3 rfl ?_
  intro p e s m args below meth c s₁ B hml hv
  obtain ⟨rfl, hP, hK, hN⟩ := hv
  have hx := B.exec
  have hb := B.bytes
  have hr := B.returns
  have hts := atoms_spec (ws := uX3_hasStretch2) B.pre
  have hown : s.vm.findClass RX3 = some m.cls := hown_of B.named rfl
  have hlocks := B.notSynchronized
  have hl := lv_entry ([.ref rw, .int a1, .int a2]) (n := 3) (Nat.le_of_ble_eq_true rfl)
  rw [lg_entry_eq]
  generalize (lg_sl ([.ref rw, .int a1, .int a2]) ++ List.replicate (3 - (lg_sl ([.ref rw, .int a1, .int a2])).length) Slot.unset).toArray = ls at hl ⊢
  have hl : lv_has ls 3 [(0, .ref rw), (1, .int a1), (2, .int a2)] := hl
  refine lv_iload_n hx hb dX3_hasStretch_0 rfl (lv_at hl 1 rfl) ?_
  refine lv_if_lt (tgt := 26) hx hb dX3_hasStretch_1 (by decide) (fun c_8 => ?_) (fun c_8 => ?_)
  ·
    have n_c_8 : (a1.toInt : Int) < 0 := c_lt rfl (by decide) c_8
    have b_a1 : (-2147483648 : Int) ≤ a1.toInt ∧ a1.toInt ≤ -1 := r_lt1 (ti_rng a1) (by decide : (0 : Int) ≤ (0 : Int32).toInt ∧ (0 : Int32).toInt ≤ 0) n_c_8 (by decide)
    refine lv_iconst (v := 0) hx hb dX3_hasStretch_26 (by decide) ?_
    exact W.zret (v := 0) hx hb hr rfl (fun t ht hW => ⟨0, rfl, ⟨(rg_w (by decide : (0 : Int) ≤ (0 : Int32).toInt ∧ (0 : Int32).toInt ≤ 0) (by decide) (by decide)), (fun h9 => absurd rfl h9), (fun _ => (by omega))⟩, ht⟩) t_nil dX3_hasStretch_27
  ·
    have n_c_8 : (0 : Int) ≤ a1.toInt := c_nlt rfl (by decide) c_8
    have b_a1 : (0 : Int) ≤ a1.toInt ∧ a1.toInt ≤ 2147483647 := r_le2 (by decide : (0 : Int) ≤ (0 : Int32).toInt ∧ (0 : Int32).toInt ≤ 0) (ti_rng a1) n_c_8 (by decide)
    refine lv_iload_n hx hb dX3_hasStretch_4 rfl (lv_at hl 2 rfl) ?_
    refine lv_if_lt (tgt := 26) hx hb dX3_hasStretch_5 (by decide) (fun c_9 => ?_) (fun c_9 => ?_)
    ·
      have n_c_9 : (a2.toInt : Int) < 0 := c_lt rfl (by decide) c_9
      have b_a2 : (-2147483648 : Int) ≤ a2.toInt ∧ a2.toInt ≤ -1 := r_lt1 (ti_rng a2) (by decide : (0 : Int) ≤ (0 : Int32).toInt ∧ (0 : Int32).toInt ≤ 0) n_c_9 (by decide)
      refine lv_iconst (v := 0) hx hb dX3_hasStretch_26 (by decide) ?_
      exact W.zret (v := 0) hx hb hr rfl (fun t ht hW => ⟨0, rfl, ⟨(rg_w (by decide : (0 : Int) ≤ (0 : Int32).toInt ∧ (0 : Int32).toInt ≤ 0) (by decide) (by decide)), (fun h9 => absurd rfl h9), (fun _ => (by omega))⟩, ht⟩) t_nil dX3_hasStretch_27
    ·
      have n_c_9 : (0 : Int) ≤ a2.toInt := c_nlt rfl (by decide) c_9
      have b_a2 : (0 : Int) ≤ a2.toInt ∧ a2.toInt ≤ 2147483647 := r_le2 (by decide : (0 : Int) ≤ (0 : Int32).toInt ∧ (0 : Int32).toInt ≤ 0) (ti_rng a2) n_c_9 (by decide)
      refine lv_iload_n hx hb dX3_hasStretch_8 rfl (lv_at hl 1 rfl) ?_
      obtain ⟨z_10, e_z_10⟩ : ∃ y : Int64, y = a1.toInt64 := ⟨_, rfl⟩
      refine lv_i2l (v := z_10) hx hb dX3_hasStretch_9 e_z_10.symm ?_
      obtain ⟨q_z_10, b_z_10⟩ := ti_i2l e_z_10 b_a1
      refine lv_iload_n hx hb dX3_hasStretch_10 rfl (lv_at hl 2 rfl) ?_
      obtain ⟨z_11, e_z_11⟩ : ∃ y : Int64, y = a2.toInt64 := ⟨_, rfl⟩
      refine lv_i2l (v := z_11) hx hb dX3_hasStretch_11 e_z_11.symm ?_
      obtain ⟨q_z_11, b_z_11⟩ := ti_i2l e_z_11 b_a2
      refine lv_ladd hx hb dX3_hasStretch_12 ?_
      refine lv_topl (fun z_12 e_z_12 => ?_)
      obtain ⟨q_z_12, b_z_12⟩ := tl_add (lo := 0) (hi := 4294967294) e_z_12 rfl rfl b_z_10 b_z_11 (by decide)
      refine lv_aload_n hx hb dX3_hasStretch_13 rfl (lv_at hl 0 rfl) ?_
      refine va_get (D := (dC, dI)) (ci := 2) (v := .int rz) (C := RX3) (T := TX3) (N := 3) hx hb hts iX3_hasStretch2_X3 hown hK hP 0 rfl rfl 1 (by decide) (hts (.fieldLink RX3 19 "LuckyTicket$Row" "size" "I") (List.mem_of_getElem? (i := 1) rfl)) (fun _ h9 => h9) rfl dX3_hasStretch_14 ?_
      obtain ⟨z_13, e_z_13⟩ : ∃ y : Int64, y = rz.toInt64 := ⟨_, rfl⟩
      refine lv_i2l (v := z_13) hx hb dX3_hasStretch_17 e_z_13.symm ?_
      obtain ⟨q_z_13, b_z_13⟩ := ti_i2l e_z_13 b_rz
      refine W.lcmp hx hb dX3_hasStretch_18 ?_
      refine lv_if_gt (tgt := 26) hx hb dX3_hasStretch_19 (by decide) (fun c_14 => ?_) (fun c_14 => ?_)
      ·
        have n_c_14 : (z_13.toInt : Int) < z_12.toInt := g_gt rfl rfl c_14
        have b_z_12 : (1 : Int) ≤ z_12.toInt ∧ z_12.toInt ≤ 4294967294 := r_lt2 b_z_13 b_z_12 n_c_14 (by decide)
        refine lv_iconst (v := 0) hx hb dX3_hasStretch_26 (by decide) ?_
        exact W.zret (v := 0) hx hb hr rfl (fun t ht hW => ⟨0, rfl, ⟨(rg_w (by decide : (0 : Int) ≤ (0 : Int32).toInt ∧ (0 : Int32).toInt ≤ 0) (by decide) (by decide)), (fun h9 => absurd rfl h9), (fun _ => (by omega))⟩, ht⟩) t_nil dX3_hasStretch_27
      ·
        have n_c_14 : (z_12.toInt : Int) ≤ z_13.toInt := g_ngt rfl rfl c_14
        have b_z_12 : (0 : Int) ≤ z_12.toInt ∧ z_12.toInt ≤ 60 := r_le1 b_z_12 b_z_13 n_c_14 (by decide)
        have b_z_10 : (0 : Int) ≤ z_10.toInt ∧ z_10.toInt ≤ 60 := by
          have q0 := b_z_12; have q1 := q_z_12; have q2 := b_z_10; have q3 := b_z_11; omega
        have b_a1 : (0 : Int) ≤ a1.toInt ∧ a1.toInt ≤ 60 := by
          have q0 := b_z_10; have q1 := q_z_10; have q2 := b_a1; omega
        have b_z_11 : (0 : Int) ≤ z_11.toInt ∧ z_11.toInt ≤ 60 := by
          have q0 := b_z_12; have q1 := q_z_12; have q2 := b_z_11; have q3 := b_z_10; omega
        have b_a2 : (0 : Int) ≤ a2.toInt ∧ a2.toInt ≤ 60 := by
          have q0 := b_z_11; have q1 := q_z_11; have q2 := b_a2; omega
        refine lv_iconst (v := 1) hx hb dX3_hasStretch_22 (by decide) ?_
        refine lv_goto (tgt := 27) hx hb dX3_hasStretch_23 (by decide) ?_
        exact W.zret (v := 1) hx hb hr rfl (fun t ht hW => ⟨1, rfl, ⟨(rg_w (by decide : (1 : Int) ≤ (1 : Int32).toInt ∧ (1 : Int32).toInt ≤ 1) (by decide) (by decide)), (fun _ => ⟨⟨by omega, by omega⟩, ⟨by omega, by omega⟩, (by omega)⟩), (fun h9 => absurd h9 (by decide))⟩, ht⟩) t_nil dX3_hasStretch_27
def uX10_isSlot2 : List Cond := List.cons (.code yX10_isSlot cX10_isSlot 1 (some .boolean)) (HAppend.hAppend ([.constantLong RX10 375 (3), .methodLink RX10 82 yX10_in, .static yX10_in, .initialized RX10] : List Cond) uX10_in2)
theorem guX10_isSlot2 : GU uX10_isSlot2 := gu_cons (gu_app (by decide +kernel) guX10_in2)
theorem gX10_isSlot2__X10_in2_S82 : GoodIn uX10_isSlot2 (va_wsS RX10 82 yX10_in uX10_in2) := gin_S (List.mem_of_getElem? (i := 2) rfl) (List.mem_of_getElem? (i := 3) rfl) (List.mem_of_getElem? (i := 4) rfl) (fun _ h => (List.mem_cons_of_mem _ (List.mem_append_right _ h))) guX10_in2
set_option maxHeartbeats 4000000 in
set_option maxRecDepth 100000 in
theorem kX10_isSlot2 (l : Launch) (dC : Nat → ClassId) (dI : Nat → Nat → Nat) (a1 : Int32) : Met l yX10_isSlot uX10_isSlot2 ({ frames := 1, cells := 0, slots := 0, locals := 25 }) (va_Pc [.int a1] (fun _ => True)) (vp_Si (fun r => ((0 : Int) ≤ r.toInt ∧ r.toInt ≤ 1) ∧ (r ≠ 0 → ((0 : Int) ≤ a1.toInt ∧ a1.toInt ≤ 3) ∧ (True)) ∧ (r = 0 → (¬ (0 ≤ a1.toInt ∧ a1.toInt ≤ 3))))) 0 0 (fun _ => False) := by
  refine Met.ofW (cc := cX10_isSlot) (maxL := 1) (ret := (some .boolean)) pn_X10 rfl ?_
  intro p e s m args below meth c s₁ B hml hv
  obtain ⟨rfl, _⟩ := hv
  have hx := B.exec
  have hb := B.bytes
  have hr := B.returns
  have hts := atoms_spec (ws := uX10_isSlot2) B.pre
  have hown : s.vm.findClass RX10 = some m.cls := hown_of B.named rfl
  have hlocks := B.notSynchronized
  have hl := lv_entry ([.int a1]) (n := 1) (Nat.le_of_ble_eq_true rfl)
  rw [lg_entry_eq]
  generalize (lg_sl ([.int a1]) ++ List.replicate (1 - (lg_sl ([.int a1])).length) Slot.unset).toArray = ls at hl ⊢
  have hl : lv_has ls 1 [(0, .int a1)] := hl
  refine lv_iload_n hx hb dX10_isSlot_0 rfl (lv_at hl 0 rfl) ?_
  obtain ⟨z_3, e_z_3⟩ : ∃ y : Int64, y = a1.toInt64 := ⟨_, rfl⟩
  refine lv_i2l (v := z_3) hx hb dX10_isSlot_1 e_z_3.symm ?_
  obtain ⟨q_z_3, b_z_3⟩ := ti_i2l e_z_3 (ti_rng a1)
  refine lv_lconst (v := 0) hx hb dX10_isSlot_2 (by decide) ?_
  refine lv_ldc2 (v := 3) hx hb hown (hts (.constantLong RX10 375 (3)) (List.mem_of_getElem? (i := 1) rfl)) dX10_isSlot_3 ?_
  refine vp_callSi (W.runS (As := [.long z_3, .long 0, .long 3]) (rest := []) ⟨hx, hb, hml, hown, hts⟩ (kX10_in2 l dC dI z_3 0 3 ) (va_cwS 3 hts gX10_isSlot2__X10_in2_S82 rfl rfl rfl hd_yX10_in.2 ⟨lel 1 1 rfl, lel 25 25 rfl⟩) ⟨pn_fb, pn_use⟩ rfl rfl hl.1 rfl (lv_room (Nat.le_of_ble_eq_true rfl)) dX10_isSlot_6 ⟨lel 0 0 rfl, lel 0 0 rfl⟩) (fun r_4 h_r_4 => ?_)
  obtain ⟨b_r_4, nz_r_4, zz_r_4⟩ := h_r_4
  have b_r_4 : (0 : Int) ≤ r_4.toInt ∧ r_4.toInt ≤ 1 := b_r_4
  exact W.zret (v := r_4) hx hb hr (zn_b b_r_4) (fun t ht hW => ⟨r_4, rfl, ⟨b_r_4, (fun h9 => by have h8 := nz_r_4 h9; have h7 := (by decide : (0 : Int64).toInt = 0); have h7 := (by decide : (3 : Int64).toInt = 3); exact ⟨⟨by omega, by omega⟩, trivial⟩), (fun h9 => by have h8 := zz_r_4 h9; have h7 := (by decide : (0 : Int64).toInt = 0); have h7 := (by decide : (3 : Int64).toInt = 3); exact (by omega))⟩, ht⟩) t_nil dX10_isSlot_9
def uX10_in6 : List Cond := List.cons (.code yX10_in cX10_in 6 (some .boolean)) ([] : List Cond)
theorem guX10_in6 : GU uX10_in6 := gu_cons (gu_all (by decide +kernel))
set_option maxHeartbeats 4000000 in
set_option maxRecDepth 100000 in
theorem kX10_in6 (l : Launch) (dC : Nat → ClassId) (dI : Nat → Nat → Nat) (a1 : Int64) (a2 : Int64) (a3 : Int64) : Met l yX10_in uX10_in6 ({ frames := 0, cells := 0, slots := 0, locals := 0 }) (va_Pc [.long a1, .long a2, .long a3] (fun _ => True)) (vp_Si (fun r => ((0 : Int) ≤ r.toInt ∧ r.toInt ≤ 1) ∧ (r ≠ 0 → (a2.toInt ≤ a1.toInt ∧ a1.toInt ≤ a3.toInt)) ∧ (r = 0 → (¬ (a2.toInt ≤ a1.toInt ∧ a1.toInt ≤ a3.toInt))))) 0 0 (fun _ => False) := by
  refine Met.ofW (cc := cX10_in) (maxL := 6) (ret := (some .boolean)) pn_X10 rfl ?_
  intro p e s m args below meth c s₁ B hml hv
  obtain ⟨rfl, _⟩ := hv
  have hx := B.exec
  have hb := B.bytes
  have hr := B.returns
  have hts := atoms_spec (ws := uX10_in6) B.pre
  have hown : s.vm.findClass RX10 = some m.cls := hown_of B.named rfl
  have hlocks := B.notSynchronized
  have hl := lv_entry ([.long a1, .long a2, .long a3]) (n := 6) (Nat.le_of_ble_eq_true rfl)
  rw [lg_entry_eq]
  generalize (lg_sl ([.long a1, .long a2, .long a3]) ++ List.replicate (6 - (lg_sl ([.long a1, .long a2, .long a3])).length) Slot.unset).toArray = ls at hl ⊢
  have hl : lv_has ls 6 [(0, .long a1), (2, .long a2), (4, .long a3)] := hl
  refine lv_lload_n hx hb dX10_in_0 rfl (lv_at hl 0 rfl) ?_
  refine lv_lload_n hx hb dX10_in_1 rfl (lv_at hl 1 rfl) ?_
  refine W.lcmp hx hb dX10_in_2 ?_
  refine lv_if_lt (tgt := 17) hx hb dX10_in_3 (by decide) (fun c_3 => ?_) (fun c_3 => ?_)
  ·
    have n_c_3 : (a1.toInt : Int) < a2.toInt := g_lt rfl rfl c_3
    have b_a1 : (-9223372036854775808 : Int) ≤ a1.toInt ∧ a1.toInt ≤ 9223372036854775806 := r_lt1 (tl_rng a1) (tl_rng a2) n_c_3 (by decide)
    have b_a2 : (-9223372036854775807 : Int) ≤ a2.toInt ∧ a2.toInt ≤ 9223372036854775807 := r_lt2 (tl_rng a1) (tl_rng a2) n_c_3 (by decide)
    refine lv_iconst (v := 0) hx hb dX10_in_17 (by decide) ?_
    exact W.zret (v := 0) hx hb hr rfl (fun t ht hW => ⟨0, rfl, ⟨(rg_w (by decide : (0 : Int) ≤ (0 : Int32).toInt ∧ (0 : Int32).toInt ≤ 0) (by decide) (by decide)), (fun h9 => absurd rfl h9), (fun _ => (by omega))⟩, ht⟩) t_nil dX10_in_18
  ·
    have n_c_3 : (a2.toInt : Int) ≤ a1.toInt := g_nlt rfl rfl c_3
    refine lv_lload_n hx hb dX10_in_6 rfl (lv_at hl 0 rfl) ?_
    refine lv_lload hx hb dX10_in_7 (lv_at hl 2 rfl) ?_
    refine W.lcmp hx hb dX10_in_9 ?_
    refine lv_if_gt (tgt := 17) hx hb dX10_in_10 (by decide) (fun c_4 => ?_) (fun c_4 => ?_)
    ·
      have n_c_4 : (a3.toInt : Int) < a1.toInt := g_gt rfl rfl c_4
      have b_a3 : (-9223372036854775808 : Int) ≤ a3.toInt ∧ a3.toInt ≤ 9223372036854775806 := r_lt1 (tl_rng a3) (tl_rng a1) n_c_4 (by decide)
      have b_a1 : (-9223372036854775807 : Int) ≤ a1.toInt ∧ a1.toInt ≤ 9223372036854775807 := r_lt2 (tl_rng a3) (tl_rng a1) n_c_4 (by decide)
      refine lv_iconst (v := 0) hx hb dX10_in_17 (by decide) ?_
      exact W.zret (v := 0) hx hb hr rfl (fun t ht hW => ⟨0, rfl, ⟨(rg_w (by decide : (0 : Int) ≤ (0 : Int32).toInt ∧ (0 : Int32).toInt ≤ 0) (by decide) (by decide)), (fun h9 => absurd rfl h9), (fun _ => (by omega))⟩, ht⟩) t_nil dX10_in_18
    ·
      have n_c_4 : (a1.toInt : Int) ≤ a3.toInt := g_ngt rfl rfl c_4
      refine lv_iconst (v := 1) hx hb dX10_in_13 (by decide) ?_
      refine lv_goto (tgt := 18) hx hb dX10_in_14 (by decide) ?_
      exact W.zret (v := 1) hx hb hr rfl (fun t ht hW => ⟨1, rfl, ⟨(rg_w (by decide : (1 : Int) ≤ (1 : Int32).toInt ∧ (1 : Int32).toInt ≤ 1) (by decide) (by decide)), (fun _ => (by omega)), (fun h9 => absurd h9 (by decide))⟩, ht⟩) t_nil dX10_in_18
def uX9_rowG : List Cond := List.cons (.code yX9_row cX9_row 4 (some .int)) (HAppend.hAppend ([.methodLink RX9 206 yX9_hasSlot, .instanceMethod yX9_hasSlot, .selects RX9 yX9_hasSlot yX9_hasSlot, .initialized RX9, .methodLink RX9 158 yX9_isWithin, .static yX9_isWithin, .fieldLink RX9 50 "LuckyTicket" "slots" "[LLuckyTicket$Row;", .methodLink RX9 340 yX3_begin, .instanceMethod yX3_begin, .selects RX3 yX3_begin yX3_begin, .initialized RX3] : List Cond) (HAppend.hAppend uX9_hasSlot2 (HAppend.hAppend uX9_isWithin2 (HAppend.hAppend uX3_begin wsX90))))
theorem iX9_rowG_X9 : ∀ w ∈ wsX90, w ∈ uX9_rowG := fun _ h => (List.mem_cons_of_mem _ (List.mem_append_right _ (List.mem_append_right _ (List.mem_append_right _ (List.mem_append_right _ h)))))
theorem guX9_rowG : GU uX9_rowG := gu_cons (gu_app (by decide +kernel) (gu_ap guX9_hasSlot2 (gu_ap guX9_isWithin2 (gu_ap guX3_begin gws_X9))))
theorem gX9_rowG__X9_hasSlot2_V206 : GoodIn uX9_rowG (wsV RX9 206 RX9 yX9_hasSlot uX9_hasSlot2) := gin_V (List.mem_of_getElem? (i := 1) rfl) (List.mem_of_getElem? (i := 2) rfl) (List.mem_of_getElem? (i := 3) rfl) (List.mem_of_getElem? (i := 4) rfl) (fun _ h => (List.mem_cons_of_mem _ (List.mem_append_right _ (List.mem_append_left _ h)))) guX9_hasSlot2
theorem gX9_rowG__X9_isWithin2_S158 : GoodIn uX9_rowG (va_wsS RX9 158 yX9_isWithin uX9_isWithin2) := gin_S (List.mem_of_getElem? (i := 5) rfl) (List.mem_of_getElem? (i := 6) rfl) (List.mem_of_getElem? (i := 4) rfl) (fun _ h => (List.mem_cons_of_mem _ (List.mem_append_right _ (List.mem_append_right _ (List.mem_append_left _ h))))) guX9_isWithin2
theorem gX9_rowG__X3_begin_V340 : GoodIn uX9_rowG (wsV RX9 340 RX3 yX3_begin uX3_begin) := gin_V (List.mem_of_getElem? (i := 8) rfl) (List.mem_of_getElem? (i := 9) rfl) (List.mem_of_getElem? (i := 10) rfl) (List.mem_of_getElem? (i := 11) rfl) (fun _ h => (List.mem_cons_of_mem _ (List.mem_append_right _ (List.mem_append_right _ (List.mem_append_right _ (List.mem_append_left _ h)))))) guX3_begin
set_option maxHeartbeats 4000000 in
set_option maxRecDepth 100000 in
theorem kX9_rowG (l : Launch) (dC : Nat → ClassId) (dI : Nat → Nat → Nat) (h0 : Nat) (tp : Nat) (sc : Nat) (rd : Nat) (cu : Nat) (im : Nat) (ig : Nat) (sl : Nat) (se : Nat) (sm : Nat) (fc : Nat) (cS : ClassId) (s0 : Nat) (s1 : Nat) (s2 : Nat) (s3 : Nat) (n0 : Nat) (n1 : Nat) (n2 : Nat) (n3 : Nat) (wd0 : Int32) (wd1 : Int32) (wd2 : Int32) (wd3 : Int32) (rz0 : Int32) (rz1 : Int32) (rz2 : Int32) (rz3 : Int32) (cJ0 : ClassId) (cJ1 : ClassId) (cJ2 : ClassId) (cJ3 : ClassId) (g0 : Nat → Int64) (g1 : Nat → Int64) (g2 : Nat → Int64) (g3 : Nat → Int64) (gh : Nat → Int32) (a1 : Int32) (a2 : Int32) (a3 : Int32) (sz : Nat) (b_wd0 : (-1 : Int) ≤ wd0.toInt ∧ wd0.toInt ≤ 3) (b_wd1 : (-1 : Int) ≤ wd1.toInt ∧ wd1.toInt ≤ 3) (b_wd2 : (-1 : Int) ≤ wd2.toInt ∧ wd2.toInt ≤ 3) (b_wd3 : (-1 : Int) ≤ wd3.toInt ∧ wd3.toInt ≤ 3) (b_rz0 : (0 : Int) ≤ rz0.toInt ∧ rz0.toInt ≤ 60) (b_rz1 : (0 : Int) ≤ rz1.toInt ∧ rz1.toInt ≤ 60) (b_rz2 : (0 : Int) ≤ rz2.toInt ∧ rz2.toInt ≤ 60) (b_rz3 : (0 : Int) ≤ rz3.toInt ∧ rz3.toInt ≤ 60) (hg9_0 : RG gh 0 wd0 rz0) (hg9_1 : RG gh 1 wd1 rz1) (hg9_2 : RG gh 2 wd2 rz2) (hg9_3 : RG gh 3 wd3 rz3) : Met l yX9_row uX9_rowG ({ frames := 2, cells := 0, slots := 0, locals := 46 }) (va_Pc [.ref h0, .int a1, .int a2, .int a3] (hw (dC, dI) vwCl [(h0, .inr (7, [.ref tp, .ref sc, .ref rd, .ref cu, .ref im, .ref ig, .ref sl, .ref se, .ref sm, .ref fc])), (sl, .inl (cS, 4, .inr (.inr (.inr (.inr (sf4 s0 s1 s2 s3)))))), (s0, .inr (2, [.int wd0, .int rz0, .ref n0])), (s1, .inr (2, [.int wd1, .int rz1, .ref n1])), (s2, .inr (2, [.int wd2, .int rz2, .ref n2])), (s3, .inr (2, [.int wd3, .int rz3, .ref n3])), (n0, .inl (cJ0, 60, .inr (.inl g0))), (n1, .inl (cJ1, 60, .inr (.inl g1))), (n2, .inl (cJ2, 60, .inr (.inl g2))), (n3, .inl (cJ3, 60, .inr (.inl g3)))] [(cS, .object RX3), (cJ0, .long), (cJ1, .long), (cJ2, .long), (cJ3, .long)] sz)) (va_Qi (fun (r : Int32) (_ : Unit) => ((-3 : Int) ≤ r.toInt ∧ r.toInt ≤ 0)) (fun (_ : Unit) t => ∃ (o0_ : Int32) (o1_ : Int32) (o2_ : Int32) (o3_ : Int32) (o4_ : Int32) (o5_ : Int32) (o6_ : Int32) (o7_ : Int32) (o8_ : Nat → Int64) (o9_ : Nat → Int64) (o10_ : Nat → Int64) (o11_ : Nat → Int64), ((-1 : Int) ≤ o0_.toInt ∧ o0_.toInt ≤ 3) ∧ ((0 : Int) ≤ o1_.toInt ∧ o1_.toInt ≤ 60) ∧ ((-1 : Int) ≤ o2_.toInt ∧ o2_.toInt ≤ 3) ∧ ((0 : Int) ≤ o3_.toInt ∧ o3_.toInt ≤ 60) ∧ ((-1 : Int) ≤ o4_.toInt ∧ o4_.toInt ≤ 3) ∧ ((0 : Int) ≤ o5_.toInt ∧ o5_.toInt ≤ 60) ∧ ((-1 : Int) ≤ o6_.toInt ∧ o6_.toInt ≤ 3) ∧ ((0 : Int) ≤ o7_.toInt ∧ o7_.toInt ≤ 60) ∧ (RG (rwG gh a1 a2 a3) 0 o0_ o1_) ∧ (RG (rwG gh a1 a2 a3) 1 o2_ o3_) ∧ (RG (rwG gh a1 a2 a3) 2 o4_ o5_) ∧ (RG (rwG gh a1 a2 a3) 3 o6_ o7_) ∧ va_P (dC, dI) vwCl [(h0, .inr (7, [.ref tp, .ref sc, .ref rd, .ref cu, .ref im, .ref ig, .ref sl, .ref se, .ref sm, .ref fc])), (sl, .inl (cS, 4, .inr (.inr (.inr (.inr (sf4 s0 s1 s2 s3)))))), (s0, .inr (2, [.int o0_, .int o1_, .ref n0])), (s1, .inr (2, [.int o2_, .int o3_, .ref n1])), (s2, .inr (2, [.int o4_, .int o5_, .ref n2])), (s3, .inr (2, [.int o6_, .int o7_, .ref n3])), (n0, .inl (cJ0, 60, .inr (.inl o8_))), (n1, .inl (cJ1, 60, .inr (.inl o9_))), (n2, .inl (cJ2, 60, .inr (.inl o10_))), (n3, .inl (cJ3, 60, .inr (.inl o11_)))] t.heap ∧ va_K (dC, dI) vwCl [(cS, .object RX3), (cJ0, .long), (cJ1, .long), (cJ2, .long), (cJ3, .long)] t ∧ va_D (va_A [(h0, .inr (7, [.ref tp, .ref sc, .ref rd, .ref cu, .ref im, .ref ig, .ref sl, .ref se, .ref sm, .ref fc])), (sl, .inl (cS, 4, .inr (.inr (.inr (.inr (sf4 s0 s1 s2 s3)))))), (s0, .inr (2, [.int wd0, .int rz0, .ref n0])), (s1, .inr (2, [.int wd1, .int rz1, .ref n1])), (s2, .inr (2, [.int wd2, .int rz2, .ref n2])), (s3, .inr (2, [.int wd3, .int rz3, .ref n3])), (n0, .inl (cJ0, 60, .inr (.inl g0))), (n1, .inl (cJ1, 60, .inr (.inl g1))), (n2, .inl (cJ2, 60, .inr (.inl g2))), (n3, .inl (cJ3, 60, .inr (.inl g3)))] sz) [(h0, .inr (7, [.ref tp, .ref sc, .ref rd, .ref cu, .ref im, .ref ig, .ref sl, .ref se, .ref sm, .ref fc])), (sl, .inl (cS, 4, .inr (.inr (.inr (.inr (sf4 s0 s1 s2 s3)))))), (s0, .inr (2, [.int o0_, .int o1_, .ref n0])), (s1, .inr (2, [.int o2_, .int o3_, .ref n1])), (s2, .inr (2, [.int o4_, .int o5_, .ref n2])), (s3, .inr (2, [.int o6_, .int o7_, .ref n3])), (n0, .inl (cJ0, 60, .inr (.inl o8_))), (n1, .inl (cJ1, 60, .inr (.inl o9_))), (n2, .inl (cJ2, 60, .inr (.inl o10_))), (n3, .inl (cJ3, 60, .inr (.inl o11_)))]) (va_A [(h0, .inr (7, [.ref tp, .ref sc, .ref rd, .ref cu, .ref im, .ref ig, .ref sl, .ref se, .ref sm, .ref fc])), (sl, .inl (cS, 4, .inr (.inr (.inr (.inr (sf4 s0 s1 s2 s3)))))), (s0, .inr (2, [.int wd0, .int rz0, .ref n0])), (s1, .inr (2, [.int wd1, .int rz1, .ref n1])), (s2, .inr (2, [.int wd2, .int rz2, .ref n2])), (s3, .inr (2, [.int wd3, .int rz3, .ref n3])), (n0, .inl (cJ0, 60, .inr (.inl g0))), (n1, .inl (cJ1, 60, .inr (.inl g1))), (n2, .inl (cJ2, 60, .inr (.inl g2))), (n3, .inl (cJ3, 60, .inr (.inl g3)))] sz)) 0 0 (va_A [(h0, .inr (7, [.ref tp, .ref sc, .ref rd, .ref cu, .ref im, .ref ig, .ref sl, .ref se, .ref sm, .ref fc])), (sl, .inl (cS, 4, .inr (.inr (.inr (.inr (sf4 s0 s1 s2 s3)))))), (s0, .inr (2, [.int wd0, .int rz0, .ref n0])), (s1, .inr (2, [.int wd1, .int rz1, .ref n1])), (s2, .inr (2, [.int wd2, .int rz2, .ref n2])), (s3, .inr (2, [.int wd3, .int rz3, .ref n3])), (n0, .inl (cJ0, 60, .inr (.inl g0))), (n1, .inl (cJ1, 60, .inr (.inl g1))), (n2, .inl (cJ2, 60, .inr (.inl g2))), (n3, .inl (cJ3, 60, .inr (.inl g3)))] sz) := by
  refine Met.ofW (cc := cX9_row) (maxL := 4) (ret := (some .int)) pn_X9 rfl ?_
  intro p e s m args below meth c s₁ B hml hv
  obtain ⟨rfl, hsz, hP, hK, hD0, hN⟩ := hv
  have hx := B.exec
  have hb := B.bytes
  have hr := B.returns
  have hts := atoms_spec (ws := uX9_rowG) B.pre
  have hown : s.vm.findClass RX9 = some m.cls := hown_of B.named rfl
  have hlocks := B.notSynchronized
  subst hsz
  have hD := hD0.self (sz := s.heap.size)
  generalize hAe : va_A [(h0, .inr (7, [.ref tp, .ref sc, .ref rd, .ref cu, .ref im, .ref ig, .ref sl, .ref se, .ref sm, .ref fc])), (sl, .inl (cS, 4, .inr (.inr (.inr (.inr (sf4 s0 s1 s2 s3)))))), (s0, .inr (2, [.int wd0, .int rz0, .ref n0])), (s1, .inr (2, [.int wd1, .int rz1, .ref n1])), (s2, .inr (2, [.int wd2, .int rz2, .ref n2])), (s3, .inr (2, [.int wd3, .int rz3, .ref n3])), (n0, .inl (cJ0, 60, .inr (.inl g0))), (n1, .inl (cJ1, 60, .inr (.inl g1))), (n2, .inl (cJ2, 60, .inr (.inl g2))), (n3, .inl (cJ3, 60, .inr (.inl g3)))] s.heap.size = A at hD ⊢
  have hA : ∀ q : Nat, s.heap.size ≤ q → A q := fun q h => by rw [← hAe]; exact Or.inr h
  have hS : va_S A s.heap s.heap [] := va_S.rf
  have hP : va_P (dC, dI) vwCl [(h0, .inr (7, [.ref tp, .ref sc, .ref rd, .ref cu, .ref im, .ref ig, .ref sl, .ref se, .ref sm, .ref fc])), (sl, .inl (cS, 4, .inr (.inr (.inr (.inr (sf4 s0 s1 s2 s3)))))), (s0, .inr (2, [.int wd0, .int rz0, .ref n0])), (s1, .inr (2, [.int wd1, .int rz1, .ref n1])), (s2, .inr (2, [.int wd2, .int rz2, .ref n2])), (s3, .inr (2, [.int wd3, .int rz3, .ref n3])), (n0, .inl (cJ0, 60, .inr (.inl g0))), (n1, .inl (cJ1, 60, .inr (.inl g1))), (n2, .inl (cJ2, 60, .inr (.inl g2))), (n3, .inl (cJ3, 60, .inr (.inl g3)))] s.heap := hP
  have hl := lv_entry ([.ref h0, .int a1, .int a2, .int a3]) (n := 4) (Nat.le_of_ble_eq_true rfl)
  rw [lg_entry_eq]
  generalize (lg_sl ([.ref h0, .int a1, .int a2, .int a3]) ++ List.replicate (4 - (lg_sl ([.ref h0, .int a1, .int a2, .int a3])).length) Slot.unset).toArray = ls at hl ⊢
  have hl : lv_has ls 4 [(0, .ref h0), (1, .int a1), (2, .int a2), (3, .int a3)] := hl
  refine lv_aload_n hx hb dX9_row_0 rfl (lv_at hl 0 rfl) ?_
  refine lv_iload_n hx hb dX9_row_1 rfl (lv_at hl 1 rfl) ?_
  refine vp_callSi (W.runV (As := [.int a1]) (rest := []) ⟨hx, hb, hml, hown, hts⟩ (kX9_hasSlot2 l dC dI h0 tp sc rd cu im ig sl se sm fc cS s0 s1 s2 s3 a1 ) (cwV 1 hts gX9_rowG__X9_hasSlot2_V206 rfl rfl rfl hd_yX9_hasSlot ⟨lel 2 2 rfl, lel 43 46 rfl⟩) ⟨pw_fb, rcv_X9 hK hP (q0 := 0) rfl, (pw_use hP hK hN [0, 1] rfl [0] rfl)⟩ rfl rfl hl.1 rfl (lv_room (Nat.le_of_ble_eq_true rfl)) dX9_row_2 ⟨lel 0 0 rfl, lel 0 0 rfl⟩) (fun r_24 h_r_24 => ?_)
  obtain ⟨b_r_24, nz_r_24, zz_r_24⟩ := h_r_24
  have b_r_24 : (0 : Int) ≤ r_24.toInt ∧ r_24.toInt ≤ 1 := b_r_24
  refine lv_if_eq (tgt := 23) hx hb dX9_row_5 (by decide) (fun c_25 => ?_) (fun c_25 => ?_)
  ·
    have n_c_25 : (r_24.toInt : Int) = 0 := c_eq rfl (by decide) c_25
    have b_r_24 : (0 : Int) ≤ r_24.toInt ∧ r_24.toInt ≤ 0 := r_eq1 b_r_24 (by decide : (0 : Int) ≤ (0 : Int32).toInt ∧ (0 : Int32).toInt ≤ 0) n_c_25 (by decide)
    have g_26 := zz_r_24 c_25
    refine lv_bipush (v := (-2)) hx hb dX9_row_23 (by decide) ?_
    have hP9 := hP.sub (ws' := [(h0, .inr (7, [.ref tp, .ref sc, .ref rd, .ref cu, .ref im, .ref ig, .ref sl, .ref se, .ref sm, .ref fc])), (sl, .inl (cS, 4, .inr (.inr (.inr (.inr (sf4 s0 s1 s2 s3)))))), (s0, .inr (2, [.int wd0, .int rz0, .ref n0])), (s1, .inr (2, [.int wd1, .int rz1, .ref n1])), (s2, .inr (2, [.int wd2, .int rz2, .ref n2])), (s3, .inr (2, [.int wd3, .int rz3, .ref n3])), (n0, .inl (cJ0, 60, .inr (.inl g0))), (n1, .inl (cJ1, 60, .inr (.inl g1))), (n2, .inl (cJ2, 60, .inr (.inl g2))), (n3, .inl (cJ3, 60, .inr (.inl g3)))]) [0, 1, 2, 3, 4, 5, 6, 7, 8, 9] rfl
    have hD9 := hD.sub (ws' := [(h0, .inr (7, [.ref tp, .ref sc, .ref rd, .ref cu, .ref im, .ref ig, .ref sl, .ref se, .ref sm, .ref fc])), (sl, .inl (cS, 4, .inr (.inr (.inr (.inr (sf4 s0 s1 s2 s3)))))), (s0, .inr (2, [.int wd0, .int rz0, .ref n0])), (s1, .inr (2, [.int wd1, .int rz1, .ref n1])), (s2, .inr (2, [.int wd2, .int rz2, .ref n2])), (s3, .inr (2, [.int wd3, .int rz3, .ref n3])), (n0, .inl (cJ0, 60, .inr (.inl g0))), (n1, .inl (cJ1, 60, .inr (.inl g1))), (n2, .inl (cJ2, 60, .inr (.inl g2))), (n3, .inl (cJ3, 60, .inr (.inl g3)))]) [0, 1, 2, 3, 4, 5, 6, 7, 8, 9] (by decide) rfl
    have hK9 := hK.sub (tys' := [(cS, .object RX3), (cJ0, .long), (cJ1, .long), (cJ2, .long), (cJ3, .long)]) [0, 1, 2, 3, 4] rfl
    exact W.iret (v := (-2)) hx hb hr (fun t ht hW => ⟨⟨(-2), (), rfl, (rg_w (by decide : (-2 : Int) ≤ ((-2) : Int32).toInt ∧ ((-2) : Int32).toInt ≤ -2) (by decide) (by decide)), wd0, rz0, wd1, rz1, wd2, rz2, wd3, rz3, g0, g1, g2, g3, b_wd0, b_rz0, b_wd1, b_rz1, b_wd2, b_rz2, b_wd3, b_rz3, (rg_no (by omega) hg9_0), (rg_no (by omega) hg9_1), (rg_no (by omega) hg9_2), (rg_no (by omega) hg9_3), by rw [ht]; exact hP9, va_K.moved hW.alike hK9, hD9⟩, hS.F ht⟩) hS.2.2 dX9_row_25
  ·
    have n_c_25 : (r_24.toInt : Int) ≠ 0 := c_ne rfl (by decide) c_25
    have b_r_24 : (1 : Int) ≤ r_24.toInt ∧ r_24.toInt ≤ 1 := r_ne1 b_r_24 (by decide : (0 : Int) ≤ (0 : Int32).toInt ∧ (0 : Int32).toInt ≤ 0) n_c_25 (by decide)
    obtain ⟨b_a1, g_27⟩ := nz_r_24 c_25
    refine lv_iload_n hx hb dX9_row_8 rfl (lv_at hl 2 rfl) ?_
    refine lv_iconst (v := 0) hx hb dX9_row_9 (by decide) ?_
    refine lv_iconst (v := 3) hx hb dX9_row_10 (by decide) ?_
    refine vp_callSi (W.runS (As := [.int a2, .int 0, .int 3]) (rest := []) ⟨hx, hb, hml, hown, hts⟩ (kX9_isWithin2 l dC dI a2 0 3 ) (va_cwS 3 hts gX9_rowG__X9_isWithin2_S158 rfl rfl rfl hd_yX9_isWithin.2 ⟨lel 1 2 rfl, lel 22 46 rfl⟩) ⟨pn_fb, pn_use⟩ rfl rfl hl.1 rfl (lv_room (Nat.le_of_ble_eq_true rfl)) dX9_row_11 ⟨lel 0 0 rfl, lel 0 0 rfl⟩) (fun r_28 h_r_28 => ?_)
    obtain ⟨b_r_28, nz_r_28, zz_r_28⟩ := h_r_28
    have b_r_28 : (0 : Int) ≤ r_28.toInt ∧ r_28.toInt ≤ 1 := b_r_28
    refine lv_if_eq (tgt := 23) hx hb dX9_row_14 (by decide) (fun c_29 => ?_) (fun c_29 => ?_)
    ·
      have n_c_29 : (r_28.toInt : Int) = 0 := c_eq rfl (by decide) c_29
      have b_r_28 : (0 : Int) ≤ r_28.toInt ∧ r_28.toInt ≤ 0 := r_eq1 b_r_28 (by decide : (0 : Int) ≤ (0 : Int32).toInt ∧ (0 : Int32).toInt ≤ 0) n_c_29 (by decide)
      have g_30 := zz_r_28 c_29
      have lt0_g_30 := (by decide : (0 : Int32).toInt = 0)
      have lt1_g_30 := (by decide : (3 : Int32).toInt = 3)
      refine lv_bipush (v := (-2)) hx hb dX9_row_23 (by decide) ?_
      have hP9 := hP.sub (ws' := [(h0, .inr (7, [.ref tp, .ref sc, .ref rd, .ref cu, .ref im, .ref ig, .ref sl, .ref se, .ref sm, .ref fc])), (sl, .inl (cS, 4, .inr (.inr (.inr (.inr (sf4 s0 s1 s2 s3)))))), (s0, .inr (2, [.int wd0, .int rz0, .ref n0])), (s1, .inr (2, [.int wd1, .int rz1, .ref n1])), (s2, .inr (2, [.int wd2, .int rz2, .ref n2])), (s3, .inr (2, [.int wd3, .int rz3, .ref n3])), (n0, .inl (cJ0, 60, .inr (.inl g0))), (n1, .inl (cJ1, 60, .inr (.inl g1))), (n2, .inl (cJ2, 60, .inr (.inl g2))), (n3, .inl (cJ3, 60, .inr (.inl g3)))]) [0, 1, 2, 3, 4, 5, 6, 7, 8, 9] rfl
      have hD9 := hD.sub (ws' := [(h0, .inr (7, [.ref tp, .ref sc, .ref rd, .ref cu, .ref im, .ref ig, .ref sl, .ref se, .ref sm, .ref fc])), (sl, .inl (cS, 4, .inr (.inr (.inr (.inr (sf4 s0 s1 s2 s3)))))), (s0, .inr (2, [.int wd0, .int rz0, .ref n0])), (s1, .inr (2, [.int wd1, .int rz1, .ref n1])), (s2, .inr (2, [.int wd2, .int rz2, .ref n2])), (s3, .inr (2, [.int wd3, .int rz3, .ref n3])), (n0, .inl (cJ0, 60, .inr (.inl g0))), (n1, .inl (cJ1, 60, .inr (.inl g1))), (n2, .inl (cJ2, 60, .inr (.inl g2))), (n3, .inl (cJ3, 60, .inr (.inl g3)))]) [0, 1, 2, 3, 4, 5, 6, 7, 8, 9] (by decide) rfl
      have hK9 := hK.sub (tys' := [(cS, .object RX3), (cJ0, .long), (cJ1, .long), (cJ2, .long), (cJ3, .long)]) [0, 1, 2, 3, 4] rfl
      exact W.iret (v := (-2)) hx hb hr (fun t ht hW => ⟨⟨(-2), (), rfl, (rg_w (by decide : (-2 : Int) ≤ ((-2) : Int32).toInt ∧ ((-2) : Int32).toInt ≤ -2) (by decide) (by decide)), wd0, rz0, wd1, rz1, wd2, rz2, wd3, rz3, g0, g1, g2, g3, b_wd0, b_rz0, b_wd1, b_rz1, b_wd2, b_rz2, b_wd3, b_rz3, (rg_no (by omega) hg9_0), (rg_no (by omega) hg9_1), (rg_no (by omega) hg9_2), (rg_no (by omega) hg9_3), by rw [ht]; exact hP9, va_K.moved hW.alike hK9, hD9⟩, hS.F ht⟩) hS.2.2 dX9_row_25
    ·
      have n_c_29 : (r_28.toInt : Int) ≠ 0 := c_ne rfl (by decide) c_29
      have b_r_28 : (1 : Int) ≤ r_28.toInt ∧ r_28.toInt ≤ 1 := r_ne1 b_r_28 (by decide : (0 : Int) ≤ (0 : Int32).toInt ∧ (0 : Int32).toInt ≤ 0) n_c_29 (by decide)
      have g_31 := nz_r_28 c_29
      have lt0_g_31 := (by decide : (0 : Int32).toInt = 0)
      have lt1_g_31 := (by decide : (3 : Int32).toInt = 3)
      have b_a2 : (0 : Int) ≤ a2.toInt ∧ a2.toInt ≤ 3 := by
        have q0 := (ti_rng a2)
        have q1 := (by decide : (0 : Int) ≤ (0 : Int32).toInt ∧ (0 : Int32).toInt ≤ 0)
        have q2 := (by decide : (3 : Int) ≤ (3 : Int32).toInt ∧ (3 : Int32).toInt ≤ 3)
        omega
      refine lv_iload_n hx hb dX9_row_17 rfl (lv_at hl 3 rfl) ?_
      refine lv_bipush (v := 60) hx hb dX9_row_18 (by decide) ?_
      refine lv_icmp_le (tgt := 26) hx hb dX9_row_20 (by decide) (fun c_32 => ?_) (fun c_32 => ?_)
      ·
        have n_c_32 : (a3.toInt : Int) ≤ 60 := c_le rfl (by decide) c_32
        have b_a3 : (-2147483648 : Int) ≤ a3.toInt ∧ a3.toInt ≤ 60 := r_le1 (ti_rng a3) (by decide : (60 : Int) ≤ (60 : Int32).toInt ∧ (60 : Int32).toInt ≤ 60) n_c_32 (by decide)
        refine lv_iload_n hx hb dX9_row_26 rfl (lv_at hl 3 rfl) ?_
        refine lv_if_ge (tgt := 33) hx hb dX9_row_27 (by decide) (fun c_33 => ?_) (fun c_33 => ?_)
        ·
          have n_c_33 : (0 : Int) ≤ a3.toInt := c_ge rfl (by decide) c_33
          have b_a3 : (0 : Int) ≤ a3.toInt ∧ a3.toInt ≤ 60 := r_le2 (by decide : (0 : Int) ≤ (0 : Int32).toInt ∧ (0 : Int32).toInt ≤ 0) b_a3 n_c_33 (by decide)
          refine lv_aload_n hx hb dX9_row_33 rfl (lv_at hl 0 rfl) ?_
          refine va_get (D := (dC, dI)) (ci := 7) (v := .ref sl) (C := RX9) (T := TX9) (N := 10) hx hb hts iX9_rowG_X9 hown hK hP 0 rfl rfl 6 (by decide) (hts (.fieldLink RX9 50 "LuckyTicket" "slots" "[LLuckyTicket$Row;") (List.mem_of_getElem? (i := 7) rfl)) (fun _ h9 => h9) rfl dX9_row_34 ?_
          refine lv_iload_n hx hb dX9_row_37 rfl (lv_at hl 1 rfl) ?_
          rcases (show a1.toInt = 0 ∨ a1.toInt = 1 ∨ a1.toInt = 2 ∨ a1.toInt = 3 by omega) with h_34 | h_34 | h_34 | h_34
          ·
            obtain rfl : a1 = 0 := Int32.toInt_inj.mp (h_34.trans (by decide))
            refine va_aldq hx hb hK hP 1 0 rfl rfl (vp_in_b (by decide : (0 : Int) ≤ (0 : Int32).toInt ∧ (0 : Int32).toInt ≤ 0) (by decide) (by decide)) dX9_row_38 ?_
            refine W.eq (g2 := F0 m 39 ls (.ref s0 :: [])) (congrArg (fun v => F0 m 39 ls (va_rf v :: [])) (sf4_0 s0 s1 s2 s3)) ?_
            refine lv_iload_n hx hb dX9_row_39 rfl (lv_at hl 2 rfl) ?_
            refine lv_iload_n hx hb dX9_row_40 rfl (lv_at hl 3 rfl) ?_
            have hFc := va_free (wc := [(s0, .inr (2, [.int wd0, .int rz0, .ref n0])), (n0, .inl (cJ0, 60, .inr (.inl g0)))]) hD hS hA [2, 6] rfl
            refine va_callv (va_runV (As := [.int a2, .int a3]) (rest := []) ⟨hx, hb, hml, hown, hts⟩ (kX3_begin l dC dI s0 wd0 rz0 n0 cJ0 g0 a2 a3 (s.heap.size) b_wd0 b_rz0 b_a2 b_a3) (cwV 2 hts gX9_rowG__X3_begin_V340 rfl rfl rfl hd_yX3_begin ⟨lel 2 2 rfl, lel 46 46 rfl⟩) ⟨hw_fb, rcv_X3 hK hP (q0 := 2) rfl, (hw_use hP hD hK hN [2, 6] rfl (by decide) rfl [1] rfl)⟩ rfl rfl hl.1 rfl (lv_room (Nat.le_of_ble_eq_true rfl)) dX9_row_41 ⟨lel 0 0 rfl, lel 0 0 rfl⟩) hS (fun q _ h => hFc q h) hFc (fun u_36 t H1 locs ht hvm hw_r_35 hB hz1 hk1 hS => ?_)
            obtain ⟨o2_37, hP1, hK1, hD1⟩ := hB
            rw [ht] at hP1
            have hK1 := va_K.moved hvm.symm hK1
            obtain ⟨hP, hD⟩ := va_join (wr := [(h0, .inr (7, [.ref tp, .ref sc, .ref rd, .ref cu, .ref im, .ref ig, .ref sl, .ref se, .ref sm, .ref fc])), (sl, .inl (cS, 4, .inr (.inr (.inr (.inr (sf4 s0 s1 s2 s3)))))), (s1, .inr (2, [.int wd1, .int rz1, .ref n1])), (s2, .inr (2, [.int wd2, .int rz2, .ref n2])), (s3, .inr (2, [.int wd3, .int rz3, .ref n3])), (n1, .inl (cJ1, 60, .inr (.inl g1))), (n2, .inl (cJ2, 60, .inr (.inl g2))), (n3, .inl (cJ3, 60, .inr (.inl g3)))]) (w1 := [(s0, .inr (2, [.int a2, .int a3, .ref n0])), (n0, .inl (cJ0, 60, .inr (.inl o2_37)))]) hP hD [2, 6] [0, 1, 3, 4, 5, 7, 8, 9] rfl rfl (by decide) (by decide) hk1 hFc hP1 hD1
            have hK := (hK.sub (tys' := [(cS, .object RX3), (cJ1, .long), (cJ2, .long), (cJ3, .long)]) [0, 2, 3, 4] rfl).app hK1
            generalize H1 = H at hP hS ⊢
            have hP := hP.sub (ws' := [(h0, .inr (7, [.ref tp, .ref sc, .ref rd, .ref cu, .ref im, .ref ig, .ref sl, .ref se, .ref sm, .ref fc])), (sl, .inl (cS, 4, .inr (.inr (.inr (.inr (sf4 s0 s1 s2 s3)))))), (s0, .inr (2, [.int a2, .int a3, .ref n0])), (s1, .inr (2, [.int wd1, .int rz1, .ref n1])), (s2, .inr (2, [.int wd2, .int rz2, .ref n2])), (s3, .inr (2, [.int wd3, .int rz3, .ref n3])), (n0, .inl (cJ0, 60, .inr (.inl o2_37))), (n1, .inl (cJ1, 60, .inr (.inl g1))), (n2, .inl (cJ2, 60, .inr (.inl g2))), (n3, .inl (cJ3, 60, .inr (.inl g3)))]) [0, 1, 8, 2, 3, 4, 9, 5, 6, 7] rfl
            have hD := hD.sub (ws' := [(h0, .inr (7, [.ref tp, .ref sc, .ref rd, .ref cu, .ref im, .ref ig, .ref sl, .ref se, .ref sm, .ref fc])), (sl, .inl (cS, 4, .inr (.inr (.inr (.inr (sf4 s0 s1 s2 s3)))))), (s0, .inr (2, [.int a2, .int a3, .ref n0])), (s1, .inr (2, [.int wd1, .int rz1, .ref n1])), (s2, .inr (2, [.int wd2, .int rz2, .ref n2])), (s3, .inr (2, [.int wd3, .int rz3, .ref n3])), (n0, .inl (cJ0, 60, .inr (.inl o2_37))), (n1, .inl (cJ1, 60, .inr (.inl g1))), (n2, .inl (cJ2, 60, .inr (.inl g2))), (n3, .inl (cJ3, 60, .inr (.inl g3)))]) [0, 1, 8, 2, 3, 4, 9, 5, 6, 7] (by decide) rfl
            have hK := hK.sub (tys' := [(cS, .object RX3), (cJ0, .long), (cJ1, .long), (cJ2, .long), (cJ3, .long)]) [0, 4, 1, 2, 3] rfl
            have hP : va_P (dC, dI) vwCl [(h0, .inr (7, [.ref tp, .ref sc, .ref rd, .ref cu, .ref im, .ref ig, .ref sl, .ref se, .ref sm, .ref fc])), (sl, .inl (cS, 4, .inr (.inr (.inr (.inr (sf4 s0 s1 s2 s3)))))), (s0, .inr (2, [.int a2, .int a3, .ref n0])), (s1, .inr (2, [.int wd1, .int rz1, .ref n1])), (s2, .inr (2, [.int wd2, .int rz2, .ref n2])), (s3, .inr (2, [.int wd3, .int rz3, .ref n3])), (n0, .inl (cJ0, 60, .inr (.inl o2_37))), (n1, .inl (cJ1, 60, .inr (.inl g1))), (n2, .inl (cJ2, 60, .inr (.inl g2))), (n3, .inl (cJ3, 60, .inr (.inl g3)))] H := hP
            have hD : va_D A [(h0, .inr (7, [.ref tp, .ref sc, .ref rd, .ref cu, .ref im, .ref ig, .ref sl, .ref se, .ref sm, .ref fc])), (sl, .inl (cS, 4, .inr (.inr (.inr (.inr (sf4 s0 s1 s2 s3)))))), (s0, .inr (2, [.int a2, .int a3, .ref n0])), (s1, .inr (2, [.int wd1, .int rz1, .ref n1])), (s2, .inr (2, [.int wd2, .int rz2, .ref n2])), (s3, .inr (2, [.int wd3, .int rz3, .ref n3])), (n0, .inl (cJ0, 60, .inr (.inl o2_37))), (n1, .inl (cJ1, 60, .inr (.inl g1))), (n2, .inl (cJ2, 60, .inr (.inl g2))), (n3, .inl (cJ3, 60, .inr (.inl g3)))] := hD
            have hK : va_K (dC, dI) vwCl [(cS, .object RX3), (cJ0, .long), (cJ1, .long), (cJ2, .long), (cJ3, .long)] s := hK
            refine lv_iconst (v := 0) hx hb dX9_row_44 (by decide) ?_
            have hP9 := hP.sub (ws' := [(h0, .inr (7, [.ref tp, .ref sc, .ref rd, .ref cu, .ref im, .ref ig, .ref sl, .ref se, .ref sm, .ref fc])), (sl, .inl (cS, 4, .inr (.inr (.inr (.inr (sf4 s0 s1 s2 s3)))))), (s0, .inr (2, [.int a2, .int a3, .ref n0])), (s1, .inr (2, [.int wd1, .int rz1, .ref n1])), (s2, .inr (2, [.int wd2, .int rz2, .ref n2])), (s3, .inr (2, [.int wd3, .int rz3, .ref n3])), (n0, .inl (cJ0, 60, .inr (.inl o2_37))), (n1, .inl (cJ1, 60, .inr (.inl g1))), (n2, .inl (cJ2, 60, .inr (.inl g2))), (n3, .inl (cJ3, 60, .inr (.inl g3)))]) [0, 1, 2, 3, 4, 5, 6, 7, 8, 9] rfl
            have hD9 := hD.sub (ws' := [(h0, .inr (7, [.ref tp, .ref sc, .ref rd, .ref cu, .ref im, .ref ig, .ref sl, .ref se, .ref sm, .ref fc])), (sl, .inl (cS, 4, .inr (.inr (.inr (.inr (sf4 s0 s1 s2 s3)))))), (s0, .inr (2, [.int a2, .int a3, .ref n0])), (s1, .inr (2, [.int wd1, .int rz1, .ref n1])), (s2, .inr (2, [.int wd2, .int rz2, .ref n2])), (s3, .inr (2, [.int wd3, .int rz3, .ref n3])), (n0, .inl (cJ0, 60, .inr (.inl o2_37))), (n1, .inl (cJ1, 60, .inr (.inl g1))), (n2, .inl (cJ2, 60, .inr (.inl g2))), (n3, .inl (cJ3, 60, .inr (.inl g3)))]) [0, 1, 2, 3, 4, 5, 6, 7, 8, 9] (by decide) rfl
            have hK9 := hK.sub (tys' := [(cS, .object RX3), (cJ0, .long), (cJ1, .long), (cJ2, .long), (cJ3, .long)]) [0, 1, 2, 3, 4] rfl
            exact W.iret (v := 0) hx hb hr (fun t ht hW => ⟨⟨0, (), rfl, (rg_w (by decide : (0 : Int) ≤ (0 : Int32).toInt ∧ (0 : Int32).toInt ≤ 0) (by decide) (by decide)), a2, a3, wd1, rz1, wd2, rz2, wd3, rz3, o2_37, g1, g2, g3, (rg_w b_a2 (by decide) (by decide)), b_a3, b_wd1, b_rz1, b_wd2, b_rz2, b_wd3, b_rz3, (rg_at1 (j := 0) (show _ ∧ _ ∧ _ from ⟨by decide, ⟨by omega, by omega⟩, ⟨by omega, by omega⟩⟩) (by decide)), (rg_ne (j := 1) (show _ ∧ _ ∧ _ from ⟨by decide, ⟨by omega, by omega⟩, ⟨by omega, by omega⟩⟩) (by decide) (by decide) hg9_1), (rg_ne (j := 2) (show _ ∧ _ ∧ _ from ⟨by decide, ⟨by omega, by omega⟩, ⟨by omega, by omega⟩⟩) (by decide) (by decide) hg9_2), (rg_ne (j := 3) (show _ ∧ _ ∧ _ from ⟨by decide, ⟨by omega, by omega⟩, ⟨by omega, by omega⟩⟩) (by decide) (by decide) hg9_3), by rw [ht]; exact hP9, va_K.moved hW.alike hK9, hD9⟩, hS.F ht⟩) hS.2.2 dX9_row_45
          ·
            obtain rfl : a1 = 1 := Int32.toInt_inj.mp (h_34.trans (by decide))
            refine va_aldq hx hb hK hP 1 0 rfl rfl (vp_in_b (by decide : (1 : Int) ≤ (1 : Int32).toInt ∧ (1 : Int32).toInt ≤ 1) (by decide) (by decide)) dX9_row_38 ?_
            refine W.eq (g2 := F0 m 39 ls (.ref s1 :: [])) (congrArg (fun v => F0 m 39 ls (va_rf v :: [])) (sf4_1 s0 s1 s2 s3)) ?_
            refine lv_iload_n hx hb dX9_row_39 rfl (lv_at hl 2 rfl) ?_
            refine lv_iload_n hx hb dX9_row_40 rfl (lv_at hl 3 rfl) ?_
            have hFc := va_free (wc := [(s1, .inr (2, [.int wd1, .int rz1, .ref n1])), (n1, .inl (cJ1, 60, .inr (.inl g1)))]) hD hS hA [3, 7] rfl
            refine va_callv (va_runV (As := [.int a2, .int a3]) (rest := []) ⟨hx, hb, hml, hown, hts⟩ (kX3_begin l dC dI s1 wd1 rz1 n1 cJ1 g1 a2 a3 (s.heap.size) b_wd1 b_rz1 b_a2 b_a3) (cwV 2 hts gX9_rowG__X3_begin_V340 rfl rfl rfl hd_yX3_begin ⟨lel 2 2 rfl, lel 46 46 rfl⟩) ⟨hw_fb, rcv_X3 hK hP (q0 := 3) rfl, (hw_use hP hD hK hN [3, 7] rfl (by decide) rfl [2] rfl)⟩ rfl rfl hl.1 rfl (lv_room (Nat.le_of_ble_eq_true rfl)) dX9_row_41 ⟨lel 0 0 rfl, lel 0 0 rfl⟩) hS (fun q _ h => hFc q h) hFc (fun u_39 t H1 locs ht hvm hw_r_38 hB hz1 hk1 hS => ?_)
            obtain ⟨o2_40, hP1, hK1, hD1⟩ := hB
            rw [ht] at hP1
            have hK1 := va_K.moved hvm.symm hK1
            obtain ⟨hP, hD⟩ := va_join (wr := [(h0, .inr (7, [.ref tp, .ref sc, .ref rd, .ref cu, .ref im, .ref ig, .ref sl, .ref se, .ref sm, .ref fc])), (sl, .inl (cS, 4, .inr (.inr (.inr (.inr (sf4 s0 s1 s2 s3)))))), (s0, .inr (2, [.int wd0, .int rz0, .ref n0])), (s2, .inr (2, [.int wd2, .int rz2, .ref n2])), (s3, .inr (2, [.int wd3, .int rz3, .ref n3])), (n0, .inl (cJ0, 60, .inr (.inl g0))), (n2, .inl (cJ2, 60, .inr (.inl g2))), (n3, .inl (cJ3, 60, .inr (.inl g3)))]) (w1 := [(s1, .inr (2, [.int a2, .int a3, .ref n1])), (n1, .inl (cJ1, 60, .inr (.inl o2_40)))]) hP hD [3, 7] [0, 1, 2, 4, 5, 6, 8, 9] rfl rfl (by decide) (by decide) hk1 hFc hP1 hD1
            have hK := (hK.sub (tys' := [(cS, .object RX3), (cJ0, .long), (cJ2, .long), (cJ3, .long)]) [0, 1, 3, 4] rfl).app hK1
            generalize H1 = H at hP hS ⊢
            have hP := hP.sub (ws' := [(h0, .inr (7, [.ref tp, .ref sc, .ref rd, .ref cu, .ref im, .ref ig, .ref sl, .ref se, .ref sm, .ref fc])), (sl, .inl (cS, 4, .inr (.inr (.inr (.inr (sf4 s0 s1 s2 s3)))))), (s0, .inr (2, [.int wd0, .int rz0, .ref n0])), (s1, .inr (2, [.int a2, .int a3, .ref n1])), (s2, .inr (2, [.int wd2, .int rz2, .ref n2])), (s3, .inr (2, [.int wd3, .int rz3, .ref n3])), (n0, .inl (cJ0, 60, .inr (.inl g0))), (n1, .inl (cJ1, 60, .inr (.inl o2_40))), (n2, .inl (cJ2, 60, .inr (.inl g2))), (n3, .inl (cJ3, 60, .inr (.inl g3)))]) [0, 1, 2, 8, 3, 4, 5, 9, 6, 7] rfl
            have hD := hD.sub (ws' := [(h0, .inr (7, [.ref tp, .ref sc, .ref rd, .ref cu, .ref im, .ref ig, .ref sl, .ref se, .ref sm, .ref fc])), (sl, .inl (cS, 4, .inr (.inr (.inr (.inr (sf4 s0 s1 s2 s3)))))), (s0, .inr (2, [.int wd0, .int rz0, .ref n0])), (s1, .inr (2, [.int a2, .int a3, .ref n1])), (s2, .inr (2, [.int wd2, .int rz2, .ref n2])), (s3, .inr (2, [.int wd3, .int rz3, .ref n3])), (n0, .inl (cJ0, 60, .inr (.inl g0))), (n1, .inl (cJ1, 60, .inr (.inl o2_40))), (n2, .inl (cJ2, 60, .inr (.inl g2))), (n3, .inl (cJ3, 60, .inr (.inl g3)))]) [0, 1, 2, 8, 3, 4, 5, 9, 6, 7] (by decide) rfl
            have hK := hK.sub (tys' := [(cS, .object RX3), (cJ0, .long), (cJ1, .long), (cJ2, .long), (cJ3, .long)]) [0, 1, 4, 2, 3] rfl
            have hP : va_P (dC, dI) vwCl [(h0, .inr (7, [.ref tp, .ref sc, .ref rd, .ref cu, .ref im, .ref ig, .ref sl, .ref se, .ref sm, .ref fc])), (sl, .inl (cS, 4, .inr (.inr (.inr (.inr (sf4 s0 s1 s2 s3)))))), (s0, .inr (2, [.int wd0, .int rz0, .ref n0])), (s1, .inr (2, [.int a2, .int a3, .ref n1])), (s2, .inr (2, [.int wd2, .int rz2, .ref n2])), (s3, .inr (2, [.int wd3, .int rz3, .ref n3])), (n0, .inl (cJ0, 60, .inr (.inl g0))), (n1, .inl (cJ1, 60, .inr (.inl o2_40))), (n2, .inl (cJ2, 60, .inr (.inl g2))), (n3, .inl (cJ3, 60, .inr (.inl g3)))] H := hP
            have hD : va_D A [(h0, .inr (7, [.ref tp, .ref sc, .ref rd, .ref cu, .ref im, .ref ig, .ref sl, .ref se, .ref sm, .ref fc])), (sl, .inl (cS, 4, .inr (.inr (.inr (.inr (sf4 s0 s1 s2 s3)))))), (s0, .inr (2, [.int wd0, .int rz0, .ref n0])), (s1, .inr (2, [.int a2, .int a3, .ref n1])), (s2, .inr (2, [.int wd2, .int rz2, .ref n2])), (s3, .inr (2, [.int wd3, .int rz3, .ref n3])), (n0, .inl (cJ0, 60, .inr (.inl g0))), (n1, .inl (cJ1, 60, .inr (.inl o2_40))), (n2, .inl (cJ2, 60, .inr (.inl g2))), (n3, .inl (cJ3, 60, .inr (.inl g3)))] := hD
            have hK : va_K (dC, dI) vwCl [(cS, .object RX3), (cJ0, .long), (cJ1, .long), (cJ2, .long), (cJ3, .long)] s := hK
            refine lv_iconst (v := 0) hx hb dX9_row_44 (by decide) ?_
            have hP9 := hP.sub (ws' := [(h0, .inr (7, [.ref tp, .ref sc, .ref rd, .ref cu, .ref im, .ref ig, .ref sl, .ref se, .ref sm, .ref fc])), (sl, .inl (cS, 4, .inr (.inr (.inr (.inr (sf4 s0 s1 s2 s3)))))), (s0, .inr (2, [.int wd0, .int rz0, .ref n0])), (s1, .inr (2, [.int a2, .int a3, .ref n1])), (s2, .inr (2, [.int wd2, .int rz2, .ref n2])), (s3, .inr (2, [.int wd3, .int rz3, .ref n3])), (n0, .inl (cJ0, 60, .inr (.inl g0))), (n1, .inl (cJ1, 60, .inr (.inl o2_40))), (n2, .inl (cJ2, 60, .inr (.inl g2))), (n3, .inl (cJ3, 60, .inr (.inl g3)))]) [0, 1, 2, 3, 4, 5, 6, 7, 8, 9] rfl
            have hD9 := hD.sub (ws' := [(h0, .inr (7, [.ref tp, .ref sc, .ref rd, .ref cu, .ref im, .ref ig, .ref sl, .ref se, .ref sm, .ref fc])), (sl, .inl (cS, 4, .inr (.inr (.inr (.inr (sf4 s0 s1 s2 s3)))))), (s0, .inr (2, [.int wd0, .int rz0, .ref n0])), (s1, .inr (2, [.int a2, .int a3, .ref n1])), (s2, .inr (2, [.int wd2, .int rz2, .ref n2])), (s3, .inr (2, [.int wd3, .int rz3, .ref n3])), (n0, .inl (cJ0, 60, .inr (.inl g0))), (n1, .inl (cJ1, 60, .inr (.inl o2_40))), (n2, .inl (cJ2, 60, .inr (.inl g2))), (n3, .inl (cJ3, 60, .inr (.inl g3)))]) [0, 1, 2, 3, 4, 5, 6, 7, 8, 9] (by decide) rfl
            have hK9 := hK.sub (tys' := [(cS, .object RX3), (cJ0, .long), (cJ1, .long), (cJ2, .long), (cJ3, .long)]) [0, 1, 2, 3, 4] rfl
            exact W.iret (v := 0) hx hb hr (fun t ht hW => ⟨⟨0, (), rfl, (rg_w (by decide : (0 : Int) ≤ (0 : Int32).toInt ∧ (0 : Int32).toInt ≤ 0) (by decide) (by decide)), wd0, rz0, a2, a3, wd2, rz2, wd3, rz3, g0, o2_40, g2, g3, b_wd0, b_rz0, (rg_w b_a2 (by decide) (by decide)), b_a3, b_wd2, b_rz2, b_wd3, b_rz3, (rg_ne (j := 0) (show _ ∧ _ ∧ _ from ⟨by decide, ⟨by omega, by omega⟩, ⟨by omega, by omega⟩⟩) (by decide) (by decide) hg9_0), (rg_at1 (j := 1) (show _ ∧ _ ∧ _ from ⟨by decide, ⟨by omega, by omega⟩, ⟨by omega, by omega⟩⟩) (by decide)), (rg_ne (j := 2) (show _ ∧ _ ∧ _ from ⟨by decide, ⟨by omega, by omega⟩, ⟨by omega, by omega⟩⟩) (by decide) (by decide) hg9_2), (rg_ne (j := 3) (show _ ∧ _ ∧ _ from ⟨by decide, ⟨by omega, by omega⟩, ⟨by omega, by omega⟩⟩) (by decide) (by decide) hg9_3), by rw [ht]; exact hP9, va_K.moved hW.alike hK9, hD9⟩, hS.F ht⟩) hS.2.2 dX9_row_45
          ·
            obtain rfl : a1 = 2 := Int32.toInt_inj.mp (h_34.trans (by decide))
            refine va_aldq hx hb hK hP 1 0 rfl rfl (vp_in_b (by decide : (2 : Int) ≤ (2 : Int32).toInt ∧ (2 : Int32).toInt ≤ 2) (by decide) (by decide)) dX9_row_38 ?_
            refine W.eq (g2 := F0 m 39 ls (.ref s2 :: [])) (congrArg (fun v => F0 m 39 ls (va_rf v :: [])) (sf4_2 s0 s1 s2 s3)) ?_
            refine lv_iload_n hx hb dX9_row_39 rfl (lv_at hl 2 rfl) ?_
            refine lv_iload_n hx hb dX9_row_40 rfl (lv_at hl 3 rfl) ?_
            have hFc := va_free (wc := [(s2, .inr (2, [.int wd2, .int rz2, .ref n2])), (n2, .inl (cJ2, 60, .inr (.inl g2)))]) hD hS hA [4, 8] rfl
            refine va_callv (va_runV (As := [.int a2, .int a3]) (rest := []) ⟨hx, hb, hml, hown, hts⟩ (kX3_begin l dC dI s2 wd2 rz2 n2 cJ2 g2 a2 a3 (s.heap.size) b_wd2 b_rz2 b_a2 b_a3) (cwV 2 hts gX9_rowG__X3_begin_V340 rfl rfl rfl hd_yX3_begin ⟨lel 2 2 rfl, lel 46 46 rfl⟩) ⟨hw_fb, rcv_X3 hK hP (q0 := 4) rfl, (hw_use hP hD hK hN [4, 8] rfl (by decide) rfl [3] rfl)⟩ rfl rfl hl.1 rfl (lv_room (Nat.le_of_ble_eq_true rfl)) dX9_row_41 ⟨lel 0 0 rfl, lel 0 0 rfl⟩) hS (fun q _ h => hFc q h) hFc (fun u_42 t H1 locs ht hvm hw_r_41 hB hz1 hk1 hS => ?_)
            obtain ⟨o2_43, hP1, hK1, hD1⟩ := hB
            rw [ht] at hP1
            have hK1 := va_K.moved hvm.symm hK1
            obtain ⟨hP, hD⟩ := va_join (wr := [(h0, .inr (7, [.ref tp, .ref sc, .ref rd, .ref cu, .ref im, .ref ig, .ref sl, .ref se, .ref sm, .ref fc])), (sl, .inl (cS, 4, .inr (.inr (.inr (.inr (sf4 s0 s1 s2 s3)))))), (s0, .inr (2, [.int wd0, .int rz0, .ref n0])), (s1, .inr (2, [.int wd1, .int rz1, .ref n1])), (s3, .inr (2, [.int wd3, .int rz3, .ref n3])), (n0, .inl (cJ0, 60, .inr (.inl g0))), (n1, .inl (cJ1, 60, .inr (.inl g1))), (n3, .inl (cJ3, 60, .inr (.inl g3)))]) (w1 := [(s2, .inr (2, [.int a2, .int a3, .ref n2])), (n2, .inl (cJ2, 60, .inr (.inl o2_43)))]) hP hD [4, 8] [0, 1, 2, 3, 5, 6, 7, 9] rfl rfl (by decide) (by decide) hk1 hFc hP1 hD1
            have hK := (hK.sub (tys' := [(cS, .object RX3), (cJ0, .long), (cJ1, .long), (cJ3, .long)]) [0, 1, 2, 4] rfl).app hK1
            generalize H1 = H at hP hS ⊢
            have hP := hP.sub (ws' := [(h0, .inr (7, [.ref tp, .ref sc, .ref rd, .ref cu, .ref im, .ref ig, .ref sl, .ref se, .ref sm, .ref fc])), (sl, .inl (cS, 4, .inr (.inr (.inr (.inr (sf4 s0 s1 s2 s3)))))), (s0, .inr (2, [.int wd0, .int rz0, .ref n0])), (s1, .inr (2, [.int wd1, .int rz1, .ref n1])), (s2, .inr (2, [.int a2, .int a3, .ref n2])), (s3, .inr (2, [.int wd3, .int rz3, .ref n3])), (n0, .inl (cJ0, 60, .inr (.inl g0))), (n1, .inl (cJ1, 60, .inr (.inl g1))), (n2, .inl (cJ2, 60, .inr (.inl o2_43))), (n3, .inl (cJ3, 60, .inr (.inl g3)))]) [0, 1, 2, 3, 8, 4, 5, 6, 9, 7] rfl
            have hD := hD.sub (ws' := [(h0, .inr (7, [.ref tp, .ref sc, .ref rd, .ref cu, .ref im, .ref ig, .ref sl, .ref se, .ref sm, .ref fc])), (sl, .inl (cS, 4, .inr (.inr (.inr (.inr (sf4 s0 s1 s2 s3)))))), (s0, .inr (2, [.int wd0, .int rz0, .ref n0])), (s1, .inr (2, [.int wd1, .int rz1, .ref n1])), (s2, .inr (2, [.int a2, .int a3, .ref n2])), (s3, .inr (2, [.int wd3, .int rz3, .ref n3])), (n0, .inl (cJ0, 60, .inr (.inl g0))), (n1, .inl (cJ1, 60, .inr (.inl g1))), (n2, .inl (cJ2, 60, .inr (.inl o2_43))), (n3, .inl (cJ3, 60, .inr (.inl g3)))]) [0, 1, 2, 3, 8, 4, 5, 6, 9, 7] (by decide) rfl
            have hK := hK.sub (tys' := [(cS, .object RX3), (cJ0, .long), (cJ1, .long), (cJ2, .long), (cJ3, .long)]) [0, 1, 2, 4, 3] rfl
            have hP : va_P (dC, dI) vwCl [(h0, .inr (7, [.ref tp, .ref sc, .ref rd, .ref cu, .ref im, .ref ig, .ref sl, .ref se, .ref sm, .ref fc])), (sl, .inl (cS, 4, .inr (.inr (.inr (.inr (sf4 s0 s1 s2 s3)))))), (s0, .inr (2, [.int wd0, .int rz0, .ref n0])), (s1, .inr (2, [.int wd1, .int rz1, .ref n1])), (s2, .inr (2, [.int a2, .int a3, .ref n2])), (s3, .inr (2, [.int wd3, .int rz3, .ref n3])), (n0, .inl (cJ0, 60, .inr (.inl g0))), (n1, .inl (cJ1, 60, .inr (.inl g1))), (n2, .inl (cJ2, 60, .inr (.inl o2_43))), (n3, .inl (cJ3, 60, .inr (.inl g3)))] H := hP
            have hD : va_D A [(h0, .inr (7, [.ref tp, .ref sc, .ref rd, .ref cu, .ref im, .ref ig, .ref sl, .ref se, .ref sm, .ref fc])), (sl, .inl (cS, 4, .inr (.inr (.inr (.inr (sf4 s0 s1 s2 s3)))))), (s0, .inr (2, [.int wd0, .int rz0, .ref n0])), (s1, .inr (2, [.int wd1, .int rz1, .ref n1])), (s2, .inr (2, [.int a2, .int a3, .ref n2])), (s3, .inr (2, [.int wd3, .int rz3, .ref n3])), (n0, .inl (cJ0, 60, .inr (.inl g0))), (n1, .inl (cJ1, 60, .inr (.inl g1))), (n2, .inl (cJ2, 60, .inr (.inl o2_43))), (n3, .inl (cJ3, 60, .inr (.inl g3)))] := hD
            have hK : va_K (dC, dI) vwCl [(cS, .object RX3), (cJ0, .long), (cJ1, .long), (cJ2, .long), (cJ3, .long)] s := hK
            refine lv_iconst (v := 0) hx hb dX9_row_44 (by decide) ?_
            have hP9 := hP.sub (ws' := [(h0, .inr (7, [.ref tp, .ref sc, .ref rd, .ref cu, .ref im, .ref ig, .ref sl, .ref se, .ref sm, .ref fc])), (sl, .inl (cS, 4, .inr (.inr (.inr (.inr (sf4 s0 s1 s2 s3)))))), (s0, .inr (2, [.int wd0, .int rz0, .ref n0])), (s1, .inr (2, [.int wd1, .int rz1, .ref n1])), (s2, .inr (2, [.int a2, .int a3, .ref n2])), (s3, .inr (2, [.int wd3, .int rz3, .ref n3])), (n0, .inl (cJ0, 60, .inr (.inl g0))), (n1, .inl (cJ1, 60, .inr (.inl g1))), (n2, .inl (cJ2, 60, .inr (.inl o2_43))), (n3, .inl (cJ3, 60, .inr (.inl g3)))]) [0, 1, 2, 3, 4, 5, 6, 7, 8, 9] rfl
            have hD9 := hD.sub (ws' := [(h0, .inr (7, [.ref tp, .ref sc, .ref rd, .ref cu, .ref im, .ref ig, .ref sl, .ref se, .ref sm, .ref fc])), (sl, .inl (cS, 4, .inr (.inr (.inr (.inr (sf4 s0 s1 s2 s3)))))), (s0, .inr (2, [.int wd0, .int rz0, .ref n0])), (s1, .inr (2, [.int wd1, .int rz1, .ref n1])), (s2, .inr (2, [.int a2, .int a3, .ref n2])), (s3, .inr (2, [.int wd3, .int rz3, .ref n3])), (n0, .inl (cJ0, 60, .inr (.inl g0))), (n1, .inl (cJ1, 60, .inr (.inl g1))), (n2, .inl (cJ2, 60, .inr (.inl o2_43))), (n3, .inl (cJ3, 60, .inr (.inl g3)))]) [0, 1, 2, 3, 4, 5, 6, 7, 8, 9] (by decide) rfl
            have hK9 := hK.sub (tys' := [(cS, .object RX3), (cJ0, .long), (cJ1, .long), (cJ2, .long), (cJ3, .long)]) [0, 1, 2, 3, 4] rfl
            exact W.iret (v := 0) hx hb hr (fun t ht hW => ⟨⟨0, (), rfl, (rg_w (by decide : (0 : Int) ≤ (0 : Int32).toInt ∧ (0 : Int32).toInt ≤ 0) (by decide) (by decide)), wd0, rz0, wd1, rz1, a2, a3, wd3, rz3, g0, g1, o2_43, g3, b_wd0, b_rz0, b_wd1, b_rz1, (rg_w b_a2 (by decide) (by decide)), b_a3, b_wd3, b_rz3, (rg_ne (j := 0) (show _ ∧ _ ∧ _ from ⟨by decide, ⟨by omega, by omega⟩, ⟨by omega, by omega⟩⟩) (by decide) (by decide) hg9_0), (rg_ne (j := 1) (show _ ∧ _ ∧ _ from ⟨by decide, ⟨by omega, by omega⟩, ⟨by omega, by omega⟩⟩) (by decide) (by decide) hg9_1), (rg_at1 (j := 2) (show _ ∧ _ ∧ _ from ⟨by decide, ⟨by omega, by omega⟩, ⟨by omega, by omega⟩⟩) (by decide)), (rg_ne (j := 3) (show _ ∧ _ ∧ _ from ⟨by decide, ⟨by omega, by omega⟩, ⟨by omega, by omega⟩⟩) (by decide) (by decide) hg9_3), by rw [ht]; exact hP9, va_K.moved hW.alike hK9, hD9⟩, hS.F ht⟩) hS.2.2 dX9_row_45
          ·
            obtain rfl : a1 = 3 := Int32.toInt_inj.mp (h_34.trans (by decide))
            refine va_aldq hx hb hK hP 1 0 rfl rfl (vp_in_b (by decide : (3 : Int) ≤ (3 : Int32).toInt ∧ (3 : Int32).toInt ≤ 3) (by decide) (by decide)) dX9_row_38 ?_
            refine W.eq (g2 := F0 m 39 ls (.ref s3 :: [])) (congrArg (fun v => F0 m 39 ls (va_rf v :: [])) (sf4_3 s0 s1 s2 s3)) ?_
            refine lv_iload_n hx hb dX9_row_39 rfl (lv_at hl 2 rfl) ?_
            refine lv_iload_n hx hb dX9_row_40 rfl (lv_at hl 3 rfl) ?_
            have hFc := va_free (wc := [(s3, .inr (2, [.int wd3, .int rz3, .ref n3])), (n3, .inl (cJ3, 60, .inr (.inl g3)))]) hD hS hA [5, 9] rfl
            refine va_callv (va_runV (As := [.int a2, .int a3]) (rest := []) ⟨hx, hb, hml, hown, hts⟩ (kX3_begin l dC dI s3 wd3 rz3 n3 cJ3 g3 a2 a3 (s.heap.size) b_wd3 b_rz3 b_a2 b_a3) (cwV 2 hts gX9_rowG__X3_begin_V340 rfl rfl rfl hd_yX3_begin ⟨lel 2 2 rfl, lel 46 46 rfl⟩) ⟨hw_fb, rcv_X3 hK hP (q0 := 5) rfl, (hw_use hP hD hK hN [5, 9] rfl (by decide) rfl [4] rfl)⟩ rfl rfl hl.1 rfl (lv_room (Nat.le_of_ble_eq_true rfl)) dX9_row_41 ⟨lel 0 0 rfl, lel 0 0 rfl⟩) hS (fun q _ h => hFc q h) hFc (fun u_45 t H1 locs ht hvm hw_r_44 hB hz1 hk1 hS => ?_)
            obtain ⟨o2_46, hP1, hK1, hD1⟩ := hB
            rw [ht] at hP1
            have hK1 := va_K.moved hvm.symm hK1
            obtain ⟨hP, hD⟩ := va_join (wr := [(h0, .inr (7, [.ref tp, .ref sc, .ref rd, .ref cu, .ref im, .ref ig, .ref sl, .ref se, .ref sm, .ref fc])), (sl, .inl (cS, 4, .inr (.inr (.inr (.inr (sf4 s0 s1 s2 s3)))))), (s0, .inr (2, [.int wd0, .int rz0, .ref n0])), (s1, .inr (2, [.int wd1, .int rz1, .ref n1])), (s2, .inr (2, [.int wd2, .int rz2, .ref n2])), (n0, .inl (cJ0, 60, .inr (.inl g0))), (n1, .inl (cJ1, 60, .inr (.inl g1))), (n2, .inl (cJ2, 60, .inr (.inl g2)))]) (w1 := [(s3, .inr (2, [.int a2, .int a3, .ref n3])), (n3, .inl (cJ3, 60, .inr (.inl o2_46)))]) hP hD [5, 9] [0, 1, 2, 3, 4, 6, 7, 8] rfl rfl (by decide) (by decide) hk1 hFc hP1 hD1
            have hK := (hK.sub (tys' := [(cS, .object RX3), (cJ0, .long), (cJ1, .long), (cJ2, .long)]) [0, 1, 2, 3] rfl).app hK1
            generalize H1 = H at hP hS ⊢
            have hP := hP.sub (ws' := [(h0, .inr (7, [.ref tp, .ref sc, .ref rd, .ref cu, .ref im, .ref ig, .ref sl, .ref se, .ref sm, .ref fc])), (sl, .inl (cS, 4, .inr (.inr (.inr (.inr (sf4 s0 s1 s2 s3)))))), (s0, .inr (2, [.int wd0, .int rz0, .ref n0])), (s1, .inr (2, [.int wd1, .int rz1, .ref n1])), (s2, .inr (2, [.int wd2, .int rz2, .ref n2])), (s3, .inr (2, [.int a2, .int a3, .ref n3])), (n0, .inl (cJ0, 60, .inr (.inl g0))), (n1, .inl (cJ1, 60, .inr (.inl g1))), (n2, .inl (cJ2, 60, .inr (.inl g2))), (n3, .inl (cJ3, 60, .inr (.inl o2_46)))]) [0, 1, 2, 3, 4, 8, 5, 6, 7, 9] rfl
            have hD := hD.sub (ws' := [(h0, .inr (7, [.ref tp, .ref sc, .ref rd, .ref cu, .ref im, .ref ig, .ref sl, .ref se, .ref sm, .ref fc])), (sl, .inl (cS, 4, .inr (.inr (.inr (.inr (sf4 s0 s1 s2 s3)))))), (s0, .inr (2, [.int wd0, .int rz0, .ref n0])), (s1, .inr (2, [.int wd1, .int rz1, .ref n1])), (s2, .inr (2, [.int wd2, .int rz2, .ref n2])), (s3, .inr (2, [.int a2, .int a3, .ref n3])), (n0, .inl (cJ0, 60, .inr (.inl g0))), (n1, .inl (cJ1, 60, .inr (.inl g1))), (n2, .inl (cJ2, 60, .inr (.inl g2))), (n3, .inl (cJ3, 60, .inr (.inl o2_46)))]) [0, 1, 2, 3, 4, 8, 5, 6, 7, 9] (by decide) rfl
            have hP : va_P (dC, dI) vwCl [(h0, .inr (7, [.ref tp, .ref sc, .ref rd, .ref cu, .ref im, .ref ig, .ref sl, .ref se, .ref sm, .ref fc])), (sl, .inl (cS, 4, .inr (.inr (.inr (.inr (sf4 s0 s1 s2 s3)))))), (s0, .inr (2, [.int wd0, .int rz0, .ref n0])), (s1, .inr (2, [.int wd1, .int rz1, .ref n1])), (s2, .inr (2, [.int wd2, .int rz2, .ref n2])), (s3, .inr (2, [.int a2, .int a3, .ref n3])), (n0, .inl (cJ0, 60, .inr (.inl g0))), (n1, .inl (cJ1, 60, .inr (.inl g1))), (n2, .inl (cJ2, 60, .inr (.inl g2))), (n3, .inl (cJ3, 60, .inr (.inl o2_46)))] H := hP
            have hD : va_D A [(h0, .inr (7, [.ref tp, .ref sc, .ref rd, .ref cu, .ref im, .ref ig, .ref sl, .ref se, .ref sm, .ref fc])), (sl, .inl (cS, 4, .inr (.inr (.inr (.inr (sf4 s0 s1 s2 s3)))))), (s0, .inr (2, [.int wd0, .int rz0, .ref n0])), (s1, .inr (2, [.int wd1, .int rz1, .ref n1])), (s2, .inr (2, [.int wd2, .int rz2, .ref n2])), (s3, .inr (2, [.int a2, .int a3, .ref n3])), (n0, .inl (cJ0, 60, .inr (.inl g0))), (n1, .inl (cJ1, 60, .inr (.inl g1))), (n2, .inl (cJ2, 60, .inr (.inl g2))), (n3, .inl (cJ3, 60, .inr (.inl o2_46)))] := hD
            have hK : va_K (dC, dI) vwCl [(cS, .object RX3), (cJ0, .long), (cJ1, .long), (cJ2, .long), (cJ3, .long)] s := hK
            refine lv_iconst (v := 0) hx hb dX9_row_44 (by decide) ?_
            have hP9 := hP.sub (ws' := [(h0, .inr (7, [.ref tp, .ref sc, .ref rd, .ref cu, .ref im, .ref ig, .ref sl, .ref se, .ref sm, .ref fc])), (sl, .inl (cS, 4, .inr (.inr (.inr (.inr (sf4 s0 s1 s2 s3)))))), (s0, .inr (2, [.int wd0, .int rz0, .ref n0])), (s1, .inr (2, [.int wd1, .int rz1, .ref n1])), (s2, .inr (2, [.int wd2, .int rz2, .ref n2])), (s3, .inr (2, [.int a2, .int a3, .ref n3])), (n0, .inl (cJ0, 60, .inr (.inl g0))), (n1, .inl (cJ1, 60, .inr (.inl g1))), (n2, .inl (cJ2, 60, .inr (.inl g2))), (n3, .inl (cJ3, 60, .inr (.inl o2_46)))]) [0, 1, 2, 3, 4, 5, 6, 7, 8, 9] rfl
            have hD9 := hD.sub (ws' := [(h0, .inr (7, [.ref tp, .ref sc, .ref rd, .ref cu, .ref im, .ref ig, .ref sl, .ref se, .ref sm, .ref fc])), (sl, .inl (cS, 4, .inr (.inr (.inr (.inr (sf4 s0 s1 s2 s3)))))), (s0, .inr (2, [.int wd0, .int rz0, .ref n0])), (s1, .inr (2, [.int wd1, .int rz1, .ref n1])), (s2, .inr (2, [.int wd2, .int rz2, .ref n2])), (s3, .inr (2, [.int a2, .int a3, .ref n3])), (n0, .inl (cJ0, 60, .inr (.inl g0))), (n1, .inl (cJ1, 60, .inr (.inl g1))), (n2, .inl (cJ2, 60, .inr (.inl g2))), (n3, .inl (cJ3, 60, .inr (.inl o2_46)))]) [0, 1, 2, 3, 4, 5, 6, 7, 8, 9] (by decide) rfl
            have hK9 := hK.sub (tys' := [(cS, .object RX3), (cJ0, .long), (cJ1, .long), (cJ2, .long), (cJ3, .long)]) [0, 1, 2, 3, 4] rfl
            exact W.iret (v := 0) hx hb hr (fun t ht hW => ⟨⟨0, (), rfl, (rg_w (by decide : (0 : Int) ≤ (0 : Int32).toInt ∧ (0 : Int32).toInt ≤ 0) (by decide) (by decide)), wd0, rz0, wd1, rz1, wd2, rz2, a2, a3, g0, g1, g2, o2_46, b_wd0, b_rz0, b_wd1, b_rz1, b_wd2, b_rz2, (rg_w b_a2 (by decide) (by decide)), b_a3, (rg_ne (j := 0) (show _ ∧ _ ∧ _ from ⟨by decide, ⟨by omega, by omega⟩, ⟨by omega, by omega⟩⟩) (by decide) (by decide) hg9_0), (rg_ne (j := 1) (show _ ∧ _ ∧ _ from ⟨by decide, ⟨by omega, by omega⟩, ⟨by omega, by omega⟩⟩) (by decide) (by decide) hg9_1), (rg_ne (j := 2) (show _ ∧ _ ∧ _ from ⟨by decide, ⟨by omega, by omega⟩, ⟨by omega, by omega⟩⟩) (by decide) (by decide) hg9_2), (rg_at1 (j := 3) (show _ ∧ _ ∧ _ from ⟨by decide, ⟨by omega, by omega⟩, ⟨by omega, by omega⟩⟩) (by decide)), by rw [ht]; exact hP9, va_K.moved hW.alike hK9, hD9⟩, hS.F ht⟩) hS.2.2 dX9_row_45
        ·
          have n_c_33 : (a3.toInt : Int) < 0 := c_nge rfl (by decide) c_33
          have b_a3 : (-2147483648 : Int) ≤ a3.toInt ∧ a3.toInt ≤ -1 := r_lt1 b_a3 (by decide : (0 : Int) ≤ (0 : Int32).toInt ∧ (0 : Int32).toInt ≤ 0) n_c_33 (by decide)
          refine lv_bipush (v := (-3)) hx hb dX9_row_30 (by decide) ?_
          have hP9 := hP.sub (ws' := [(h0, .inr (7, [.ref tp, .ref sc, .ref rd, .ref cu, .ref im, .ref ig, .ref sl, .ref se, .ref sm, .ref fc])), (sl, .inl (cS, 4, .inr (.inr (.inr (.inr (sf4 s0 s1 s2 s3)))))), (s0, .inr (2, [.int wd0, .int rz0, .ref n0])), (s1, .inr (2, [.int wd1, .int rz1, .ref n1])), (s2, .inr (2, [.int wd2, .int rz2, .ref n2])), (s3, .inr (2, [.int wd3, .int rz3, .ref n3])), (n0, .inl (cJ0, 60, .inr (.inl g0))), (n1, .inl (cJ1, 60, .inr (.inl g1))), (n2, .inl (cJ2, 60, .inr (.inl g2))), (n3, .inl (cJ3, 60, .inr (.inl g3)))]) [0, 1, 2, 3, 4, 5, 6, 7, 8, 9] rfl
          have hD9 := hD.sub (ws' := [(h0, .inr (7, [.ref tp, .ref sc, .ref rd, .ref cu, .ref im, .ref ig, .ref sl, .ref se, .ref sm, .ref fc])), (sl, .inl (cS, 4, .inr (.inr (.inr (.inr (sf4 s0 s1 s2 s3)))))), (s0, .inr (2, [.int wd0, .int rz0, .ref n0])), (s1, .inr (2, [.int wd1, .int rz1, .ref n1])), (s2, .inr (2, [.int wd2, .int rz2, .ref n2])), (s3, .inr (2, [.int wd3, .int rz3, .ref n3])), (n0, .inl (cJ0, 60, .inr (.inl g0))), (n1, .inl (cJ1, 60, .inr (.inl g1))), (n2, .inl (cJ2, 60, .inr (.inl g2))), (n3, .inl (cJ3, 60, .inr (.inl g3)))]) [0, 1, 2, 3, 4, 5, 6, 7, 8, 9] (by decide) rfl
          have hK9 := hK.sub (tys' := [(cS, .object RX3), (cJ0, .long), (cJ1, .long), (cJ2, .long), (cJ3, .long)]) [0, 1, 2, 3, 4] rfl
          exact W.iret (v := (-3)) hx hb hr (fun t ht hW => ⟨⟨(-3), (), rfl, (rg_w (by decide : (-3 : Int) ≤ ((-3) : Int32).toInt ∧ ((-3) : Int32).toInt ≤ -3) (by decide) (by decide)), wd0, rz0, wd1, rz1, wd2, rz2, wd3, rz3, g0, g1, g2, g3, b_wd0, b_rz0, b_wd1, b_rz1, b_wd2, b_rz2, b_wd3, b_rz3, (rg_no (by omega) hg9_0), (rg_no (by omega) hg9_1), (rg_no (by omega) hg9_2), (rg_no (by omega) hg9_3), by rw [ht]; exact hP9, va_K.moved hW.alike hK9, hD9⟩, hS.F ht⟩) hS.2.2 dX9_row_32
      ·
        have n_c_32 : (60 : Int) < a3.toInt := c_nle rfl (by decide) c_32
        have b_a3 : (61 : Int) ≤ a3.toInt ∧ a3.toInt ≤ 2147483647 := r_lt2 (by decide : (60 : Int) ≤ (60 : Int32).toInt ∧ (60 : Int32).toInt ≤ 60) (ti_rng a3) n_c_32 (by decide)
        refine lv_bipush (v := (-2)) hx hb dX9_row_23 (by decide) ?_
        have hP9 := hP.sub (ws' := [(h0, .inr (7, [.ref tp, .ref sc, .ref rd, .ref cu, .ref im, .ref ig, .ref sl, .ref se, .ref sm, .ref fc])), (sl, .inl (cS, 4, .inr (.inr (.inr (.inr (sf4 s0 s1 s2 s3)))))), (s0, .inr (2, [.int wd0, .int rz0, .ref n0])), (s1, .inr (2, [.int wd1, .int rz1, .ref n1])), (s2, .inr (2, [.int wd2, .int rz2, .ref n2])), (s3, .inr (2, [.int wd3, .int rz3, .ref n3])), (n0, .inl (cJ0, 60, .inr (.inl g0))), (n1, .inl (cJ1, 60, .inr (.inl g1))), (n2, .inl (cJ2, 60, .inr (.inl g2))), (n3, .inl (cJ3, 60, .inr (.inl g3)))]) [0, 1, 2, 3, 4, 5, 6, 7, 8, 9] rfl
        have hD9 := hD.sub (ws' := [(h0, .inr (7, [.ref tp, .ref sc, .ref rd, .ref cu, .ref im, .ref ig, .ref sl, .ref se, .ref sm, .ref fc])), (sl, .inl (cS, 4, .inr (.inr (.inr (.inr (sf4 s0 s1 s2 s3)))))), (s0, .inr (2, [.int wd0, .int rz0, .ref n0])), (s1, .inr (2, [.int wd1, .int rz1, .ref n1])), (s2, .inr (2, [.int wd2, .int rz2, .ref n2])), (s3, .inr (2, [.int wd3, .int rz3, .ref n3])), (n0, .inl (cJ0, 60, .inr (.inl g0))), (n1, .inl (cJ1, 60, .inr (.inl g1))), (n2, .inl (cJ2, 60, .inr (.inl g2))), (n3, .inl (cJ3, 60, .inr (.inl g3)))]) [0, 1, 2, 3, 4, 5, 6, 7, 8, 9] (by decide) rfl
        have hK9 := hK.sub (tys' := [(cS, .object RX3), (cJ0, .long), (cJ1, .long), (cJ2, .long), (cJ3, .long)]) [0, 1, 2, 3, 4] rfl
        exact W.iret (v := (-2)) hx hb hr (fun t ht hW => ⟨⟨(-2), (), rfl, (rg_w (by decide : (-2 : Int) ≤ ((-2) : Int32).toInt ∧ ((-2) : Int32).toInt ≤ -2) (by decide) (by decide)), wd0, rz0, wd1, rz1, wd2, rz2, wd3, rz3, g0, g1, g2, g3, b_wd0, b_rz0, b_wd1, b_rz1, b_wd2, b_rz2, b_wd3, b_rz3, (rg_no (by omega) hg9_0), (rg_no (by omega) hg9_1), (rg_no (by omega) hg9_2), (rg_no (by omega) hg9_3), by rw [ht]; exact hP9, va_K.moved hW.alike hK9, hD9⟩, hS.F ht⟩) hS.2.2 dX9_row_25
def uX10_rowG : List Cond := List.cons (.code yX10_row cX10_row 5 (some .int)) (HAppend.hAppend ([.methodLink RX10 369 yX10_isSlot, .static yX10_isSlot, .initialized RX10, .constantLong RX10 375 (3), .methodLink RX10 82 yX10_in, .static yX10_in, .fieldLink RX10 65 "LuckyTicketModel" "many" "[I", .fieldLink RX10 68 "LuckyTicketModel" "width" "[I", .fieldLink RX10 71 "LuckyTicketModel" "numbers" "[J"] : List Cond) (HAppend.hAppend uX10_isSlot2 (HAppend.hAppend uX10_in6 wsX100)))
theorem iX10_rowG_X10 : ∀ w ∈ wsX100, w ∈ uX10_rowG := fun _ h => (List.mem_cons_of_mem _ (List.mem_append_right _ (List.mem_append_right _ (List.mem_append_right _ h))))
theorem guX10_rowG : GU uX10_rowG := gu_cons (gu_app (by decide +kernel) (gu_ap guX10_isSlot2 (gu_ap guX10_in6 gws_X10)))
theorem gX10_rowG__X10_isSlot2_S369 : GoodIn uX10_rowG (va_wsS RX10 369 yX10_isSlot uX10_isSlot2) := gin_S (List.mem_of_getElem? (i := 1) rfl) (List.mem_of_getElem? (i := 2) rfl) (List.mem_of_getElem? (i := 3) rfl) (fun _ h => (List.mem_cons_of_mem _ (List.mem_append_right _ (List.mem_append_left _ h)))) guX10_isSlot2
theorem gX10_rowG__X10_in6_S82 : GoodIn uX10_rowG (va_wsS RX10 82 yX10_in uX10_in6) := gin_S (List.mem_of_getElem? (i := 5) rfl) (List.mem_of_getElem? (i := 6) rfl) (List.mem_of_getElem? (i := 3) rfl) (fun _ h => (List.mem_cons_of_mem _ (List.mem_append_right _ (List.mem_append_right _ (List.mem_append_left _ h))))) guX10_in6
set_option maxHeartbeats 4000000 in
set_option maxRecDepth 100000 in
theorem kX10_rowG (l : Launch) (dC : Nat → ClassId) (dI : Nat → Nat → Nat) (o0 : Nat) (x_th : Int32) (mwo : Nat) (mim : Nat) (mhi : Nat) (mlu : Nat) (mtp : Nat) (x_td : Int32) (mfv : Nat) (x_sz : Int32) (x_at : Int32) (x_fr : Int32) (x_to : Int32) (x_va : Int32) (x_fk : Int32) (x_fp : Int32) (mfr : Nat) (mwt : Nat) (x_wt : Int32) (x_op : Int32) (x_jo : Int32) (mfg : Nat) (mpl : Nat) (x_dr : Int64) (mtm : Nat) (mfa : Nat) (mqu : Nat) (mmo : Nat) (mwy : Nat) (mwn : Nat) (mma : Nat) (mwi : Nat) (mnu : Nat) (mmv : Nat) (c_ma : ClassId) (c_wi : ClassId) (c_nu : ClassId) (w_ma : Nat → Int32) (w_wi : Nat → Int32) (w_nu : Nat → Int64) (gh : Nat → Int32) (a1 : Int32) (a2 : Int32) (a3 : Int32) (sz : Nat) (ha_mma : rg w_ma 4 (-1) 60) (ha_mwi : rg w_wi 4 0 3) (hgR9 : GR gh w_ma w_wi) : Met l yX10_row uX10_rowG ({ frames := 2, cells := 0, slots := 0, locals := 45 }) (va_Pc [.ref o0, .int a1, .int a2, .int a3] (hw (dC, dI) vwCl [(o0, .inr (8, [.int x_th, .ref mwo, .ref mim, .ref mhi, .ref mlu, .ref mtp, .int x_td, .ref mfv, .int x_sz, .int x_at, .int x_fr, .int x_to, .int x_va, .int x_fk, .int x_fp, .ref mfr, .ref mwt, .int x_wt, .int x_op, .int x_jo, .ref mfg, .ref mpl, .long x_dr, .ref mtm, .ref mfa, .ref mqu, .ref mmo, .ref mwy, .ref mwn, .ref mma, .ref mwi, .ref mnu, .ref mmv])), (mma, .inl (c_ma, 4, .inl w_ma)), (mwi, .inl (c_wi, 4, .inl w_wi)), (mnu, .inl (c_nu, 240, .inr (.inl w_nu)))] [(c_ma, .int), (c_wi, .int), (c_nu, .long)] sz)) (va_Qi (fun (r : Int32) (_ : Unit) => ((-3 : Int) ≤ r.toInt ∧ r.toInt ≤ 0)) (fun (_ : Unit) t => ∃ (o0_ : Nat → Int32) (o1_ : Nat → Int32) (o2_ : Nat → Int64), (rg o0_ 4 (-1) 60) ∧ (rg o1_ 4 0 3) ∧ (GR (rwG gh a1 a2 a3) o0_ o1_) ∧ va_P (dC, dI) vwCl [(o0, .inr (8, [.int x_th, .ref mwo, .ref mim, .ref mhi, .ref mlu, .ref mtp, .int x_td, .ref mfv, .int x_sz, .int x_at, .int x_fr, .int x_to, .int x_va, .int x_fk, .int x_fp, .ref mfr, .ref mwt, .int x_wt, .int x_op, .int x_jo, .ref mfg, .ref mpl, .long x_dr, .ref mtm, .ref mfa, .ref mqu, .ref mmo, .ref mwy, .ref mwn, .ref mma, .ref mwi, .ref mnu, .ref mmv])), (mma, .inl (c_ma, 4, .inl o0_)), (mwi, .inl (c_wi, 4, .inl o1_)), (mnu, .inl (c_nu, 240, .inr (.inl o2_)))] t.heap ∧ va_K (dC, dI) vwCl [(c_ma, .int), (c_wi, .int), (c_nu, .long)] t ∧ va_D (va_A [(o0, .inr (8, [.int x_th, .ref mwo, .ref mim, .ref mhi, .ref mlu, .ref mtp, .int x_td, .ref mfv, .int x_sz, .int x_at, .int x_fr, .int x_to, .int x_va, .int x_fk, .int x_fp, .ref mfr, .ref mwt, .int x_wt, .int x_op, .int x_jo, .ref mfg, .ref mpl, .long x_dr, .ref mtm, .ref mfa, .ref mqu, .ref mmo, .ref mwy, .ref mwn, .ref mma, .ref mwi, .ref mnu, .ref mmv])), (mma, .inl (c_ma, 4, .inl w_ma)), (mwi, .inl (c_wi, 4, .inl w_wi)), (mnu, .inl (c_nu, 240, .inr (.inl w_nu)))] sz) [(o0, .inr (8, [.int x_th, .ref mwo, .ref mim, .ref mhi, .ref mlu, .ref mtp, .int x_td, .ref mfv, .int x_sz, .int x_at, .int x_fr, .int x_to, .int x_va, .int x_fk, .int x_fp, .ref mfr, .ref mwt, .int x_wt, .int x_op, .int x_jo, .ref mfg, .ref mpl, .long x_dr, .ref mtm, .ref mfa, .ref mqu, .ref mmo, .ref mwy, .ref mwn, .ref mma, .ref mwi, .ref mnu, .ref mmv])), (mma, .inl (c_ma, 4, .inl o0_)), (mwi, .inl (c_wi, 4, .inl o1_)), (mnu, .inl (c_nu, 240, .inr (.inl o2_)))]) (va_A [(o0, .inr (8, [.int x_th, .ref mwo, .ref mim, .ref mhi, .ref mlu, .ref mtp, .int x_td, .ref mfv, .int x_sz, .int x_at, .int x_fr, .int x_to, .int x_va, .int x_fk, .int x_fp, .ref mfr, .ref mwt, .int x_wt, .int x_op, .int x_jo, .ref mfg, .ref mpl, .long x_dr, .ref mtm, .ref mfa, .ref mqu, .ref mmo, .ref mwy, .ref mwn, .ref mma, .ref mwi, .ref mnu, .ref mmv])), (mma, .inl (c_ma, 4, .inl w_ma)), (mwi, .inl (c_wi, 4, .inl w_wi)), (mnu, .inl (c_nu, 240, .inr (.inl w_nu)))] sz)) 0 0 (va_A [(o0, .inr (8, [.int x_th, .ref mwo, .ref mim, .ref mhi, .ref mlu, .ref mtp, .int x_td, .ref mfv, .int x_sz, .int x_at, .int x_fr, .int x_to, .int x_va, .int x_fk, .int x_fp, .ref mfr, .ref mwt, .int x_wt, .int x_op, .int x_jo, .ref mfg, .ref mpl, .long x_dr, .ref mtm, .ref mfa, .ref mqu, .ref mmo, .ref mwy, .ref mwn, .ref mma, .ref mwi, .ref mnu, .ref mmv])), (mma, .inl (c_ma, 4, .inl w_ma)), (mwi, .inl (c_wi, 4, .inl w_wi)), (mnu, .inl (c_nu, 240, .inr (.inl w_nu)))] sz) := by
  refine Met.ofW (cc := cX10_row) (maxL := 5) (ret := (some .int)) pn_X10 rfl ?_
  intro p e s m args below meth c s₁ B hml hv
  obtain ⟨rfl, hsz, hP, hK, hD0, hN⟩ := hv
  have hx := B.exec
  have hb := B.bytes
  have hr := B.returns
  have hts := atoms_spec (ws := uX10_rowG) B.pre
  have hown : s.vm.findClass RX10 = some m.cls := hown_of B.named rfl
  have hlocks := B.notSynchronized
  subst hsz
  have hD := hD0.self (sz := s.heap.size)
  generalize hAe : va_A [(o0, .inr (8, [.int x_th, .ref mwo, .ref mim, .ref mhi, .ref mlu, .ref mtp, .int x_td, .ref mfv, .int x_sz, .int x_at, .int x_fr, .int x_to, .int x_va, .int x_fk, .int x_fp, .ref mfr, .ref mwt, .int x_wt, .int x_op, .int x_jo, .ref mfg, .ref mpl, .long x_dr, .ref mtm, .ref mfa, .ref mqu, .ref mmo, .ref mwy, .ref mwn, .ref mma, .ref mwi, .ref mnu, .ref mmv])), (mma, .inl (c_ma, 4, .inl w_ma)), (mwi, .inl (c_wi, 4, .inl w_wi)), (mnu, .inl (c_nu, 240, .inr (.inl w_nu)))] s.heap.size = A at hD ⊢
  have hA : ∀ q : Nat, s.heap.size ≤ q → A q := fun q h => by rw [← hAe]; exact Or.inr h
  have hS : va_S A s.heap s.heap [] := va_S.rf
  have hP : va_P (dC, dI) vwCl [(o0, .inr (8, [.int x_th, .ref mwo, .ref mim, .ref mhi, .ref mlu, .ref mtp, .int x_td, .ref mfv, .int x_sz, .int x_at, .int x_fr, .int x_to, .int x_va, .int x_fk, .int x_fp, .ref mfr, .ref mwt, .int x_wt, .int x_op, .int x_jo, .ref mfg, .ref mpl, .long x_dr, .ref mtm, .ref mfa, .ref mqu, .ref mmo, .ref mwy, .ref mwn, .ref mma, .ref mwi, .ref mnu, .ref mmv])), (mma, .inl (c_ma, 4, .inl w_ma)), (mwi, .inl (c_wi, 4, .inl w_wi)), (mnu, .inl (c_nu, 240, .inr (.inl w_nu)))] s.heap := hP
  have hl := lv_entry ([.ref o0, .int a1, .int a2, .int a3]) (n := 5) (Nat.le_of_ble_eq_true rfl)
  rw [lg_entry_eq]
  generalize (lg_sl ([.ref o0, .int a1, .int a2, .int a3]) ++ List.replicate (5 - (lg_sl ([.ref o0, .int a1, .int a2, .int a3])).length) Slot.unset).toArray = ls at hl ⊢
  have hl : lv_has ls 5 [(0, .ref o0), (1, .int a1), (2, .int a2), (3, .int a3)] := hl
  refine lv_iload_n hx hb dX10_row_0 rfl (lv_at hl 1 rfl) ?_
  refine vp_callSi (W.runS (As := [.int a1]) (rest := []) ⟨hx, hb, hml, hown, hts⟩ (kX10_isSlot2 l dC dI a1 ) (va_cwS 1 hts gX10_rowG__X10_isSlot2_S369 rfl rfl rfl hd_yX10_isSlot.2 ⟨lel 2 2 rfl, lel 45 45 rfl⟩) ⟨pn_fb, pn_use⟩ rfl rfl hl.1 rfl (lv_room (Nat.le_of_ble_eq_true rfl)) dX10_row_1 ⟨lel 0 0 rfl, lel 0 0 rfl⟩) (fun r_53 h_r_53 => ?_)
  obtain ⟨b_r_53, nz_r_53, zz_r_53⟩ := h_r_53
  have b_r_53 : (0 : Int) ≤ r_53.toInt ∧ r_53.toInt ≤ 1 := b_r_53
  refine lv_if_eq (tgt := 25) hx hb dX10_row_4 (by decide) (fun c_54 => ?_) (fun c_54 => ?_)
  ·
    have n_c_54 : (r_53.toInt : Int) = 0 := c_eq rfl (by decide) c_54
    have b_r_53 : (0 : Int) ≤ r_53.toInt ∧ r_53.toInt ≤ 0 := r_eq1 b_r_53 (by decide : (0 : Int) ≤ (0 : Int32).toInt ∧ (0 : Int32).toInt ≤ 0) n_c_54 (by decide)
    have g_55 := zz_r_53 c_54
    refine lv_bipush (v := (-2)) hx hb dX10_row_25 (by decide) ?_
    have hP9 := hP.sub (ws' := [(o0, .inr (8, [.int x_th, .ref mwo, .ref mim, .ref mhi, .ref mlu, .ref mtp, .int x_td, .ref mfv, .int x_sz, .int x_at, .int x_fr, .int x_to, .int x_va, .int x_fk, .int x_fp, .ref mfr, .ref mwt, .int x_wt, .int x_op, .int x_jo, .ref mfg, .ref mpl, .long x_dr, .ref mtm, .ref mfa, .ref mqu, .ref mmo, .ref mwy, .ref mwn, .ref mma, .ref mwi, .ref mnu, .ref mmv])), (mma, .inl (c_ma, 4, .inl w_ma)), (mwi, .inl (c_wi, 4, .inl w_wi)), (mnu, .inl (c_nu, 240, .inr (.inl w_nu)))]) [0, 1, 2, 3] rfl
    have hD9 := hD.sub (ws' := [(o0, .inr (8, [.int x_th, .ref mwo, .ref mim, .ref mhi, .ref mlu, .ref mtp, .int x_td, .ref mfv, .int x_sz, .int x_at, .int x_fr, .int x_to, .int x_va, .int x_fk, .int x_fp, .ref mfr, .ref mwt, .int x_wt, .int x_op, .int x_jo, .ref mfg, .ref mpl, .long x_dr, .ref mtm, .ref mfa, .ref mqu, .ref mmo, .ref mwy, .ref mwn, .ref mma, .ref mwi, .ref mnu, .ref mmv])), (mma, .inl (c_ma, 4, .inl w_ma)), (mwi, .inl (c_wi, 4, .inl w_wi)), (mnu, .inl (c_nu, 240, .inr (.inl w_nu)))]) [0, 1, 2, 3] (by decide) rfl
    have hK9 := hK.sub (tys' := [(c_ma, .int), (c_wi, .int), (c_nu, .long)]) [0, 1, 2] rfl
    exact W.iret (v := (-2)) hx hb hr (fun t ht hW => ⟨⟨(-2), (), rfl, (rg_w (by decide : (-2 : Int) ≤ ((-2) : Int32).toInt ∧ ((-2) : Int32).toInt ≤ -2) (by decide) (by decide)), w_ma, w_wi, w_nu, ha_mma, ha_mwi, (gr_no (by omega) hgR9), by rw [ht]; exact hP9, va_K.moved hW.alike hK9, hD9⟩, hS.F ht⟩) hS.2.2 dX10_row_27
  ·
    have n_c_54 : (r_53.toInt : Int) ≠ 0 := c_ne rfl (by decide) c_54
    have b_r_53 : (1 : Int) ≤ r_53.toInt ∧ r_53.toInt ≤ 1 := r_ne1 b_r_53 (by decide : (0 : Int) ≤ (0 : Int32).toInt ∧ (0 : Int32).toInt ≤ 0) n_c_54 (by decide)
    obtain ⟨b_a1, g_56⟩ := nz_r_53 c_54
    refine lv_iload_n hx hb dX10_row_7 rfl (lv_at hl 2 rfl) ?_
    obtain ⟨z_57, e_z_57⟩ : ∃ y : Int64, y = a2.toInt64 := ⟨_, rfl⟩
    refine lv_i2l (v := z_57) hx hb dX10_row_8 e_z_57.symm ?_
    obtain ⟨q_z_57, b_z_57⟩ := ti_i2l e_z_57 (ti_rng a2)
    refine lv_lconst (v := 0) hx hb dX10_row_9 (by decide) ?_
    refine lv_ldc2 (v := 3) hx hb hown (hts (.constantLong RX10 375 (3)) (List.mem_of_getElem? (i := 4) rfl)) dX10_row_10 ?_
    refine vp_callSi (W.runS (As := [.long z_57, .long 0, .long 3]) (rest := []) ⟨hx, hb, hml, hown, hts⟩ (kX10_in6 l dC dI z_57 0 3 ) (va_cwS 3 hts gX10_rowG__X10_in6_S82 rfl rfl rfl hd_yX10_in.2 ⟨lel 1 2 rfl, lel 25 45 rfl⟩) ⟨pn_fb, pn_use⟩ rfl rfl hl.1 rfl (lv_room (Nat.le_of_ble_eq_true rfl)) dX10_row_13 ⟨lel 0 0 rfl, lel 0 0 rfl⟩) (fun r_58 h_r_58 => ?_)
    obtain ⟨b_r_58, nz_r_58, zz_r_58⟩ := h_r_58
    have b_r_58 : (0 : Int) ≤ r_58.toInt ∧ r_58.toInt ≤ 1 := b_r_58
    refine lv_if_eq (tgt := 25) hx hb dX10_row_16 (by decide) (fun c_59 => ?_) (fun c_59 => ?_)
    ·
      have n_c_59 : (r_58.toInt : Int) = 0 := c_eq rfl (by decide) c_59
      have b_r_58 : (0 : Int) ≤ r_58.toInt ∧ r_58.toInt ≤ 0 := r_eq1 b_r_58 (by decide : (0 : Int) ≤ (0 : Int32).toInt ∧ (0 : Int32).toInt ≤ 0) n_c_59 (by decide)
      have g_60 := zz_r_58 c_59
      have lt0_g_60 := (by decide : (0 : Int64).toInt = 0)
      have lt1_g_60 := (by decide : (3 : Int64).toInt = 3)
      refine lv_bipush (v := (-2)) hx hb dX10_row_25 (by decide) ?_
      have hP9 := hP.sub (ws' := [(o0, .inr (8, [.int x_th, .ref mwo, .ref mim, .ref mhi, .ref mlu, .ref mtp, .int x_td, .ref mfv, .int x_sz, .int x_at, .int x_fr, .int x_to, .int x_va, .int x_fk, .int x_fp, .ref mfr, .ref mwt, .int x_wt, .int x_op, .int x_jo, .ref mfg, .ref mpl, .long x_dr, .ref mtm, .ref mfa, .ref mqu, .ref mmo, .ref mwy, .ref mwn, .ref mma, .ref mwi, .ref mnu, .ref mmv])), (mma, .inl (c_ma, 4, .inl w_ma)), (mwi, .inl (c_wi, 4, .inl w_wi)), (mnu, .inl (c_nu, 240, .inr (.inl w_nu)))]) [0, 1, 2, 3] rfl
      have hD9 := hD.sub (ws' := [(o0, .inr (8, [.int x_th, .ref mwo, .ref mim, .ref mhi, .ref mlu, .ref mtp, .int x_td, .ref mfv, .int x_sz, .int x_at, .int x_fr, .int x_to, .int x_va, .int x_fk, .int x_fp, .ref mfr, .ref mwt, .int x_wt, .int x_op, .int x_jo, .ref mfg, .ref mpl, .long x_dr, .ref mtm, .ref mfa, .ref mqu, .ref mmo, .ref mwy, .ref mwn, .ref mma, .ref mwi, .ref mnu, .ref mmv])), (mma, .inl (c_ma, 4, .inl w_ma)), (mwi, .inl (c_wi, 4, .inl w_wi)), (mnu, .inl (c_nu, 240, .inr (.inl w_nu)))]) [0, 1, 2, 3] (by decide) rfl
      have hK9 := hK.sub (tys' := [(c_ma, .int), (c_wi, .int), (c_nu, .long)]) [0, 1, 2] rfl
      exact W.iret (v := (-2)) hx hb hr (fun t ht hW => ⟨⟨(-2), (), rfl, (rg_w (by decide : (-2 : Int) ≤ ((-2) : Int32).toInt ∧ ((-2) : Int32).toInt ≤ -2) (by decide) (by decide)), w_ma, w_wi, w_nu, ha_mma, ha_mwi, (gr_no (by omega) hgR9), by rw [ht]; exact hP9, va_K.moved hW.alike hK9, hD9⟩, hS.F ht⟩) hS.2.2 dX10_row_27
    ·
      have n_c_59 : (r_58.toInt : Int) ≠ 0 := c_ne rfl (by decide) c_59
      have b_r_58 : (1 : Int) ≤ r_58.toInt ∧ r_58.toInt ≤ 1 := r_ne1 b_r_58 (by decide : (0 : Int) ≤ (0 : Int32).toInt ∧ (0 : Int32).toInt ≤ 0) n_c_59 (by decide)
      have g_61 := nz_r_58 c_59
      have lt0_g_61 := (by decide : (0 : Int64).toInt = 0)
      have lt1_g_61 := (by decide : (3 : Int64).toInt = 3)
      have b_z_57 : (0 : Int) ≤ z_57.toInt ∧ z_57.toInt ≤ 3 := by
        have q0 := b_z_57
        have q1 := (by decide : (0 : Int) ≤ (0 : Int64).toInt ∧ (0 : Int64).toInt ≤ 0)
        have q2 := (by decide : (3 : Int) ≤ (3 : Int64).toInt ∧ (3 : Int64).toInt ≤ 3)
        omega
      have b_a2 : (0 : Int) ≤ a2.toInt ∧ a2.toInt ≤ 3 := by
        have q0 := b_z_57; have q1 := q_z_57; have q2 := (ti_rng a2); omega
      refine lv_iload_n hx hb dX10_row_19 rfl (lv_at hl 3 rfl) ?_
      refine lv_bipush (v := 60) hx hb dX10_row_20 (by decide) ?_
      refine lv_icmp_le (tgt := 28) hx hb dX10_row_22 (by decide) (fun c_62 => ?_) (fun c_62 => ?_)
      ·
        have n_c_62 : (a3.toInt : Int) ≤ 60 := c_le rfl (by decide) c_62
        have b_a3 : (-2147483648 : Int) ≤ a3.toInt ∧ a3.toInt ≤ 60 := r_le1 (ti_rng a3) (by decide : (60 : Int) ≤ (60 : Int32).toInt ∧ (60 : Int32).toInt ≤ 60) n_c_62 (by decide)
        refine lv_iload_n hx hb dX10_row_28 rfl (lv_at hl 3 rfl) ?_
        refine lv_if_ge (tgt := 35) hx hb dX10_row_29 (by decide) (fun c_63 => ?_) (fun c_63 => ?_)
        ·
          have n_c_63 : (0 : Int) ≤ a3.toInt := c_ge rfl (by decide) c_63
          have b_a3 : (0 : Int) ≤ a3.toInt ∧ a3.toInt ≤ 60 := r_le2 (by decide : (0 : Int) ≤ (0 : Int32).toInt ∧ (0 : Int32).toInt ≤ 0) b_a3 n_c_63 (by decide)
          refine lv_aload_n hx hb dX10_row_35 rfl (lv_at hl 0 rfl) ?_
          refine va_get (D := (dC, dI)) (ci := 8) (v := .ref mma) (C := RX10) (T := TX10) (N := 33) hx hb hts iX10_rowG_X10 hown hK hP 0 rfl rfl 29 (by decide) (hts (.fieldLink RX10 65 "LuckyTicketModel" "many" "[I") (List.mem_of_getElem? (i := 7) rfl)) (fun _ h9 => h9) rfl dX10_row_36 ?_
          refine lv_iload_n hx hb dX10_row_39 rfl (lv_at hl 1 rfl) ?_
          refine lv_iload_n hx hb dX10_row_40 rfl (lv_at hl 3 rfl) ?_
          refine va_iast hx hb hK hP hD hS 1 0 rfl rfl (vp_in_b b_a1 (by decide) (by decide)) dX10_row_41 (fun H locs hP hD hS => ?_)
          have hP : va_P (dC, dI) vwCl [(o0, .inr (8, [.int x_th, .ref mwo, .ref mim, .ref mhi, .ref mlu, .ref mtp, .int x_td, .ref mfv, .int x_sz, .int x_at, .int x_fr, .int x_to, .int x_va, .int x_fk, .int x_fp, .ref mfr, .ref mwt, .int x_wt, .int x_op, .int x_jo, .ref mfg, .ref mpl, .long x_dr, .ref mtm, .ref mfa, .ref mqu, .ref mmo, .ref mwy, .ref mwn, .ref mma, .ref mwi, .ref mnu, .ref mmv])), (mma, .inl (c_ma, 4, .inl (upd w_ma (a1 : Int32).toNatClampNeg a3))), (mwi, .inl (c_wi, 4, .inl w_wi)), (mnu, .inl (c_nu, 240, .inr (.inl w_nu)))] H := hP
          have hD : va_D A [(o0, .inr (8, [.int x_th, .ref mwo, .ref mim, .ref mhi, .ref mlu, .ref mtp, .int x_td, .ref mfv, .int x_sz, .int x_at, .int x_fr, .int x_to, .int x_va, .int x_fk, .int x_fp, .ref mfr, .ref mwt, .int x_wt, .int x_op, .int x_jo, .ref mfg, .ref mpl, .long x_dr, .ref mtm, .ref mfa, .ref mqu, .ref mmo, .ref mwy, .ref mwn, .ref mma, .ref mwi, .ref mnu, .ref mmv])), (mma, .inl (c_ma, 4, .inl (upd w_ma (a1 : Int32).toNatClampNeg a3))), (mwi, .inl (c_wi, 4, .inl w_wi)), (mnu, .inl (c_nu, 240, .inr (.inl w_nu)))] := hD
          have ha_65 : rg (upd w_ma (a1 : Int32).toNatClampNeg a3) 4 (-1) 60 := rg_upd ha_mma (rg_w b_a3 (by decide) (by decide))
          generalize ef_f_64 : (upd w_ma (a1 : Int32).toNatClampNeg a3) = f_64 at hP hD ha_65
          have hP : va_P (dC, dI) vwCl [(o0, .inr (8, [.int x_th, .ref mwo, .ref mim, .ref mhi, .ref mlu, .ref mtp, .int x_td, .ref mfv, .int x_sz, .int x_at, .int x_fr, .int x_to, .int x_va, .int x_fk, .int x_fp, .ref mfr, .ref mwt, .int x_wt, .int x_op, .int x_jo, .ref mfg, .ref mpl, .long x_dr, .ref mtm, .ref mfa, .ref mqu, .ref mmo, .ref mwy, .ref mwn, .ref mma, .ref mwi, .ref mnu, .ref mmv])), (mma, .inl (c_ma, 4, .inl f_64)), (mwi, .inl (c_wi, 4, .inl w_wi)), (mnu, .inl (c_nu, 240, .inr (.inl w_nu)))] H := hP
          have hD : va_D A [(o0, .inr (8, [.int x_th, .ref mwo, .ref mim, .ref mhi, .ref mlu, .ref mtp, .int x_td, .ref mfv, .int x_sz, .int x_at, .int x_fr, .int x_to, .int x_va, .int x_fk, .int x_fp, .ref mfr, .ref mwt, .int x_wt, .int x_op, .int x_jo, .ref mfg, .ref mpl, .long x_dr, .ref mtm, .ref mfa, .ref mqu, .ref mmo, .ref mwy, .ref mwn, .ref mma, .ref mwi, .ref mnu, .ref mmv])), (mma, .inl (c_ma, 4, .inl f_64)), (mwi, .inl (c_wi, 4, .inl w_wi)), (mnu, .inl (c_nu, 240, .inr (.inl w_nu)))] := hD
          refine lv_aload_n hx hb dX10_row_42 rfl (lv_at hl 0 rfl) ?_
          refine va_get (D := (dC, dI)) (ci := 8) (v := .ref mwi) (C := RX10) (T := TX10) (N := 33) hx hb hts iX10_rowG_X10 hown hK hP 0 rfl rfl 30 (by decide) (hts (.fieldLink RX10 68 "LuckyTicketModel" "width" "[I") (List.mem_of_getElem? (i := 8) rfl)) (fun _ h9 => h9) rfl dX10_row_43 ?_
          refine lv_iload_n hx hb dX10_row_46 rfl (lv_at hl 1 rfl) ?_
          refine lv_iload_n hx hb dX10_row_47 rfl (lv_at hl 2 rfl) ?_
          refine va_iast hx hb hK hP hD hS 2 1 rfl rfl (vp_in_b b_a1 (by decide) (by decide)) dX10_row_48 (fun H locs hP hD hS => ?_)
          have hP : va_P (dC, dI) vwCl [(o0, .inr (8, [.int x_th, .ref mwo, .ref mim, .ref mhi, .ref mlu, .ref mtp, .int x_td, .ref mfv, .int x_sz, .int x_at, .int x_fr, .int x_to, .int x_va, .int x_fk, .int x_fp, .ref mfr, .ref mwt, .int x_wt, .int x_op, .int x_jo, .ref mfg, .ref mpl, .long x_dr, .ref mtm, .ref mfa, .ref mqu, .ref mmo, .ref mwy, .ref mwn, .ref mma, .ref mwi, .ref mnu, .ref mmv])), (mma, .inl (c_ma, 4, .inl f_64)), (mwi, .inl (c_wi, 4, .inl (upd w_wi (a1 : Int32).toNatClampNeg a2))), (mnu, .inl (c_nu, 240, .inr (.inl w_nu)))] H := hP
          have hD : va_D A [(o0, .inr (8, [.int x_th, .ref mwo, .ref mim, .ref mhi, .ref mlu, .ref mtp, .int x_td, .ref mfv, .int x_sz, .int x_at, .int x_fr, .int x_to, .int x_va, .int x_fk, .int x_fp, .ref mfr, .ref mwt, .int x_wt, .int x_op, .int x_jo, .ref mfg, .ref mpl, .long x_dr, .ref mtm, .ref mfa, .ref mqu, .ref mmo, .ref mwy, .ref mwn, .ref mma, .ref mwi, .ref mnu, .ref mmv])), (mma, .inl (c_ma, 4, .inl f_64)), (mwi, .inl (c_wi, 4, .inl (upd w_wi (a1 : Int32).toNatClampNeg a2))), (mnu, .inl (c_nu, 240, .inr (.inl w_nu)))] := hD
          have ha_67 : rg (upd w_wi (a1 : Int32).toNatClampNeg a2) 4 0 3 := rg_upd ha_mwi b_a2
          generalize ef_f_66 : (upd w_wi (a1 : Int32).toNatClampNeg a2) = f_66 at hP hD ha_67
          have hP : va_P (dC, dI) vwCl [(o0, .inr (8, [.int x_th, .ref mwo, .ref mim, .ref mhi, .ref mlu, .ref mtp, .int x_td, .ref mfv, .int x_sz, .int x_at, .int x_fr, .int x_to, .int x_va, .int x_fk, .int x_fp, .ref mfr, .ref mwt, .int x_wt, .int x_op, .int x_jo, .ref mfg, .ref mpl, .long x_dr, .ref mtm, .ref mfa, .ref mqu, .ref mmo, .ref mwy, .ref mwn, .ref mma, .ref mwi, .ref mnu, .ref mmv])), (mma, .inl (c_ma, 4, .inl f_64)), (mwi, .inl (c_wi, 4, .inl f_66)), (mnu, .inl (c_nu, 240, .inr (.inl w_nu)))] H := hP
          have hD : va_D A [(o0, .inr (8, [.int x_th, .ref mwo, .ref mim, .ref mhi, .ref mlu, .ref mtp, .int x_td, .ref mfv, .int x_sz, .int x_at, .int x_fr, .int x_to, .int x_va, .int x_fk, .int x_fp, .ref mfr, .ref mwt, .int x_wt, .int x_op, .int x_jo, .ref mfg, .ref mpl, .long x_dr, .ref mtm, .ref mfa, .ref mqu, .ref mmo, .ref mwy, .ref mwn, .ref mma, .ref mwi, .ref mnu, .ref mmv])), (mma, .inl (c_ma, 4, .inl f_64)), (mwi, .inl (c_wi, 4, .inl f_66)), (mnu, .inl (c_nu, 240, .inr (.inl w_nu)))] := hD
          refine lv_iconst (v := 0) hx hb dX10_row_49 (by decide) ?_
          refine lv_istore (lv' := [(4, .int 0), (0, .ref o0), (1, .int a1), (2, .int a2), (3, .int a3)]) hx hb dX10_row_50 hl (by decide) rfl (fun ls hl => ?_)
          refine loopW (σ := Int32 × (Nat → Int64)) (fun v => (60 - v.1.toInt).toNat) (fun v H locs ls => ((0 : Int) ≤ v.1.toInt ∧ v.1.toInt ≤ 60) ∧ va_P (dC, dI) vwCl [(o0, .inr (8, [.int x_th, .ref mwo, .ref mim, .ref mhi, .ref mlu, .ref mtp, .int x_td, .ref mfv, .int x_sz, .int x_at, .int x_fr, .int x_to, .int x_va, .int x_fk, .int x_fp, .ref mfr, .ref mwt, .int x_wt, .int x_op, .int x_jo, .ref mfg, .ref mpl, .long x_dr, .ref mtm, .ref mfa, .ref mqu, .ref mmo, .ref mwy, .ref mwn, .ref mma, .ref mwi, .ref mnu, .ref mmv])), (mma, .inl (c_ma, 4, .inl f_64)), (mwi, .inl (c_wi, 4, .inl f_66)), (mnu, .inl (c_nu, 240, .inr (.inl v.2)))] H ∧ va_D A [(o0, .inr (8, [.int x_th, .ref mwo, .ref mim, .ref mhi, .ref mlu, .ref mtp, .int x_td, .ref mfv, .int x_sz, .int x_at, .int x_fr, .int x_to, .int x_va, .int x_fk, .int x_fp, .ref mfr, .ref mwt, .int x_wt, .int x_op, .int x_jo, .ref mfg, .ref mpl, .long x_dr, .ref mtm, .ref mfa, .ref mqu, .ref mmo, .ref mwy, .ref mwn, .ref mma, .ref mwi, .ref mnu, .ref mmv])), (mma, .inl (c_ma, 4, .inl f_64)), (mwi, .inl (c_wi, 4, .inl f_66)), (mnu, .inl (c_nu, 240, .inr (.inl v.2)))] ∧ va_S A s.heap H locs ∧ lv_has ls 5 [(4, .int v.1), (0, .ref o0), (1, .int a1), (2, .int a2), (3, .int a3)]) (fun v H locs ls hI ih_52_99 => ?_) ((0 : Int32), w_nu) ⟨(show (0 : Int) ≤ (0 : Int32).toInt ∧ (0 : Int32).toInt ≤ 60 from (rg_w (by decide : (0 : Int) ≤ (0 : Int32).toInt ∧ (0 : Int32).toInt ≤ 0) (by decide) (by decide))), hP, hD, hS, lv_sub hl [0, 1, 2, 3, 4] rfl⟩
          obtain ⟨y_73, f_74⟩ := v
          obtain ⟨b_y_73, hP, hD, hS, hl⟩ := hI
          have b_y_73 : (0 : Int) ≤ y_73.toInt ∧ y_73.toInt ≤ 60 := b_y_73
          have hP : va_P (dC, dI) vwCl [(o0, .inr (8, [.int x_th, .ref mwo, .ref mim, .ref mhi, .ref mlu, .ref mtp, .int x_td, .ref mfv, .int x_sz, .int x_at, .int x_fr, .int x_to, .int x_va, .int x_fk, .int x_fp, .ref mfr, .ref mwt, .int x_wt, .int x_op, .int x_jo, .ref mfg, .ref mpl, .long x_dr, .ref mtm, .ref mfa, .ref mqu, .ref mmo, .ref mwy, .ref mwn, .ref mma, .ref mwi, .ref mnu, .ref mmv])), (mma, .inl (c_ma, 4, .inl f_64)), (mwi, .inl (c_wi, 4, .inl f_66)), (mnu, .inl (c_nu, 240, .inr (.inl f_74)))] H := hP
          have hD : va_D A [(o0, .inr (8, [.int x_th, .ref mwo, .ref mim, .ref mhi, .ref mlu, .ref mtp, .int x_td, .ref mfv, .int x_sz, .int x_at, .int x_fr, .int x_to, .int x_va, .int x_fk, .int x_fp, .ref mfr, .ref mwt, .int x_wt, .int x_op, .int x_jo, .ref mfg, .ref mpl, .long x_dr, .ref mtm, .ref mfa, .ref mqu, .ref mmo, .ref mwy, .ref mwn, .ref mma, .ref mwi, .ref mnu, .ref mmv])), (mma, .inl (c_ma, 4, .inl f_64)), (mwi, .inl (c_wi, 4, .inl f_66)), (mnu, .inl (c_nu, 240, .inr (.inl f_74)))] := hD
          have hl : lv_has ls 5 [(4, .int y_73), (0, .ref o0), (1, .int a1), (2, .int a2), (3, .int a3)] := hl
          refine lv_iload hx hb dX10_row_52 (lv_at hl 0 rfl) ?_
          refine lv_bipush (v := 60) hx hb dX10_row_54 (by decide) ?_
          refine lv_icmp_ge (tgt := 78) hx hb dX10_row_56 (by decide) (fun c_100 => ?_) (fun c_100 => ?_)
          ·
            have n_c_100 : (60 : Int) ≤ y_73.toInt := c_ge rfl (by decide) c_100
            have b_y_73 : (60 : Int) ≤ y_73.toInt ∧ y_73.toInt ≤ 60 := r_le2 (by decide : (60 : Int) ≤ (60 : Int32).toInt ∧ (60 : Int32).toInt ≤ 60) b_y_73 n_c_100 (by decide)
            refine lv_iconst (v := 0) hx hb dX10_row_78 (by decide) ?_
            have hP9 := hP.sub (ws' := [(o0, .inr (8, [.int x_th, .ref mwo, .ref mim, .ref mhi, .ref mlu, .ref mtp, .int x_td, .ref mfv, .int x_sz, .int x_at, .int x_fr, .int x_to, .int x_va, .int x_fk, .int x_fp, .ref mfr, .ref mwt, .int x_wt, .int x_op, .int x_jo, .ref mfg, .ref mpl, .long x_dr, .ref mtm, .ref mfa, .ref mqu, .ref mmo, .ref mwy, .ref mwn, .ref mma, .ref mwi, .ref mnu, .ref mmv])), (mma, .inl (c_ma, 4, .inl f_64)), (mwi, .inl (c_wi, 4, .inl f_66)), (mnu, .inl (c_nu, 240, .inr (.inl f_74)))]) [0, 1, 2, 3] rfl
            have hD9 := hD.sub (ws' := [(o0, .inr (8, [.int x_th, .ref mwo, .ref mim, .ref mhi, .ref mlu, .ref mtp, .int x_td, .ref mfv, .int x_sz, .int x_at, .int x_fr, .int x_to, .int x_va, .int x_fk, .int x_fp, .ref mfr, .ref mwt, .int x_wt, .int x_op, .int x_jo, .ref mfg, .ref mpl, .long x_dr, .ref mtm, .ref mfa, .ref mqu, .ref mmo, .ref mwy, .ref mwn, .ref mma, .ref mwi, .ref mnu, .ref mmv])), (mma, .inl (c_ma, 4, .inl f_64)), (mwi, .inl (c_wi, 4, .inl f_66)), (mnu, .inl (c_nu, 240, .inr (.inl f_74)))]) [0, 1, 2, 3] (by decide) rfl
            have hK9 := hK.sub (tys' := [(c_ma, .int), (c_wi, .int), (c_nu, .long)]) [0, 1, 2] rfl
            exact W.iret (v := 0) hx hb hr (fun t ht hW => ⟨⟨0, (), rfl, (rg_w (by decide : (0 : Int) ≤ (0 : Int32).toInt ∧ (0 : Int32).toInt ≤ 0) (by decide) (by decide)), f_64, f_66, f_74, ha_65, ha_67, (gr_set (show _ ∧ _ ∧ _ from ⟨⟨by omega, by omega⟩, ⟨by omega, by omega⟩, ⟨by omega, by omega⟩⟩) hgR9 ef_f_64 ef_f_66), by rw [ht]; exact hP9, va_K.moved hW.alike hK9, hD9⟩, hS.F ht⟩) hS.2.2 dX10_row_79
          ·
            have n_c_100 : (y_73.toInt : Int) < 60 := c_nge rfl (by decide) c_100
            have b_y_73 : (0 : Int) ≤ y_73.toInt ∧ y_73.toInt ≤ 59 := r_lt1 b_y_73 (by decide : (60 : Int) ≤ (60 : Int32).toInt ∧ (60 : Int32).toInt ≤ 60) n_c_100 (by decide)
            refine lv_aload_n hx hb dX10_row_59 rfl (lv_at hl 1 rfl) ?_
            refine va_get (D := (dC, dI)) (ci := 8) (v := .ref mnu) (C := RX10) (T := TX10) (N := 33) hx hb hts iX10_rowG_X10 hown hK hP 0 rfl rfl 31 (by decide) (hts (.fieldLink RX10 71 "LuckyTicketModel" "numbers" "[J") (List.mem_of_getElem? (i := 9) rfl)) (fun _ h9 => h9) rfl dX10_row_60 ?_
            refine lv_bipush (v := 60) hx hb dX10_row_63 (by decide) ?_
            refine lv_iload_n hx hb dX10_row_65 rfl (lv_at hl 2 rfl) ?_
            refine lv_imul hx hb dX10_row_66 ?_
            refine lv_topi (fun z_101 e_z_101 => ?_)
            obtain ⟨q_z_101, b_z_101⟩ := ti_mul (lo := 0) (hi := 180) e_z_101 (by decide : (60 : Int32).toInt = 60) rfl (by decide : (60 : Int) ≤ (60 : Int32).toInt ∧ (60 : Int32).toInt ≤ 60) b_a1 (by decide)
            refine lv_iload hx hb dX10_row_67 (lv_at hl 0 rfl) ?_
            refine lv_iadd hx hb dX10_row_69 ?_
            refine lv_topi (fun z_102 e_z_102 => ?_)
            obtain ⟨q_z_102, b_z_102⟩ := ti_add (lo := 0) (hi := 239) e_z_102 rfl rfl b_z_101 b_y_73 (by decide)
            refine lv_lconst (v := 0) hx hb dX10_row_70 (by decide) ?_
            refine va_last hx hb hK hP hD hS 3 2 rfl rfl (vp_in_b b_z_102 (by decide) (by decide)) dX10_row_71 (fun H locs hP hD hS => ?_)
            have hP : va_P (dC, dI) vwCl [(o0, .inr (8, [.int x_th, .ref mwo, .ref mim, .ref mhi, .ref mlu, .ref mtp, .int x_td, .ref mfv, .int x_sz, .int x_at, .int x_fr, .int x_to, .int x_va, .int x_fk, .int x_fp, .ref mfr, .ref mwt, .int x_wt, .int x_op, .int x_jo, .ref mfg, .ref mpl, .long x_dr, .ref mtm, .ref mfa, .ref mqu, .ref mmo, .ref mwy, .ref mwn, .ref mma, .ref mwi, .ref mnu, .ref mmv])), (mma, .inl (c_ma, 4, .inl f_64)), (mwi, .inl (c_wi, 4, .inl f_66)), (mnu, .inl (c_nu, 240, .inr (.inl (vp_updL f_74 (z_102 : Int32).toNatClampNeg 0))))] H := hP
            have hD : va_D A [(o0, .inr (8, [.int x_th, .ref mwo, .ref mim, .ref mhi, .ref mlu, .ref mtp, .int x_td, .ref mfv, .int x_sz, .int x_at, .int x_fr, .int x_to, .int x_va, .int x_fk, .int x_fp, .ref mfr, .ref mwt, .int x_wt, .int x_op, .int x_jo, .ref mfg, .ref mpl, .long x_dr, .ref mtm, .ref mfa, .ref mqu, .ref mmo, .ref mwy, .ref mwn, .ref mma, .ref mwi, .ref mnu, .ref mmv])), (mma, .inl (c_ma, 4, .inl f_64)), (mwi, .inl (c_wi, 4, .inl f_66)), (mnu, .inl (c_nu, 240, .inr (.inl (vp_updL f_74 (z_102 : Int32).toNatClampNeg 0))))] := hD
            generalize (vp_updL f_74 (z_102 : Int32).toNatClampNeg 0) = f_103 at hP hD
            have hP : va_P (dC, dI) vwCl [(o0, .inr (8, [.int x_th, .ref mwo, .ref mim, .ref mhi, .ref mlu, .ref mtp, .int x_td, .ref mfv, .int x_sz, .int x_at, .int x_fr, .int x_to, .int x_va, .int x_fk, .int x_fp, .ref mfr, .ref mwt, .int x_wt, .int x_op, .int x_jo, .ref mfg, .ref mpl, .long x_dr, .ref mtm, .ref mfa, .ref mqu, .ref mmo, .ref mwy, .ref mwn, .ref mma, .ref mwi, .ref mnu, .ref mmv])), (mma, .inl (c_ma, 4, .inl f_64)), (mwi, .inl (c_wi, 4, .inl f_66)), (mnu, .inl (c_nu, 240, .inr (.inl f_103)))] H := hP
            have hD : va_D A [(o0, .inr (8, [.int x_th, .ref mwo, .ref mim, .ref mhi, .ref mlu, .ref mtp, .int x_td, .ref mfv, .int x_sz, .int x_at, .int x_fr, .int x_to, .int x_va, .int x_fk, .int x_fp, .ref mfr, .ref mwt, .int x_wt, .int x_op, .int x_jo, .ref mfg, .ref mpl, .long x_dr, .ref mtm, .ref mfa, .ref mqu, .ref mmo, .ref mwy, .ref mwn, .ref mma, .ref mwi, .ref mnu, .ref mmv])), (mma, .inl (c_ma, 4, .inl f_64)), (mwi, .inl (c_wi, 4, .inl f_66)), (mnu, .inl (c_nu, 240, .inr (.inl f_103)))] := hD
            obtain ⟨z_104, e_z_104⟩ : ∃ y : Int32, y = y_73 + 1 := ⟨_, rfl⟩
            refine lv_iinc (v := z_104) (lv' := [(4, .int z_104), (0, .ref o0), (1, .int a1), (2, .int a2), (3, .int a3)]) hx hb dX10_row_72 hl (k := 0) rfl (by rw [e_z_104]; rfl) (by decide) rfl (fun ls hl => ?_)
            obtain ⟨q_z_104, b_z_104⟩ := ti_add (lo := 1) (hi := 60) e_z_104 rfl (by decide : (1 : Int32).toInt = 1) b_y_73 (by decide : (1 : Int) ≤ (1 : Int32).toInt ∧ (1 : Int32).toInt ≤ 1) (by decide)
            refine lv_goto (tgt := 52) hx hb dX10_row_75 (by decide) ?_
            exact ih_52_99 (z_104, f_103) _ _ _ ⟨(show (0 : Int) ≤ z_104.toInt ∧ z_104.toInt ≤ 60 from (rg_w b_z_104 (by decide) (by decide))), hP, hD, hS, lv_sub hl [0, 1, 2, 3, 4] rfl⟩ (show (60 - z_104.toInt).toNat < (60 - y_73.toInt).toNat by omega)
        ·
          have n_c_63 : (a3.toInt : Int) < 0 := c_nge rfl (by decide) c_63
          have b_a3 : (-2147483648 : Int) ≤ a3.toInt ∧ a3.toInt ≤ -1 := r_lt1 b_a3 (by decide : (0 : Int) ≤ (0 : Int32).toInt ∧ (0 : Int32).toInt ≤ 0) n_c_63 (by decide)
          refine lv_bipush (v := (-3)) hx hb dX10_row_32 (by decide) ?_
          have hP9 := hP.sub (ws' := [(o0, .inr (8, [.int x_th, .ref mwo, .ref mim, .ref mhi, .ref mlu, .ref mtp, .int x_td, .ref mfv, .int x_sz, .int x_at, .int x_fr, .int x_to, .int x_va, .int x_fk, .int x_fp, .ref mfr, .ref mwt, .int x_wt, .int x_op, .int x_jo, .ref mfg, .ref mpl, .long x_dr, .ref mtm, .ref mfa, .ref mqu, .ref mmo, .ref mwy, .ref mwn, .ref mma, .ref mwi, .ref mnu, .ref mmv])), (mma, .inl (c_ma, 4, .inl w_ma)), (mwi, .inl (c_wi, 4, .inl w_wi)), (mnu, .inl (c_nu, 240, .inr (.inl w_nu)))]) [0, 1, 2, 3] rfl
          have hD9 := hD.sub (ws' := [(o0, .inr (8, [.int x_th, .ref mwo, .ref mim, .ref mhi, .ref mlu, .ref mtp, .int x_td, .ref mfv, .int x_sz, .int x_at, .int x_fr, .int x_to, .int x_va, .int x_fk, .int x_fp, .ref mfr, .ref mwt, .int x_wt, .int x_op, .int x_jo, .ref mfg, .ref mpl, .long x_dr, .ref mtm, .ref mfa, .ref mqu, .ref mmo, .ref mwy, .ref mwn, .ref mma, .ref mwi, .ref mnu, .ref mmv])), (mma, .inl (c_ma, 4, .inl w_ma)), (mwi, .inl (c_wi, 4, .inl w_wi)), (mnu, .inl (c_nu, 240, .inr (.inl w_nu)))]) [0, 1, 2, 3] (by decide) rfl
          have hK9 := hK.sub (tys' := [(c_ma, .int), (c_wi, .int), (c_nu, .long)]) [0, 1, 2] rfl
          exact W.iret (v := (-3)) hx hb hr (fun t ht hW => ⟨⟨(-3), (), rfl, (rg_w (by decide : (-3 : Int) ≤ ((-3) : Int32).toInt ∧ ((-3) : Int32).toInt ≤ -3) (by decide) (by decide)), w_ma, w_wi, w_nu, ha_mma, ha_mwi, (gr_no (by omega) hgR9), by rw [ht]; exact hP9, va_K.moved hW.alike hK9, hD9⟩, hS.F ht⟩) hS.2.2 dX10_row_34
      ·
        have n_c_62 : (60 : Int) < a3.toInt := c_nle rfl (by decide) c_62
        have b_a3 : (61 : Int) ≤ a3.toInt ∧ a3.toInt ≤ 2147483647 := r_lt2 (by decide : (60 : Int) ≤ (60 : Int32).toInt ∧ (60 : Int32).toInt ≤ 60) (ti_rng a3) n_c_62 (by decide)
        refine lv_bipush (v := (-2)) hx hb dX10_row_25 (by decide) ?_
        have hP9 := hP.sub (ws' := [(o0, .inr (8, [.int x_th, .ref mwo, .ref mim, .ref mhi, .ref mlu, .ref mtp, .int x_td, .ref mfv, .int x_sz, .int x_at, .int x_fr, .int x_to, .int x_va, .int x_fk, .int x_fp, .ref mfr, .ref mwt, .int x_wt, .int x_op, .int x_jo, .ref mfg, .ref mpl, .long x_dr, .ref mtm, .ref mfa, .ref mqu, .ref mmo, .ref mwy, .ref mwn, .ref mma, .ref mwi, .ref mnu, .ref mmv])), (mma, .inl (c_ma, 4, .inl w_ma)), (mwi, .inl (c_wi, 4, .inl w_wi)), (mnu, .inl (c_nu, 240, .inr (.inl w_nu)))]) [0, 1, 2, 3] rfl
        have hD9 := hD.sub (ws' := [(o0, .inr (8, [.int x_th, .ref mwo, .ref mim, .ref mhi, .ref mlu, .ref mtp, .int x_td, .ref mfv, .int x_sz, .int x_at, .int x_fr, .int x_to, .int x_va, .int x_fk, .int x_fp, .ref mfr, .ref mwt, .int x_wt, .int x_op, .int x_jo, .ref mfg, .ref mpl, .long x_dr, .ref mtm, .ref mfa, .ref mqu, .ref mmo, .ref mwy, .ref mwn, .ref mma, .ref mwi, .ref mnu, .ref mmv])), (mma, .inl (c_ma, 4, .inl w_ma)), (mwi, .inl (c_wi, 4, .inl w_wi)), (mnu, .inl (c_nu, 240, .inr (.inl w_nu)))]) [0, 1, 2, 3] (by decide) rfl
        have hK9 := hK.sub (tys' := [(c_ma, .int), (c_wi, .int), (c_nu, .long)]) [0, 1, 2] rfl
        exact W.iret (v := (-2)) hx hb hr (fun t ht hW => ⟨⟨(-2), (), rfl, (rg_w (by decide : (-2 : Int) ≤ ((-2) : Int32).toInt ∧ ((-2) : Int32).toInt ≤ -2) (by decide) (by decide)), w_ma, w_wi, w_nu, ha_mma, ha_mwi, (gr_no (by omega) hgR9), by rw [ht]; exact hP9, va_K.moved hW.alike hK9, hD9⟩, hS.F ht⟩) hS.2.2 dX10_row_27
def uX9_writeF : List Cond := List.cons (.code yX9_write cX9_write 6 (some .int)) (HAppend.hAppend ([.methodLink RX9 206 yX9_hasSlot, .instanceMethod yX9_hasSlot, .selects RX9 yX9_hasSlot yX9_hasSlot, .initialized RX9, .fieldLink RX9 50 "LuckyTicket" "slots" "[LLuckyTicket$Row;", .methodLink RX9 270 yX3_stands, .instanceMethod yX3_stands, .selects RX3 yX3_stands yX3_stands, .initialized RX3, .methodLink RX9 343 yX3_hasStretch, .instanceMethod yX3_hasStretch, .selects RX3 yX3_hasStretch yX3_hasStretch, .methodLink RX9 346 yX3_put, .instanceMethod yX3_put, .selects RX3 yX3_put yX3_put] : List Cond) (HAppend.hAppend uX9_hasSlot2 (HAppend.hAppend uX3_stands2 (HAppend.hAppend uX3_hasStretch2 (HAppend.hAppend uX3_put wsX90)))))
theorem iX9_writeF_X9 : ∀ w ∈ wsX90, w ∈ uX9_writeF := fun _ h => (List.mem_cons_of_mem _ (List.mem_append_right _ (List.mem_append_right _ (List.mem_append_right _ (List.mem_append_right _ (List.mem_append_right _ h))))))
theorem guX9_writeF : GU uX9_writeF := gu_cons (gu_app (by decide +kernel) (gu_ap guX9_hasSlot2 (gu_ap guX3_stands2 (gu_ap guX3_hasStretch2 (gu_ap guX3_put gws_X9)))))
theorem gX9_writeF__X9_hasSlot2_V206 : GoodIn uX9_writeF (wsV RX9 206 RX9 yX9_hasSlot uX9_hasSlot2) := gin_V (List.mem_of_getElem? (i := 1) rfl) (List.mem_of_getElem? (i := 2) rfl) (List.mem_of_getElem? (i := 3) rfl) (List.mem_of_getElem? (i := 4) rfl) (fun _ h => (List.mem_cons_of_mem _ (List.mem_append_right _ (List.mem_append_left _ h)))) guX9_hasSlot2
theorem gX9_writeF__X3_stands2_V270 : GoodIn uX9_writeF (wsV RX9 270 RX3 yX3_stands uX3_stands2) := gin_V (List.mem_of_getElem? (i := 6) rfl) (List.mem_of_getElem? (i := 7) rfl) (List.mem_of_getElem? (i := 8) rfl) (List.mem_of_getElem? (i := 9) rfl) (fun _ h => (List.mem_cons_of_mem _ (List.mem_append_right _ (List.mem_append_right _ (List.mem_append_left _ h))))) guX3_stands2
theorem gX9_writeF__X3_hasStretch2_V343 : GoodIn uX9_writeF (wsV RX9 343 RX3 yX3_hasStretch uX3_hasStretch2) := gin_V (List.mem_of_getElem? (i := 10) rfl) (List.mem_of_getElem? (i := 11) rfl) (List.mem_of_getElem? (i := 12) rfl) (List.mem_of_getElem? (i := 9) rfl) (fun _ h => (List.mem_cons_of_mem _ (List.mem_append_right _ (List.mem_append_right _ (List.mem_append_right _ (List.mem_append_left _ h)))))) guX3_hasStretch2
theorem gX9_writeF__X3_put_V346 : GoodIn uX9_writeF (wsV RX9 346 RX3 yX3_put uX3_put) := gin_V (List.mem_of_getElem? (i := 13) rfl) (List.mem_of_getElem? (i := 14) rfl) (List.mem_of_getElem? (i := 15) rfl) (List.mem_of_getElem? (i := 9) rfl) (fun _ h => (List.mem_cons_of_mem _ (List.mem_append_right _ (List.mem_append_right _ (List.mem_append_right _ (List.mem_append_right _ (List.mem_append_left _ h))))))) guX3_put
set_option maxHeartbeats 4000000 in
set_option maxRecDepth 100000 in
theorem kX9_writeF (l : Launch) (dC : Nat → ClassId) (dI : Nat → Nat → Nat) (h0 : Nat) (tp : Nat) (sc : Nat) (rd : Nat) (cu : Nat) (im : Nat) (ig : Nat) (sl : Nat) (se : Nat) (sm : Nat) (fc : Nat) (cS : ClassId) (s0 : Nat) (s1 : Nat) (s2 : Nat) (s3 : Nat) (n0 : Nat) (n1 : Nat) (n2 : Nat) (n3 : Nat) (wd0 : Int32) (wd1 : Int32) (wd2 : Int32) (wd3 : Int32) (rz0 : Int32) (rz1 : Int32) (rz2 : Int32) (rz3 : Int32) (cJ0 : ClassId) (cJ1 : ClassId) (cJ2 : ClassId) (cJ3 : ClassId) (g0 : Nat → Int64) (g1 : Nat → Int64) (g2 : Nat → Int64) (g3 : Nat → Int64) (gh : Nat → Int32) (a1 : Int32) (a2 : Int32) (a3 : Int64) (sz : Nat) (b_wd0 : (-1 : Int) ≤ wd0.toInt ∧ wd0.toInt ≤ 3) (b_wd1 : (-1 : Int) ≤ wd1.toInt ∧ wd1.toInt ≤ 3) (b_wd2 : (-1 : Int) ≤ wd2.toInt ∧ wd2.toInt ≤ 3) (b_wd3 : (-1 : Int) ≤ wd3.toInt ∧ wd3.toInt ≤ 3) (b_rz0 : (0 : Int) ≤ rz0.toInt ∧ rz0.toInt ≤ 60) (b_rz1 : (0 : Int) ≤ rz1.toInt ∧ rz1.toInt ≤ 60) (b_rz2 : (0 : Int) ≤ rz2.toInt ∧ rz2.toInt ≤ 60) (b_rz3 : (0 : Int) ≤ rz3.toInt ∧ rz3.toInt ≤ 60) (hg9_0 : RG gh 0 wd0 rz0) (hg9_1 : RG gh 1 wd1 rz1) (hg9_2 : RG gh 2 wd2 rz2) (hg9_3 : RG gh 3 wd3 rz3) : Met l yX9_write uX9_writeF ({ frames := 2, cells := 0, slots := 0, locals := 45 }) (va_Pc [.ref h0, .int a1, .int a2, .long a3] (hw (dC, dI) vwCl [(h0, .inr (7, [.ref tp, .ref sc, .ref rd, .ref cu, .ref im, .ref ig, .ref sl, .ref se, .ref sm, .ref fc])), (sl, .inl (cS, 4, .inr (.inr (.inr (.inr (sf4 s0 s1 s2 s3)))))), (s0, .inr (2, [.int wd0, .int rz0, .ref n0])), (s1, .inr (2, [.int wd1, .int rz1, .ref n1])), (s2, .inr (2, [.int wd2, .int rz2, .ref n2])), (s3, .inr (2, [.int wd3, .int rz3, .ref n3])), (n0, .inl (cJ0, 60, .inr (.inl g0))), (n1, .inl (cJ1, 60, .inr (.inl g1))), (n2, .inl (cJ2, 60, .inr (.inl g2))), (n3, .inl (cJ3, 60, .inr (.inl g3)))] [(cS, .object RX3), (cJ0, .long), (cJ1, .long), (cJ2, .long), (cJ3, .long)] sz)) (va_Qi (fun (r : Int32) (_ : Unit) => ((-7 : Int) ≤ r.toInt ∧ r.toInt ≤ 0) ∧ (r = wrA gh a1 a2)) (fun (_ : Unit) t => ∃ (o0_ : Nat → Int64) (o1_ : Nat → Int64) (o2_ : Nat → Int64) (o3_ : Nat → Int64), va_P (dC, dI) vwCl [(h0, .inr (7, [.ref tp, .ref sc, .ref rd, .ref cu, .ref im, .ref ig, .ref sl, .ref se, .ref sm, .ref fc])), (sl, .inl (cS, 4, .inr (.inr (.inr (.inr (sf4 s0 s1 s2 s3)))))), (s0, .inr (2, [.int wd0, .int rz0, .ref n0])), (s1, .inr (2, [.int wd1, .int rz1, .ref n1])), (s2, .inr (2, [.int wd2, .int rz2, .ref n2])), (s3, .inr (2, [.int wd3, .int rz3, .ref n3])), (n0, .inl (cJ0, 60, .inr (.inl o0_))), (n1, .inl (cJ1, 60, .inr (.inl o1_))), (n2, .inl (cJ2, 60, .inr (.inl o2_))), (n3, .inl (cJ3, 60, .inr (.inl o3_)))] t.heap ∧ va_K (dC, dI) vwCl [(cS, .object RX3), (cJ0, .long), (cJ1, .long), (cJ2, .long), (cJ3, .long)] t ∧ va_D (va_A [(h0, .inr (7, [.ref tp, .ref sc, .ref rd, .ref cu, .ref im, .ref ig, .ref sl, .ref se, .ref sm, .ref fc])), (sl, .inl (cS, 4, .inr (.inr (.inr (.inr (sf4 s0 s1 s2 s3)))))), (s0, .inr (2, [.int wd0, .int rz0, .ref n0])), (s1, .inr (2, [.int wd1, .int rz1, .ref n1])), (s2, .inr (2, [.int wd2, .int rz2, .ref n2])), (s3, .inr (2, [.int wd3, .int rz3, .ref n3])), (n0, .inl (cJ0, 60, .inr (.inl g0))), (n1, .inl (cJ1, 60, .inr (.inl g1))), (n2, .inl (cJ2, 60, .inr (.inl g2))), (n3, .inl (cJ3, 60, .inr (.inl g3)))] sz) [(h0, .inr (7, [.ref tp, .ref sc, .ref rd, .ref cu, .ref im, .ref ig, .ref sl, .ref se, .ref sm, .ref fc])), (sl, .inl (cS, 4, .inr (.inr (.inr (.inr (sf4 s0 s1 s2 s3)))))), (s0, .inr (2, [.int wd0, .int rz0, .ref n0])), (s1, .inr (2, [.int wd1, .int rz1, .ref n1])), (s2, .inr (2, [.int wd2, .int rz2, .ref n2])), (s3, .inr (2, [.int wd3, .int rz3, .ref n3])), (n0, .inl (cJ0, 60, .inr (.inl o0_))), (n1, .inl (cJ1, 60, .inr (.inl o1_))), (n2, .inl (cJ2, 60, .inr (.inl o2_))), (n3, .inl (cJ3, 60, .inr (.inl o3_)))]) (va_A [(h0, .inr (7, [.ref tp, .ref sc, .ref rd, .ref cu, .ref im, .ref ig, .ref sl, .ref se, .ref sm, .ref fc])), (sl, .inl (cS, 4, .inr (.inr (.inr (.inr (sf4 s0 s1 s2 s3)))))), (s0, .inr (2, [.int wd0, .int rz0, .ref n0])), (s1, .inr (2, [.int wd1, .int rz1, .ref n1])), (s2, .inr (2, [.int wd2, .int rz2, .ref n2])), (s3, .inr (2, [.int wd3, .int rz3, .ref n3])), (n0, .inl (cJ0, 60, .inr (.inl g0))), (n1, .inl (cJ1, 60, .inr (.inl g1))), (n2, .inl (cJ2, 60, .inr (.inl g2))), (n3, .inl (cJ3, 60, .inr (.inl g3)))] sz)) 0 0 (va_A [(h0, .inr (7, [.ref tp, .ref sc, .ref rd, .ref cu, .ref im, .ref ig, .ref sl, .ref se, .ref sm, .ref fc])), (sl, .inl (cS, 4, .inr (.inr (.inr (.inr (sf4 s0 s1 s2 s3)))))), (s0, .inr (2, [.int wd0, .int rz0, .ref n0])), (s1, .inr (2, [.int wd1, .int rz1, .ref n1])), (s2, .inr (2, [.int wd2, .int rz2, .ref n2])), (s3, .inr (2, [.int wd3, .int rz3, .ref n3])), (n0, .inl (cJ0, 60, .inr (.inl g0))), (n1, .inl (cJ1, 60, .inr (.inl g1))), (n2, .inl (cJ2, 60, .inr (.inl g2))), (n3, .inl (cJ3, 60, .inr (.inl g3)))] sz) := by
  refine Met.ofW (cc := cX9_write) (maxL := 6) (ret := (some .int)) pn_X9 rfl ?_
  intro p e s m args below meth c s₁ B hml hv
  obtain ⟨rfl, hsz, hP, hK, hD0, hN⟩ := hv
  have hx := B.exec
  have hb := B.bytes
  have hr := B.returns
  have hts := atoms_spec (ws := uX9_writeF) B.pre
  have hown : s.vm.findClass RX9 = some m.cls := hown_of B.named rfl
  have hlocks := B.notSynchronized
  subst hsz
  have hD := hD0.self (sz := s.heap.size)
  generalize hAe : va_A [(h0, .inr (7, [.ref tp, .ref sc, .ref rd, .ref cu, .ref im, .ref ig, .ref sl, .ref se, .ref sm, .ref fc])), (sl, .inl (cS, 4, .inr (.inr (.inr (.inr (sf4 s0 s1 s2 s3)))))), (s0, .inr (2, [.int wd0, .int rz0, .ref n0])), (s1, .inr (2, [.int wd1, .int rz1, .ref n1])), (s2, .inr (2, [.int wd2, .int rz2, .ref n2])), (s3, .inr (2, [.int wd3, .int rz3, .ref n3])), (n0, .inl (cJ0, 60, .inr (.inl g0))), (n1, .inl (cJ1, 60, .inr (.inl g1))), (n2, .inl (cJ2, 60, .inr (.inl g2))), (n3, .inl (cJ3, 60, .inr (.inl g3)))] s.heap.size = A at hD ⊢
  have hA : ∀ q : Nat, s.heap.size ≤ q → A q := fun q h => by rw [← hAe]; exact Or.inr h
  have hS : va_S A s.heap s.heap [] := va_S.rf
  have hP : va_P (dC, dI) vwCl [(h0, .inr (7, [.ref tp, .ref sc, .ref rd, .ref cu, .ref im, .ref ig, .ref sl, .ref se, .ref sm, .ref fc])), (sl, .inl (cS, 4, .inr (.inr (.inr (.inr (sf4 s0 s1 s2 s3)))))), (s0, .inr (2, [.int wd0, .int rz0, .ref n0])), (s1, .inr (2, [.int wd1, .int rz1, .ref n1])), (s2, .inr (2, [.int wd2, .int rz2, .ref n2])), (s3, .inr (2, [.int wd3, .int rz3, .ref n3])), (n0, .inl (cJ0, 60, .inr (.inl g0))), (n1, .inl (cJ1, 60, .inr (.inl g1))), (n2, .inl (cJ2, 60, .inr (.inl g2))), (n3, .inl (cJ3, 60, .inr (.inl g3)))] s.heap := hP
  have hl := lv_entry ([.ref h0, .int a1, .int a2, .long a3]) (n := 6) (Nat.le_of_ble_eq_true rfl)
  rw [lg_entry_eq]
  generalize (lg_sl ([.ref h0, .int a1, .int a2, .long a3]) ++ List.replicate (6 - (lg_sl ([.ref h0, .int a1, .int a2, .long a3])).length) Slot.unset).toArray = ls at hl ⊢
  have hl : lv_has ls 6 [(0, .ref h0), (1, .int a1), (2, .int a2), (3, .long a3)] := hl
  refine lv_aload_n hx hb dX9_write_0 rfl (lv_at hl 0 rfl) ?_
  refine lv_iload_n hx hb dX9_write_1 rfl (lv_at hl 1 rfl) ?_
  refine vp_callSi (W.runV (As := [.int a1]) (rest := []) ⟨hx, hb, hml, hown, hts⟩ (kX9_hasSlot2 l dC dI h0 tp sc rd cu im ig sl se sm fc cS s0 s1 s2 s3 a1 ) (cwV 1 hts gX9_writeF__X9_hasSlot2_V206 rfl rfl rfl hd_yX9_hasSlot ⟨lel 2 2 rfl, lel 43 45 rfl⟩) ⟨pw_fb, rcv_X9 hK hP (q0 := 0) rfl, (pw_use hP hK hN [0, 1] rfl [0] rfl)⟩ rfl rfl hl.1 rfl (lv_room (Nat.le_of_ble_eq_true rfl)) dX9_write_2 ⟨lel 0 0 rfl, lel 0 0 rfl⟩) (fun r_50 h_r_50 => ?_)
  obtain ⟨b_r_50, nz_r_50, zz_r_50⟩ := h_r_50
  have b_r_50 : (0 : Int) ≤ r_50.toInt ∧ r_50.toInt ≤ 1 := b_r_50
  refine lv_if_ne (tgt := 11) hx hb dX9_write_5 (by decide) (fun c_51 => ?_) (fun c_51 => ?_)
  ·
    have n_c_51 : (r_50.toInt : Int) ≠ 0 := c_ne rfl (by decide) c_51
    have b_r_50 : (1 : Int) ≤ r_50.toInt ∧ r_50.toInt ≤ 1 := r_ne1 b_r_50 (by decide : (0 : Int) ≤ (0 : Int32).toInt ∧ (0 : Int32).toInt ≤ 0) n_c_51 (by decide)
    obtain ⟨b_a1, g_52⟩ := nz_r_50 c_51
    refine lv_aload_n hx hb dX9_write_11 rfl (lv_at hl 0 rfl) ?_
    refine va_get (D := (dC, dI)) (ci := 7) (v := .ref sl) (C := RX9) (T := TX9) (N := 10) hx hb hts iX9_writeF_X9 hown hK hP 0 rfl rfl 6 (by decide) (hts (.fieldLink RX9 50 "LuckyTicket" "slots" "[LLuckyTicket$Row;") (List.mem_of_getElem? (i := 5) rfl)) (fun _ h9 => h9) rfl dX9_write_12 ?_
    refine lv_iload_n hx hb dX9_write_15 rfl (lv_at hl 1 rfl) ?_
    rcases (show a1.toInt = 0 ∨ a1.toInt = 1 ∨ a1.toInt = 2 ∨ a1.toInt = 3 by omega) with h_53 | h_53 | h_53 | h_53
    ·
      obtain rfl : a1 = 0 := Int32.toInt_inj.mp (h_53.trans (by decide))
      refine va_aldq hx hb hK hP 1 0 rfl rfl (vp_in_b (by decide : (0 : Int) ≤ (0 : Int32).toInt ∧ (0 : Int32).toInt ≤ 0) (by decide) (by decide)) dX9_write_16 ?_
      refine W.eq (g2 := F0 m 17 ls (.ref s0 :: [])) (congrArg (fun v => F0 m 17 ls (va_rf v :: [])) (sf4_0 s0 s1 s2 s3)) ?_
      refine lv_astore (lv' := [(5, .ref s0), (0, .ref h0), (1, .int 0), (2, .int a2), (3, .long a3)]) hx hb dX9_write_17 hl (by decide) rfl (fun ls hl => ?_)
      refine lv_aload hx hb dX9_write_19 (lv_at hl 0 rfl) ?_
      refine vp_callSi (W.runV (As := []) (rest := []) ⟨hx, hb, hml, hown, hts⟩ (kX3_stands2 l dC dI s0 wd0 rz0 n0 b_wd0 b_rz0) (cwV 0 hts gX9_writeF__X3_stands2_V270 rfl rfl rfl hd_yX3_stands ⟨lel 1 2 rfl, lel 20 45 rfl⟩) ⟨pw_fb, rcv_X3 hK hP (q0 := 2) rfl, (pw_use hP hK hN [2] rfl [] rfl)⟩ rfl rfl hl.1 rfl (lv_room (Nat.le_of_ble_eq_true rfl)) dX9_write_21 ⟨lel 0 0 rfl, lel 0 0 rfl⟩) (fun r_54 h_r_54 => ?_)
      obtain ⟨b_r_54, nz_r_54, zz_r_54⟩ := h_r_54
      have b_r_54 : (0 : Int) ≤ r_54.toInt ∧ r_54.toInt ≤ 1 := b_r_54
      refine lv_if_ne (tgt := 30) hx hb dX9_write_24 (by decide) (fun c_55 => ?_) (fun c_55 => ?_)
      ·
        have n_c_55 : (r_54.toInt : Int) ≠ 0 := c_ne rfl (by decide) c_55
        have b_r_54 : (1 : Int) ≤ r_54.toInt ∧ r_54.toInt ≤ 1 := r_ne1 b_r_54 (by decide : (0 : Int) ≤ (0 : Int32).toInt ∧ (0 : Int32).toInt ≤ 0) n_c_55 (by decide)
        obtain ⟨b_wd0, g_56⟩ := nz_r_54 c_55
        refine lv_aload hx hb dX9_write_30 (lv_at hl 0 rfl) ?_
        refine lv_iload_n hx hb dX9_write_32 rfl (lv_at hl 3 rfl) ?_
        refine lv_iconst (v := 1) hx hb dX9_write_33 (by decide) ?_
        refine vp_callSi (W.runV (As := [.int a2, .int 1]) (rest := []) ⟨hx, hb, hml, hown, hts⟩ (kX3_hasStretch2 l dC dI s0 wd0 rz0 n0 a2 1 (rg_w b_wd0 (by decide) (by decide)) b_rz0) (cwV 2 hts gX9_writeF__X3_hasStretch2_V343 rfl rfl rfl hd_yX3_hasStretch ⟨lel 1 2 rfl, lel 22 45 rfl⟩) ⟨pw_fb, rcv_X3 hK hP (q0 := 2) rfl, (pw_use hP hK hN [2] rfl [] rfl)⟩ rfl rfl hl.1 rfl (lv_room (Nat.le_of_ble_eq_true rfl)) dX9_write_34 ⟨lel 0 0 rfl, lel 0 0 rfl⟩) (fun r_57 h_r_57 => ?_)
        obtain ⟨b_r_57, nz_r_57, zz_r_57⟩ := h_r_57
        have b_r_57 : (0 : Int) ≤ r_57.toInt ∧ r_57.toInt ≤ 1 := b_r_57
        refine lv_if_ne (tgt := 43) hx hb dX9_write_37 (by decide) (fun c_58 => ?_) (fun c_58 => ?_)
        ·
          have n_c_58 : (r_57.toInt : Int) ≠ 0 := c_ne rfl (by decide) c_58
          have b_r_57 : (1 : Int) ≤ r_57.toInt ∧ r_57.toInt ≤ 1 := r_ne1 b_r_57 (by decide : (0 : Int) ≤ (0 : Int32).toInt ∧ (0 : Int32).toInt ≤ 0) n_c_58 (by decide)
          obtain ⟨b_a2, _, g_59⟩ := nz_r_57 c_58
          have lt0_g_59 := (by decide : (1 : Int32).toInt = 1)
          refine lv_aload hx hb dX9_write_43 (lv_at hl 0 rfl) ?_
          refine lv_iload_n hx hb dX9_write_45 rfl (lv_at hl 3 rfl) ?_
          refine lv_lload_n hx hb dX9_write_46 rfl (lv_at hl 4 rfl) ?_
          have hFc := va_free (wc := [(s0, .inr (2, [.int wd0, .int rz0, .ref n0])), (n0, .inl (cJ0, 60, .inr (.inl g0)))]) hD hS hA [2, 6] rfl
          refine va_callv (va_runV (As := [.int a2, .long a3]) (rest := []) ⟨hx, hb, hml, hown, hts⟩ (kX3_put l dC dI s0 wd0 rz0 n0 cJ0 g0 a2 a3 (s.heap.size) (rg_w b_wd0 (by decide) (by decide)) b_rz0) (cwV 2 hts gX9_writeF__X3_put_V346 rfl rfl rfl hd_yX3_put ⟨lel 2 2 rfl, lel 45 45 rfl⟩) ⟨hw_fb, rcv_X3 hK hP (q0 := 2) rfl, (hw_use hP hD hK hN [2, 6] rfl (by decide) rfl [1] rfl)⟩ rfl rfl hl.1 rfl (lv_room (Nat.le_of_ble_eq_true rfl)) dX9_write_47 ⟨lel 0 0 rfl, lel 0 0 rfl⟩) hS (fun q _ h => hFc q h) hFc (fun u_61 t H1 locs ht hvm hw_r_60 hB hz1 hk1 hS => ?_)
          obtain ⟨o0_62, hP1, hK1, hD1⟩ := hB
          rw [ht] at hP1
          have hK1 := va_K.moved hvm.symm hK1
          obtain ⟨hP, hD⟩ := va_join (wr := [(h0, .inr (7, [.ref tp, .ref sc, .ref rd, .ref cu, .ref im, .ref ig, .ref sl, .ref se, .ref sm, .ref fc])), (sl, .inl (cS, 4, .inr (.inr (.inr (.inr (sf4 s0 s1 s2 s3)))))), (s1, .inr (2, [.int wd1, .int rz1, .ref n1])), (s2, .inr (2, [.int wd2, .int rz2, .ref n2])), (s3, .inr (2, [.int wd3, .int rz3, .ref n3])), (n1, .inl (cJ1, 60, .inr (.inl g1))), (n2, .inl (cJ2, 60, .inr (.inl g2))), (n3, .inl (cJ3, 60, .inr (.inl g3)))]) (w1 := [(s0, .inr (2, [.int wd0, .int rz0, .ref n0])), (n0, .inl (cJ0, 60, .inr (.inl o0_62)))]) hP hD [2, 6] [0, 1, 3, 4, 5, 7, 8, 9] rfl rfl (by decide) (by decide) hk1 hFc hP1 hD1
          have hK := (hK.sub (tys' := [(cS, .object RX3), (cJ1, .long), (cJ2, .long), (cJ3, .long)]) [0, 2, 3, 4] rfl).app hK1
          generalize H1 = H at hP hS ⊢
          have hP := hP.sub (ws' := [(h0, .inr (7, [.ref tp, .ref sc, .ref rd, .ref cu, .ref im, .ref ig, .ref sl, .ref se, .ref sm, .ref fc])), (sl, .inl (cS, 4, .inr (.inr (.inr (.inr (sf4 s0 s1 s2 s3)))))), (s0, .inr (2, [.int wd0, .int rz0, .ref n0])), (s1, .inr (2, [.int wd1, .int rz1, .ref n1])), (s2, .inr (2, [.int wd2, .int rz2, .ref n2])), (s3, .inr (2, [.int wd3, .int rz3, .ref n3])), (n0, .inl (cJ0, 60, .inr (.inl o0_62))), (n1, .inl (cJ1, 60, .inr (.inl g1))), (n2, .inl (cJ2, 60, .inr (.inl g2))), (n3, .inl (cJ3, 60, .inr (.inl g3)))]) [0, 1, 8, 2, 3, 4, 9, 5, 6, 7] rfl
          have hD := hD.sub (ws' := [(h0, .inr (7, [.ref tp, .ref sc, .ref rd, .ref cu, .ref im, .ref ig, .ref sl, .ref se, .ref sm, .ref fc])), (sl, .inl (cS, 4, .inr (.inr (.inr (.inr (sf4 s0 s1 s2 s3)))))), (s0, .inr (2, [.int wd0, .int rz0, .ref n0])), (s1, .inr (2, [.int wd1, .int rz1, .ref n1])), (s2, .inr (2, [.int wd2, .int rz2, .ref n2])), (s3, .inr (2, [.int wd3, .int rz3, .ref n3])), (n0, .inl (cJ0, 60, .inr (.inl o0_62))), (n1, .inl (cJ1, 60, .inr (.inl g1))), (n2, .inl (cJ2, 60, .inr (.inl g2))), (n3, .inl (cJ3, 60, .inr (.inl g3)))]) [0, 1, 8, 2, 3, 4, 9, 5, 6, 7] (by decide) rfl
          have hK := hK.sub (tys' := [(cS, .object RX3), (cJ0, .long), (cJ1, .long), (cJ2, .long), (cJ3, .long)]) [0, 4, 1, 2, 3] rfl
          have hP : va_P (dC, dI) vwCl [(h0, .inr (7, [.ref tp, .ref sc, .ref rd, .ref cu, .ref im, .ref ig, .ref sl, .ref se, .ref sm, .ref fc])), (sl, .inl (cS, 4, .inr (.inr (.inr (.inr (sf4 s0 s1 s2 s3)))))), (s0, .inr (2, [.int wd0, .int rz0, .ref n0])), (s1, .inr (2, [.int wd1, .int rz1, .ref n1])), (s2, .inr (2, [.int wd2, .int rz2, .ref n2])), (s3, .inr (2, [.int wd3, .int rz3, .ref n3])), (n0, .inl (cJ0, 60, .inr (.inl o0_62))), (n1, .inl (cJ1, 60, .inr (.inl g1))), (n2, .inl (cJ2, 60, .inr (.inl g2))), (n3, .inl (cJ3, 60, .inr (.inl g3)))] H := hP
          have hD : va_D A [(h0, .inr (7, [.ref tp, .ref sc, .ref rd, .ref cu, .ref im, .ref ig, .ref sl, .ref se, .ref sm, .ref fc])), (sl, .inl (cS, 4, .inr (.inr (.inr (.inr (sf4 s0 s1 s2 s3)))))), (s0, .inr (2, [.int wd0, .int rz0, .ref n0])), (s1, .inr (2, [.int wd1, .int rz1, .ref n1])), (s2, .inr (2, [.int wd2, .int rz2, .ref n2])), (s3, .inr (2, [.int wd3, .int rz3, .ref n3])), (n0, .inl (cJ0, 60, .inr (.inl o0_62))), (n1, .inl (cJ1, 60, .inr (.inl g1))), (n2, .inl (cJ2, 60, .inr (.inl g2))), (n3, .inl (cJ3, 60, .inr (.inl g3)))] := hD
          have hK : va_K (dC, dI) vwCl [(cS, .object RX3), (cJ0, .long), (cJ1, .long), (cJ2, .long), (cJ3, .long)] s := hK
          refine lv_iconst (v := 0) hx hb dX9_write_50 (by decide) ?_
          have hP9 := hP.sub (ws' := [(h0, .inr (7, [.ref tp, .ref sc, .ref rd, .ref cu, .ref im, .ref ig, .ref sl, .ref se, .ref sm, .ref fc])), (sl, .inl (cS, 4, .inr (.inr (.inr (.inr (sf4 s0 s1 s2 s3)))))), (s0, .inr (2, [.int wd0, .int rz0, .ref n0])), (s1, .inr (2, [.int wd1, .int rz1, .ref n1])), (s2, .inr (2, [.int wd2, .int rz2, .ref n2])), (s3, .inr (2, [.int wd3, .int rz3, .ref n3])), (n0, .inl (cJ0, 60, .inr (.inl o0_62))), (n1, .inl (cJ1, 60, .inr (.inl g1))), (n2, .inl (cJ2, 60, .inr (.inl g2))), (n3, .inl (cJ3, 60, .inr (.inl g3)))]) [0, 1, 2, 3, 4, 5, 6, 7, 8, 9] rfl
          have hD9 := hD.sub (ws' := [(h0, .inr (7, [.ref tp, .ref sc, .ref rd, .ref cu, .ref im, .ref ig, .ref sl, .ref se, .ref sm, .ref fc])), (sl, .inl (cS, 4, .inr (.inr (.inr (.inr (sf4 s0 s1 s2 s3)))))), (s0, .inr (2, [.int wd0, .int rz0, .ref n0])), (s1, .inr (2, [.int wd1, .int rz1, .ref n1])), (s2, .inr (2, [.int wd2, .int rz2, .ref n2])), (s3, .inr (2, [.int wd3, .int rz3, .ref n3])), (n0, .inl (cJ0, 60, .inr (.inl o0_62))), (n1, .inl (cJ1, 60, .inr (.inl g1))), (n2, .inl (cJ2, 60, .inr (.inl g2))), (n3, .inl (cJ3, 60, .inr (.inl g3)))]) [0, 1, 2, 3, 4, 5, 6, 7, 8, 9] (by decide) rfl
          have hK9 := hK.sub (tys' := [(cS, .object RX3), (cJ0, .long), (cJ1, .long), (cJ2, .long), (cJ3, .long)]) [0, 1, 2, 3, 4] rfl
          exact W.iret (v := 0) hx hb hr (fun t ht hW => ⟨⟨0, (), rfl, ⟨(rg_w (by decide : (0 : Int) ≤ (0 : Int32).toInt ∧ (0 : Int32).toInt ≤ 0) (by decide) (by decide)), (wr_0 (j := 0) (by decide) (by decide) (by have q0 := hg9_0; unfold RG at q0; omega) (by have q0 := hg9_0; unfold RG at q0; omega))⟩, o0_62, g1, g2, g3, by rw [ht]; exact hP9, va_K.moved hW.alike hK9, hD9⟩, hS.F ht⟩) hS.2.2 dX9_write_51
        ·
          have n_c_58 : (r_57.toInt : Int) = 0 := c_eq rfl (by decide) c_58
          have b_r_57 : (0 : Int) ≤ r_57.toInt ∧ r_57.toInt ≤ 0 := r_eq1 b_r_57 (by decide : (0 : Int) ≤ (0 : Int32).toInt ∧ (0 : Int32).toInt ≤ 0) n_c_58 (by decide)
          have g_63 := zz_r_57 c_58
          have lt0_g_63 := (by decide : (1 : Int32).toInt = 1)
          refine lv_bipush (v := (-7)) hx hb dX9_write_40 (by decide) ?_
          have hP9 := hP.sub (ws' := [(h0, .inr (7, [.ref tp, .ref sc, .ref rd, .ref cu, .ref im, .ref ig, .ref sl, .ref se, .ref sm, .ref fc])), (sl, .inl (cS, 4, .inr (.inr (.inr (.inr (sf4 s0 s1 s2 s3)))))), (s0, .inr (2, [.int wd0, .int rz0, .ref n0])), (s1, .inr (2, [.int wd1, .int rz1, .ref n1])), (s2, .inr (2, [.int wd2, .int rz2, .ref n2])), (s3, .inr (2, [.int wd3, .int rz3, .ref n3])), (n0, .inl (cJ0, 60, .inr (.inl g0))), (n1, .inl (cJ1, 60, .inr (.inl g1))), (n2, .inl (cJ2, 60, .inr (.inl g2))), (n3, .inl (cJ3, 60, .inr (.inl g3)))]) [0, 1, 2, 3, 4, 5, 6, 7, 8, 9] rfl
          have hD9 := hD.sub (ws' := [(h0, .inr (7, [.ref tp, .ref sc, .ref rd, .ref cu, .ref im, .ref ig, .ref sl, .ref se, .ref sm, .ref fc])), (sl, .inl (cS, 4, .inr (.inr (.inr (.inr (sf4 s0 s1 s2 s3)))))), (s0, .inr (2, [.int wd0, .int rz0, .ref n0])), (s1, .inr (2, [.int wd1, .int rz1, .ref n1])), (s2, .inr (2, [.int wd2, .int rz2, .ref n2])), (s3, .inr (2, [.int wd3, .int rz3, .ref n3])), (n0, .inl (cJ0, 60, .inr (.inl g0))), (n1, .inl (cJ1, 60, .inr (.inl g1))), (n2, .inl (cJ2, 60, .inr (.inl g2))), (n3, .inl (cJ3, 60, .inr (.inl g3)))]) [0, 1, 2, 3, 4, 5, 6, 7, 8, 9] (by decide) rfl
          have hK9 := hK.sub (tys' := [(cS, .object RX3), (cJ0, .long), (cJ1, .long), (cJ2, .long), (cJ3, .long)]) [0, 1, 2, 3, 4] rfl
          exact W.iret (v := (-7)) hx hb hr (fun t ht hW => ⟨⟨(-7), (), rfl, ⟨(rg_w (by decide : (-7 : Int) ≤ ((-7) : Int32).toInt ∧ ((-7) : Int32).toInt ≤ -7) (by decide) (by decide)), (wr_7 (j := 0) (by decide) (by decide) (by have q0 := hg9_0; unfold RG at q0; omega) (by have q0 := hg9_0; unfold RG at q0; omega))⟩, g0, g1, g2, g3, by rw [ht]; exact hP9, va_K.moved hW.alike hK9, hD9⟩, hS.F ht⟩) hS.2.2 dX9_write_42
      ·
        have n_c_55 : (r_54.toInt : Int) = 0 := c_eq rfl (by decide) c_55
        have b_r_54 : (0 : Int) ≤ r_54.toInt ∧ r_54.toInt ≤ 0 := r_eq1 b_r_54 (by decide : (0 : Int) ≤ (0 : Int32).toInt ∧ (0 : Int32).toInt ≤ 0) n_c_55 (by decide)
        have g_64 := zz_r_54 c_55
        refine lv_bipush (v := (-6)) hx hb dX9_write_27 (by decide) ?_
        have hP9 := hP.sub (ws' := [(h0, .inr (7, [.ref tp, .ref sc, .ref rd, .ref cu, .ref im, .ref ig, .ref sl, .ref se, .ref sm, .ref fc])), (sl, .inl (cS, 4, .inr (.inr (.inr (.inr (sf4 s0 s1 s2 s3)))))), (s0, .inr (2, [.int wd0, .int rz0, .ref n0])), (s1, .inr (2, [.int wd1, .int rz1, .ref n1])), (s2, .inr (2, [.int wd2, .int rz2, .ref n2])), (s3, .inr (2, [.int wd3, .int rz3, .ref n3])), (n0, .inl (cJ0, 60, .inr (.inl g0))), (n1, .inl (cJ1, 60, .inr (.inl g1))), (n2, .inl (cJ2, 60, .inr (.inl g2))), (n3, .inl (cJ3, 60, .inr (.inl g3)))]) [0, 1, 2, 3, 4, 5, 6, 7, 8, 9] rfl
        have hD9 := hD.sub (ws' := [(h0, .inr (7, [.ref tp, .ref sc, .ref rd, .ref cu, .ref im, .ref ig, .ref sl, .ref se, .ref sm, .ref fc])), (sl, .inl (cS, 4, .inr (.inr (.inr (.inr (sf4 s0 s1 s2 s3)))))), (s0, .inr (2, [.int wd0, .int rz0, .ref n0])), (s1, .inr (2, [.int wd1, .int rz1, .ref n1])), (s2, .inr (2, [.int wd2, .int rz2, .ref n2])), (s3, .inr (2, [.int wd3, .int rz3, .ref n3])), (n0, .inl (cJ0, 60, .inr (.inl g0))), (n1, .inl (cJ1, 60, .inr (.inl g1))), (n2, .inl (cJ2, 60, .inr (.inl g2))), (n3, .inl (cJ3, 60, .inr (.inl g3)))]) [0, 1, 2, 3, 4, 5, 6, 7, 8, 9] (by decide) rfl
        have hK9 := hK.sub (tys' := [(cS, .object RX3), (cJ0, .long), (cJ1, .long), (cJ2, .long), (cJ3, .long)]) [0, 1, 2, 3, 4] rfl
        exact W.iret (v := (-6)) hx hb hr (fun t ht hW => ⟨⟨(-6), (), rfl, ⟨(rg_w (by decide : (-6 : Int) ≤ ((-6) : Int32).toInt ∧ ((-6) : Int32).toInt ≤ -6) (by decide) (by decide)), (wr_6 (j := 0) (by decide) (by decide) (by have q0 := hg9_0; unfold RG at q0; omega))⟩, g0, g1, g2, g3, by rw [ht]; exact hP9, va_K.moved hW.alike hK9, hD9⟩, hS.F ht⟩) hS.2.2 dX9_write_29
    ·
      obtain rfl : a1 = 1 := Int32.toInt_inj.mp (h_53.trans (by decide))
      refine va_aldq hx hb hK hP 1 0 rfl rfl (vp_in_b (by decide : (1 : Int) ≤ (1 : Int32).toInt ∧ (1 : Int32).toInt ≤ 1) (by decide) (by decide)) dX9_write_16 ?_
      refine W.eq (g2 := F0 m 17 ls (.ref s1 :: [])) (congrArg (fun v => F0 m 17 ls (va_rf v :: [])) (sf4_1 s0 s1 s2 s3)) ?_
      refine lv_astore (lv' := [(5, .ref s1), (0, .ref h0), (1, .int 1), (2, .int a2), (3, .long a3)]) hx hb dX9_write_17 hl (by decide) rfl (fun ls hl => ?_)
      refine lv_aload hx hb dX9_write_19 (lv_at hl 0 rfl) ?_
      refine vp_callSi (W.runV (As := []) (rest := []) ⟨hx, hb, hml, hown, hts⟩ (kX3_stands2 l dC dI s1 wd1 rz1 n1 b_wd1 b_rz1) (cwV 0 hts gX9_writeF__X3_stands2_V270 rfl rfl rfl hd_yX3_stands ⟨lel 1 2 rfl, lel 20 45 rfl⟩) ⟨pw_fb, rcv_X3 hK hP (q0 := 3) rfl, (pw_use hP hK hN [3] rfl [] rfl)⟩ rfl rfl hl.1 rfl (lv_room (Nat.le_of_ble_eq_true rfl)) dX9_write_21 ⟨lel 0 0 rfl, lel 0 0 rfl⟩) (fun r_65 h_r_65 => ?_)
      obtain ⟨b_r_65, nz_r_65, zz_r_65⟩ := h_r_65
      have b_r_65 : (0 : Int) ≤ r_65.toInt ∧ r_65.toInt ≤ 1 := b_r_65
      refine lv_if_ne (tgt := 30) hx hb dX9_write_24 (by decide) (fun c_66 => ?_) (fun c_66 => ?_)
      ·
        have n_c_66 : (r_65.toInt : Int) ≠ 0 := c_ne rfl (by decide) c_66
        have b_r_65 : (1 : Int) ≤ r_65.toInt ∧ r_65.toInt ≤ 1 := r_ne1 b_r_65 (by decide : (0 : Int) ≤ (0 : Int32).toInt ∧ (0 : Int32).toInt ≤ 0) n_c_66 (by decide)
        obtain ⟨b_wd1, g_67⟩ := nz_r_65 c_66
        refine lv_aload hx hb dX9_write_30 (lv_at hl 0 rfl) ?_
        refine lv_iload_n hx hb dX9_write_32 rfl (lv_at hl 3 rfl) ?_
        refine lv_iconst (v := 1) hx hb dX9_write_33 (by decide) ?_
        refine vp_callSi (W.runV (As := [.int a2, .int 1]) (rest := []) ⟨hx, hb, hml, hown, hts⟩ (kX3_hasStretch2 l dC dI s1 wd1 rz1 n1 a2 1 (rg_w b_wd1 (by decide) (by decide)) b_rz1) (cwV 2 hts gX9_writeF__X3_hasStretch2_V343 rfl rfl rfl hd_yX3_hasStretch ⟨lel 1 2 rfl, lel 22 45 rfl⟩) ⟨pw_fb, rcv_X3 hK hP (q0 := 3) rfl, (pw_use hP hK hN [3] rfl [] rfl)⟩ rfl rfl hl.1 rfl (lv_room (Nat.le_of_ble_eq_true rfl)) dX9_write_34 ⟨lel 0 0 rfl, lel 0 0 rfl⟩) (fun r_68 h_r_68 => ?_)
        obtain ⟨b_r_68, nz_r_68, zz_r_68⟩ := h_r_68
        have b_r_68 : (0 : Int) ≤ r_68.toInt ∧ r_68.toInt ≤ 1 := b_r_68
        refine lv_if_ne (tgt := 43) hx hb dX9_write_37 (by decide) (fun c_69 => ?_) (fun c_69 => ?_)
        ·
          have n_c_69 : (r_68.toInt : Int) ≠ 0 := c_ne rfl (by decide) c_69
          have b_r_68 : (1 : Int) ≤ r_68.toInt ∧ r_68.toInt ≤ 1 := r_ne1 b_r_68 (by decide : (0 : Int) ≤ (0 : Int32).toInt ∧ (0 : Int32).toInt ≤ 0) n_c_69 (by decide)
          obtain ⟨b_a2, _, g_70⟩ := nz_r_68 c_69
          have lt0_g_70 := (by decide : (1 : Int32).toInt = 1)
          refine lv_aload hx hb dX9_write_43 (lv_at hl 0 rfl) ?_
          refine lv_iload_n hx hb dX9_write_45 rfl (lv_at hl 3 rfl) ?_
          refine lv_lload_n hx hb dX9_write_46 rfl (lv_at hl 4 rfl) ?_
          have hFc := va_free (wc := [(s1, .inr (2, [.int wd1, .int rz1, .ref n1])), (n1, .inl (cJ1, 60, .inr (.inl g1)))]) hD hS hA [3, 7] rfl
          refine va_callv (va_runV (As := [.int a2, .long a3]) (rest := []) ⟨hx, hb, hml, hown, hts⟩ (kX3_put l dC dI s1 wd1 rz1 n1 cJ1 g1 a2 a3 (s.heap.size) (rg_w b_wd1 (by decide) (by decide)) b_rz1) (cwV 2 hts gX9_writeF__X3_put_V346 rfl rfl rfl hd_yX3_put ⟨lel 2 2 rfl, lel 45 45 rfl⟩) ⟨hw_fb, rcv_X3 hK hP (q0 := 3) rfl, (hw_use hP hD hK hN [3, 7] rfl (by decide) rfl [2] rfl)⟩ rfl rfl hl.1 rfl (lv_room (Nat.le_of_ble_eq_true rfl)) dX9_write_47 ⟨lel 0 0 rfl, lel 0 0 rfl⟩) hS (fun q _ h => hFc q h) hFc (fun u_72 t H1 locs ht hvm hw_r_71 hB hz1 hk1 hS => ?_)
          obtain ⟨o0_73, hP1, hK1, hD1⟩ := hB
          rw [ht] at hP1
          have hK1 := va_K.moved hvm.symm hK1
          obtain ⟨hP, hD⟩ := va_join (wr := [(h0, .inr (7, [.ref tp, .ref sc, .ref rd, .ref cu, .ref im, .ref ig, .ref sl, .ref se, .ref sm, .ref fc])), (sl, .inl (cS, 4, .inr (.inr (.inr (.inr (sf4 s0 s1 s2 s3)))))), (s0, .inr (2, [.int wd0, .int rz0, .ref n0])), (s2, .inr (2, [.int wd2, .int rz2, .ref n2])), (s3, .inr (2, [.int wd3, .int rz3, .ref n3])), (n0, .inl (cJ0, 60, .inr (.inl g0))), (n2, .inl (cJ2, 60, .inr (.inl g2))), (n3, .inl (cJ3, 60, .inr (.inl g3)))]) (w1 := [(s1, .inr (2, [.int wd1, .int rz1, .ref n1])), (n1, .inl (cJ1, 60, .inr (.inl o0_73)))]) hP hD [3, 7] [0, 1, 2, 4, 5, 6, 8, 9] rfl rfl (by decide) (by decide) hk1 hFc hP1 hD1
          have hK := (hK.sub (tys' := [(cS, .object RX3), (cJ0, .long), (cJ2, .long), (cJ3, .long)]) [0, 1, 3, 4] rfl).app hK1
          generalize H1 = H at hP hS ⊢
          have hP := hP.sub (ws' := [(h0, .inr (7, [.ref tp, .ref sc, .ref rd, .ref cu, .ref im, .ref ig, .ref sl, .ref se, .ref sm, .ref fc])), (sl, .inl (cS, 4, .inr (.inr (.inr (.inr (sf4 s0 s1 s2 s3)))))), (s0, .inr (2, [.int wd0, .int rz0, .ref n0])), (s1, .inr (2, [.int wd1, .int rz1, .ref n1])), (s2, .inr (2, [.int wd2, .int rz2, .ref n2])), (s3, .inr (2, [.int wd3, .int rz3, .ref n3])), (n0, .inl (cJ0, 60, .inr (.inl g0))), (n1, .inl (cJ1, 60, .inr (.inl o0_73))), (n2, .inl (cJ2, 60, .inr (.inl g2))), (n3, .inl (cJ3, 60, .inr (.inl g3)))]) [0, 1, 2, 8, 3, 4, 5, 9, 6, 7] rfl
          have hD := hD.sub (ws' := [(h0, .inr (7, [.ref tp, .ref sc, .ref rd, .ref cu, .ref im, .ref ig, .ref sl, .ref se, .ref sm, .ref fc])), (sl, .inl (cS, 4, .inr (.inr (.inr (.inr (sf4 s0 s1 s2 s3)))))), (s0, .inr (2, [.int wd0, .int rz0, .ref n0])), (s1, .inr (2, [.int wd1, .int rz1, .ref n1])), (s2, .inr (2, [.int wd2, .int rz2, .ref n2])), (s3, .inr (2, [.int wd3, .int rz3, .ref n3])), (n0, .inl (cJ0, 60, .inr (.inl g0))), (n1, .inl (cJ1, 60, .inr (.inl o0_73))), (n2, .inl (cJ2, 60, .inr (.inl g2))), (n3, .inl (cJ3, 60, .inr (.inl g3)))]) [0, 1, 2, 8, 3, 4, 5, 9, 6, 7] (by decide) rfl
          have hK := hK.sub (tys' := [(cS, .object RX3), (cJ0, .long), (cJ1, .long), (cJ2, .long), (cJ3, .long)]) [0, 1, 4, 2, 3] rfl
          have hP : va_P (dC, dI) vwCl [(h0, .inr (7, [.ref tp, .ref sc, .ref rd, .ref cu, .ref im, .ref ig, .ref sl, .ref se, .ref sm, .ref fc])), (sl, .inl (cS, 4, .inr (.inr (.inr (.inr (sf4 s0 s1 s2 s3)))))), (s0, .inr (2, [.int wd0, .int rz0, .ref n0])), (s1, .inr (2, [.int wd1, .int rz1, .ref n1])), (s2, .inr (2, [.int wd2, .int rz2, .ref n2])), (s3, .inr (2, [.int wd3, .int rz3, .ref n3])), (n0, .inl (cJ0, 60, .inr (.inl g0))), (n1, .inl (cJ1, 60, .inr (.inl o0_73))), (n2, .inl (cJ2, 60, .inr (.inl g2))), (n3, .inl (cJ3, 60, .inr (.inl g3)))] H := hP
          have hD : va_D A [(h0, .inr (7, [.ref tp, .ref sc, .ref rd, .ref cu, .ref im, .ref ig, .ref sl, .ref se, .ref sm, .ref fc])), (sl, .inl (cS, 4, .inr (.inr (.inr (.inr (sf4 s0 s1 s2 s3)))))), (s0, .inr (2, [.int wd0, .int rz0, .ref n0])), (s1, .inr (2, [.int wd1, .int rz1, .ref n1])), (s2, .inr (2, [.int wd2, .int rz2, .ref n2])), (s3, .inr (2, [.int wd3, .int rz3, .ref n3])), (n0, .inl (cJ0, 60, .inr (.inl g0))), (n1, .inl (cJ1, 60, .inr (.inl o0_73))), (n2, .inl (cJ2, 60, .inr (.inl g2))), (n3, .inl (cJ3, 60, .inr (.inl g3)))] := hD
          have hK : va_K (dC, dI) vwCl [(cS, .object RX3), (cJ0, .long), (cJ1, .long), (cJ2, .long), (cJ3, .long)] s := hK
          refine lv_iconst (v := 0) hx hb dX9_write_50 (by decide) ?_
          have hP9 := hP.sub (ws' := [(h0, .inr (7, [.ref tp, .ref sc, .ref rd, .ref cu, .ref im, .ref ig, .ref sl, .ref se, .ref sm, .ref fc])), (sl, .inl (cS, 4, .inr (.inr (.inr (.inr (sf4 s0 s1 s2 s3)))))), (s0, .inr (2, [.int wd0, .int rz0, .ref n0])), (s1, .inr (2, [.int wd1, .int rz1, .ref n1])), (s2, .inr (2, [.int wd2, .int rz2, .ref n2])), (s3, .inr (2, [.int wd3, .int rz3, .ref n3])), (n0, .inl (cJ0, 60, .inr (.inl g0))), (n1, .inl (cJ1, 60, .inr (.inl o0_73))), (n2, .inl (cJ2, 60, .inr (.inl g2))), (n3, .inl (cJ3, 60, .inr (.inl g3)))]) [0, 1, 2, 3, 4, 5, 6, 7, 8, 9] rfl
          have hD9 := hD.sub (ws' := [(h0, .inr (7, [.ref tp, .ref sc, .ref rd, .ref cu, .ref im, .ref ig, .ref sl, .ref se, .ref sm, .ref fc])), (sl, .inl (cS, 4, .inr (.inr (.inr (.inr (sf4 s0 s1 s2 s3)))))), (s0, .inr (2, [.int wd0, .int rz0, .ref n0])), (s1, .inr (2, [.int wd1, .int rz1, .ref n1])), (s2, .inr (2, [.int wd2, .int rz2, .ref n2])), (s3, .inr (2, [.int wd3, .int rz3, .ref n3])), (n0, .inl (cJ0, 60, .inr (.inl g0))), (n1, .inl (cJ1, 60, .inr (.inl o0_73))), (n2, .inl (cJ2, 60, .inr (.inl g2))), (n3, .inl (cJ3, 60, .inr (.inl g3)))]) [0, 1, 2, 3, 4, 5, 6, 7, 8, 9] (by decide) rfl
          have hK9 := hK.sub (tys' := [(cS, .object RX3), (cJ0, .long), (cJ1, .long), (cJ2, .long), (cJ3, .long)]) [0, 1, 2, 3, 4] rfl
          exact W.iret (v := 0) hx hb hr (fun t ht hW => ⟨⟨0, (), rfl, ⟨(rg_w (by decide : (0 : Int) ≤ (0 : Int32).toInt ∧ (0 : Int32).toInt ≤ 0) (by decide) (by decide)), (wr_0 (j := 1) (by decide) (by decide) (by have q1 := hg9_1; unfold RG at q1; omega) (by have q1 := hg9_1; unfold RG at q1; omega))⟩, g0, o0_73, g2, g3, by rw [ht]; exact hP9, va_K.moved hW.alike hK9, hD9⟩, hS.F ht⟩) hS.2.2 dX9_write_51
        ·
          have n_c_69 : (r_68.toInt : Int) = 0 := c_eq rfl (by decide) c_69
          have b_r_68 : (0 : Int) ≤ r_68.toInt ∧ r_68.toInt ≤ 0 := r_eq1 b_r_68 (by decide : (0 : Int) ≤ (0 : Int32).toInt ∧ (0 : Int32).toInt ≤ 0) n_c_69 (by decide)
          have g_74 := zz_r_68 c_69
          have lt0_g_74 := (by decide : (1 : Int32).toInt = 1)
          refine lv_bipush (v := (-7)) hx hb dX9_write_40 (by decide) ?_
          have hP9 := hP.sub (ws' := [(h0, .inr (7, [.ref tp, .ref sc, .ref rd, .ref cu, .ref im, .ref ig, .ref sl, .ref se, .ref sm, .ref fc])), (sl, .inl (cS, 4, .inr (.inr (.inr (.inr (sf4 s0 s1 s2 s3)))))), (s0, .inr (2, [.int wd0, .int rz0, .ref n0])), (s1, .inr (2, [.int wd1, .int rz1, .ref n1])), (s2, .inr (2, [.int wd2, .int rz2, .ref n2])), (s3, .inr (2, [.int wd3, .int rz3, .ref n3])), (n0, .inl (cJ0, 60, .inr (.inl g0))), (n1, .inl (cJ1, 60, .inr (.inl g1))), (n2, .inl (cJ2, 60, .inr (.inl g2))), (n3, .inl (cJ3, 60, .inr (.inl g3)))]) [0, 1, 2, 3, 4, 5, 6, 7, 8, 9] rfl
          have hD9 := hD.sub (ws' := [(h0, .inr (7, [.ref tp, .ref sc, .ref rd, .ref cu, .ref im, .ref ig, .ref sl, .ref se, .ref sm, .ref fc])), (sl, .inl (cS, 4, .inr (.inr (.inr (.inr (sf4 s0 s1 s2 s3)))))), (s0, .inr (2, [.int wd0, .int rz0, .ref n0])), (s1, .inr (2, [.int wd1, .int rz1, .ref n1])), (s2, .inr (2, [.int wd2, .int rz2, .ref n2])), (s3, .inr (2, [.int wd3, .int rz3, .ref n3])), (n0, .inl (cJ0, 60, .inr (.inl g0))), (n1, .inl (cJ1, 60, .inr (.inl g1))), (n2, .inl (cJ2, 60, .inr (.inl g2))), (n3, .inl (cJ3, 60, .inr (.inl g3)))]) [0, 1, 2, 3, 4, 5, 6, 7, 8, 9] (by decide) rfl
          have hK9 := hK.sub (tys' := [(cS, .object RX3), (cJ0, .long), (cJ1, .long), (cJ2, .long), (cJ3, .long)]) [0, 1, 2, 3, 4] rfl
          exact W.iret (v := (-7)) hx hb hr (fun t ht hW => ⟨⟨(-7), (), rfl, ⟨(rg_w (by decide : (-7 : Int) ≤ ((-7) : Int32).toInt ∧ ((-7) : Int32).toInt ≤ -7) (by decide) (by decide)), (wr_7 (j := 1) (by decide) (by decide) (by have q1 := hg9_1; unfold RG at q1; omega) (by have q1 := hg9_1; unfold RG at q1; omega))⟩, g0, g1, g2, g3, by rw [ht]; exact hP9, va_K.moved hW.alike hK9, hD9⟩, hS.F ht⟩) hS.2.2 dX9_write_42
      ·
        have n_c_66 : (r_65.toInt : Int) = 0 := c_eq rfl (by decide) c_66
        have b_r_65 : (0 : Int) ≤ r_65.toInt ∧ r_65.toInt ≤ 0 := r_eq1 b_r_65 (by decide : (0 : Int) ≤ (0 : Int32).toInt ∧ (0 : Int32).toInt ≤ 0) n_c_66 (by decide)
        have g_75 := zz_r_65 c_66
        refine lv_bipush (v := (-6)) hx hb dX9_write_27 (by decide) ?_
        have hP9 := hP.sub (ws' := [(h0, .inr (7, [.ref tp, .ref sc, .ref rd, .ref cu, .ref im, .ref ig, .ref sl, .ref se, .ref sm, .ref fc])), (sl, .inl (cS, 4, .inr (.inr (.inr (.inr (sf4 s0 s1 s2 s3)))))), (s0, .inr (2, [.int wd0, .int rz0, .ref n0])), (s1, .inr (2, [.int wd1, .int rz1, .ref n1])), (s2, .inr (2, [.int wd2, .int rz2, .ref n2])), (s3, .inr (2, [.int wd3, .int rz3, .ref n3])), (n0, .inl (cJ0, 60, .inr (.inl g0))), (n1, .inl (cJ1, 60, .inr (.inl g1))), (n2, .inl (cJ2, 60, .inr (.inl g2))), (n3, .inl (cJ3, 60, .inr (.inl g3)))]) [0, 1, 2, 3, 4, 5, 6, 7, 8, 9] rfl
        have hD9 := hD.sub (ws' := [(h0, .inr (7, [.ref tp, .ref sc, .ref rd, .ref cu, .ref im, .ref ig, .ref sl, .ref se, .ref sm, .ref fc])), (sl, .inl (cS, 4, .inr (.inr (.inr (.inr (sf4 s0 s1 s2 s3)))))), (s0, .inr (2, [.int wd0, .int rz0, .ref n0])), (s1, .inr (2, [.int wd1, .int rz1, .ref n1])), (s2, .inr (2, [.int wd2, .int rz2, .ref n2])), (s3, .inr (2, [.int wd3, .int rz3, .ref n3])), (n0, .inl (cJ0, 60, .inr (.inl g0))), (n1, .inl (cJ1, 60, .inr (.inl g1))), (n2, .inl (cJ2, 60, .inr (.inl g2))), (n3, .inl (cJ3, 60, .inr (.inl g3)))]) [0, 1, 2, 3, 4, 5, 6, 7, 8, 9] (by decide) rfl
        have hK9 := hK.sub (tys' := [(cS, .object RX3), (cJ0, .long), (cJ1, .long), (cJ2, .long), (cJ3, .long)]) [0, 1, 2, 3, 4] rfl
        exact W.iret (v := (-6)) hx hb hr (fun t ht hW => ⟨⟨(-6), (), rfl, ⟨(rg_w (by decide : (-6 : Int) ≤ ((-6) : Int32).toInt ∧ ((-6) : Int32).toInt ≤ -6) (by decide) (by decide)), (wr_6 (j := 1) (by decide) (by decide) (by have q1 := hg9_1; unfold RG at q1; omega))⟩, g0, g1, g2, g3, by rw [ht]; exact hP9, va_K.moved hW.alike hK9, hD9⟩, hS.F ht⟩) hS.2.2 dX9_write_29
    ·
      obtain rfl : a1 = 2 := Int32.toInt_inj.mp (h_53.trans (by decide))
      refine va_aldq hx hb hK hP 1 0 rfl rfl (vp_in_b (by decide : (2 : Int) ≤ (2 : Int32).toInt ∧ (2 : Int32).toInt ≤ 2) (by decide) (by decide)) dX9_write_16 ?_
      refine W.eq (g2 := F0 m 17 ls (.ref s2 :: [])) (congrArg (fun v => F0 m 17 ls (va_rf v :: [])) (sf4_2 s0 s1 s2 s3)) ?_
      refine lv_astore (lv' := [(5, .ref s2), (0, .ref h0), (1, .int 2), (2, .int a2), (3, .long a3)]) hx hb dX9_write_17 hl (by decide) rfl (fun ls hl => ?_)
      refine lv_aload hx hb dX9_write_19 (lv_at hl 0 rfl) ?_
      refine vp_callSi (W.runV (As := []) (rest := []) ⟨hx, hb, hml, hown, hts⟩ (kX3_stands2 l dC dI s2 wd2 rz2 n2 b_wd2 b_rz2) (cwV 0 hts gX9_writeF__X3_stands2_V270 rfl rfl rfl hd_yX3_stands ⟨lel 1 2 rfl, lel 20 45 rfl⟩) ⟨pw_fb, rcv_X3 hK hP (q0 := 4) rfl, (pw_use hP hK hN [4] rfl [] rfl)⟩ rfl rfl hl.1 rfl (lv_room (Nat.le_of_ble_eq_true rfl)) dX9_write_21 ⟨lel 0 0 rfl, lel 0 0 rfl⟩) (fun r_76 h_r_76 => ?_)
      obtain ⟨b_r_76, nz_r_76, zz_r_76⟩ := h_r_76
      have b_r_76 : (0 : Int) ≤ r_76.toInt ∧ r_76.toInt ≤ 1 := b_r_76
      refine lv_if_ne (tgt := 30) hx hb dX9_write_24 (by decide) (fun c_77 => ?_) (fun c_77 => ?_)
      ·
        have n_c_77 : (r_76.toInt : Int) ≠ 0 := c_ne rfl (by decide) c_77
        have b_r_76 : (1 : Int) ≤ r_76.toInt ∧ r_76.toInt ≤ 1 := r_ne1 b_r_76 (by decide : (0 : Int) ≤ (0 : Int32).toInt ∧ (0 : Int32).toInt ≤ 0) n_c_77 (by decide)
        obtain ⟨b_wd2, g_78⟩ := nz_r_76 c_77
        refine lv_aload hx hb dX9_write_30 (lv_at hl 0 rfl) ?_
        refine lv_iload_n hx hb dX9_write_32 rfl (lv_at hl 3 rfl) ?_
        refine lv_iconst (v := 1) hx hb dX9_write_33 (by decide) ?_
        refine vp_callSi (W.runV (As := [.int a2, .int 1]) (rest := []) ⟨hx, hb, hml, hown, hts⟩ (kX3_hasStretch2 l dC dI s2 wd2 rz2 n2 a2 1 (rg_w b_wd2 (by decide) (by decide)) b_rz2) (cwV 2 hts gX9_writeF__X3_hasStretch2_V343 rfl rfl rfl hd_yX3_hasStretch ⟨lel 1 2 rfl, lel 22 45 rfl⟩) ⟨pw_fb, rcv_X3 hK hP (q0 := 4) rfl, (pw_use hP hK hN [4] rfl [] rfl)⟩ rfl rfl hl.1 rfl (lv_room (Nat.le_of_ble_eq_true rfl)) dX9_write_34 ⟨lel 0 0 rfl, lel 0 0 rfl⟩) (fun r_79 h_r_79 => ?_)
        obtain ⟨b_r_79, nz_r_79, zz_r_79⟩ := h_r_79
        have b_r_79 : (0 : Int) ≤ r_79.toInt ∧ r_79.toInt ≤ 1 := b_r_79
        refine lv_if_ne (tgt := 43) hx hb dX9_write_37 (by decide) (fun c_80 => ?_) (fun c_80 => ?_)
        ·
          have n_c_80 : (r_79.toInt : Int) ≠ 0 := c_ne rfl (by decide) c_80
          have b_r_79 : (1 : Int) ≤ r_79.toInt ∧ r_79.toInt ≤ 1 := r_ne1 b_r_79 (by decide : (0 : Int) ≤ (0 : Int32).toInt ∧ (0 : Int32).toInt ≤ 0) n_c_80 (by decide)
          obtain ⟨b_a2, _, g_81⟩ := nz_r_79 c_80
          have lt0_g_81 := (by decide : (1 : Int32).toInt = 1)
          refine lv_aload hx hb dX9_write_43 (lv_at hl 0 rfl) ?_
          refine lv_iload_n hx hb dX9_write_45 rfl (lv_at hl 3 rfl) ?_
          refine lv_lload_n hx hb dX9_write_46 rfl (lv_at hl 4 rfl) ?_
          have hFc := va_free (wc := [(s2, .inr (2, [.int wd2, .int rz2, .ref n2])), (n2, .inl (cJ2, 60, .inr (.inl g2)))]) hD hS hA [4, 8] rfl
          refine va_callv (va_runV (As := [.int a2, .long a3]) (rest := []) ⟨hx, hb, hml, hown, hts⟩ (kX3_put l dC dI s2 wd2 rz2 n2 cJ2 g2 a2 a3 (s.heap.size) (rg_w b_wd2 (by decide) (by decide)) b_rz2) (cwV 2 hts gX9_writeF__X3_put_V346 rfl rfl rfl hd_yX3_put ⟨lel 2 2 rfl, lel 45 45 rfl⟩) ⟨hw_fb, rcv_X3 hK hP (q0 := 4) rfl, (hw_use hP hD hK hN [4, 8] rfl (by decide) rfl [3] rfl)⟩ rfl rfl hl.1 rfl (lv_room (Nat.le_of_ble_eq_true rfl)) dX9_write_47 ⟨lel 0 0 rfl, lel 0 0 rfl⟩) hS (fun q _ h => hFc q h) hFc (fun u_83 t H1 locs ht hvm hw_r_82 hB hz1 hk1 hS => ?_)
          obtain ⟨o0_84, hP1, hK1, hD1⟩ := hB
          rw [ht] at hP1
          have hK1 := va_K.moved hvm.symm hK1
          obtain ⟨hP, hD⟩ := va_join (wr := [(h0, .inr (7, [.ref tp, .ref sc, .ref rd, .ref cu, .ref im, .ref ig, .ref sl, .ref se, .ref sm, .ref fc])), (sl, .inl (cS, 4, .inr (.inr (.inr (.inr (sf4 s0 s1 s2 s3)))))), (s0, .inr (2, [.int wd0, .int rz0, .ref n0])), (s1, .inr (2, [.int wd1, .int rz1, .ref n1])), (s3, .inr (2, [.int wd3, .int rz3, .ref n3])), (n0, .inl (cJ0, 60, .inr (.inl g0))), (n1, .inl (cJ1, 60, .inr (.inl g1))), (n3, .inl (cJ3, 60, .inr (.inl g3)))]) (w1 := [(s2, .inr (2, [.int wd2, .int rz2, .ref n2])), (n2, .inl (cJ2, 60, .inr (.inl o0_84)))]) hP hD [4, 8] [0, 1, 2, 3, 5, 6, 7, 9] rfl rfl (by decide) (by decide) hk1 hFc hP1 hD1
          have hK := (hK.sub (tys' := [(cS, .object RX3), (cJ0, .long), (cJ1, .long), (cJ3, .long)]) [0, 1, 2, 4] rfl).app hK1
          generalize H1 = H at hP hS ⊢
          have hP := hP.sub (ws' := [(h0, .inr (7, [.ref tp, .ref sc, .ref rd, .ref cu, .ref im, .ref ig, .ref sl, .ref se, .ref sm, .ref fc])), (sl, .inl (cS, 4, .inr (.inr (.inr (.inr (sf4 s0 s1 s2 s3)))))), (s0, .inr (2, [.int wd0, .int rz0, .ref n0])), (s1, .inr (2, [.int wd1, .int rz1, .ref n1])), (s2, .inr (2, [.int wd2, .int rz2, .ref n2])), (s3, .inr (2, [.int wd3, .int rz3, .ref n3])), (n0, .inl (cJ0, 60, .inr (.inl g0))), (n1, .inl (cJ1, 60, .inr (.inl g1))), (n2, .inl (cJ2, 60, .inr (.inl o0_84))), (n3, .inl (cJ3, 60, .inr (.inl g3)))]) [0, 1, 2, 3, 8, 4, 5, 6, 9, 7] rfl
          have hD := hD.sub (ws' := [(h0, .inr (7, [.ref tp, .ref sc, .ref rd, .ref cu, .ref im, .ref ig, .ref sl, .ref se, .ref sm, .ref fc])), (sl, .inl (cS, 4, .inr (.inr (.inr (.inr (sf4 s0 s1 s2 s3)))))), (s0, .inr (2, [.int wd0, .int rz0, .ref n0])), (s1, .inr (2, [.int wd1, .int rz1, .ref n1])), (s2, .inr (2, [.int wd2, .int rz2, .ref n2])), (s3, .inr (2, [.int wd3, .int rz3, .ref n3])), (n0, .inl (cJ0, 60, .inr (.inl g0))), (n1, .inl (cJ1, 60, .inr (.inl g1))), (n2, .inl (cJ2, 60, .inr (.inl o0_84))), (n3, .inl (cJ3, 60, .inr (.inl g3)))]) [0, 1, 2, 3, 8, 4, 5, 6, 9, 7] (by decide) rfl
          have hK := hK.sub (tys' := [(cS, .object RX3), (cJ0, .long), (cJ1, .long), (cJ2, .long), (cJ3, .long)]) [0, 1, 2, 4, 3] rfl
          have hP : va_P (dC, dI) vwCl [(h0, .inr (7, [.ref tp, .ref sc, .ref rd, .ref cu, .ref im, .ref ig, .ref sl, .ref se, .ref sm, .ref fc])), (sl, .inl (cS, 4, .inr (.inr (.inr (.inr (sf4 s0 s1 s2 s3)))))), (s0, .inr (2, [.int wd0, .int rz0, .ref n0])), (s1, .inr (2, [.int wd1, .int rz1, .ref n1])), (s2, .inr (2, [.int wd2, .int rz2, .ref n2])), (s3, .inr (2, [.int wd3, .int rz3, .ref n3])), (n0, .inl (cJ0, 60, .inr (.inl g0))), (n1, .inl (cJ1, 60, .inr (.inl g1))), (n2, .inl (cJ2, 60, .inr (.inl o0_84))), (n3, .inl (cJ3, 60, .inr (.inl g3)))] H := hP
          have hD : va_D A [(h0, .inr (7, [.ref tp, .ref sc, .ref rd, .ref cu, .ref im, .ref ig, .ref sl, .ref se, .ref sm, .ref fc])), (sl, .inl (cS, 4, .inr (.inr (.inr (.inr (sf4 s0 s1 s2 s3)))))), (s0, .inr (2, [.int wd0, .int rz0, .ref n0])), (s1, .inr (2, [.int wd1, .int rz1, .ref n1])), (s2, .inr (2, [.int wd2, .int rz2, .ref n2])), (s3, .inr (2, [.int wd3, .int rz3, .ref n3])), (n0, .inl (cJ0, 60, .inr (.inl g0))), (n1, .inl (cJ1, 60, .inr (.inl g1))), (n2, .inl (cJ2, 60, .inr (.inl o0_84))), (n3, .inl (cJ3, 60, .inr (.inl g3)))] := hD
          have hK : va_K (dC, dI) vwCl [(cS, .object RX3), (cJ0, .long), (cJ1, .long), (cJ2, .long), (cJ3, .long)] s := hK
          refine lv_iconst (v := 0) hx hb dX9_write_50 (by decide) ?_
          have hP9 := hP.sub (ws' := [(h0, .inr (7, [.ref tp, .ref sc, .ref rd, .ref cu, .ref im, .ref ig, .ref sl, .ref se, .ref sm, .ref fc])), (sl, .inl (cS, 4, .inr (.inr (.inr (.inr (sf4 s0 s1 s2 s3)))))), (s0, .inr (2, [.int wd0, .int rz0, .ref n0])), (s1, .inr (2, [.int wd1, .int rz1, .ref n1])), (s2, .inr (2, [.int wd2, .int rz2, .ref n2])), (s3, .inr (2, [.int wd3, .int rz3, .ref n3])), (n0, .inl (cJ0, 60, .inr (.inl g0))), (n1, .inl (cJ1, 60, .inr (.inl g1))), (n2, .inl (cJ2, 60, .inr (.inl o0_84))), (n3, .inl (cJ3, 60, .inr (.inl g3)))]) [0, 1, 2, 3, 4, 5, 6, 7, 8, 9] rfl
          have hD9 := hD.sub (ws' := [(h0, .inr (7, [.ref tp, .ref sc, .ref rd, .ref cu, .ref im, .ref ig, .ref sl, .ref se, .ref sm, .ref fc])), (sl, .inl (cS, 4, .inr (.inr (.inr (.inr (sf4 s0 s1 s2 s3)))))), (s0, .inr (2, [.int wd0, .int rz0, .ref n0])), (s1, .inr (2, [.int wd1, .int rz1, .ref n1])), (s2, .inr (2, [.int wd2, .int rz2, .ref n2])), (s3, .inr (2, [.int wd3, .int rz3, .ref n3])), (n0, .inl (cJ0, 60, .inr (.inl g0))), (n1, .inl (cJ1, 60, .inr (.inl g1))), (n2, .inl (cJ2, 60, .inr (.inl o0_84))), (n3, .inl (cJ3, 60, .inr (.inl g3)))]) [0, 1, 2, 3, 4, 5, 6, 7, 8, 9] (by decide) rfl
          have hK9 := hK.sub (tys' := [(cS, .object RX3), (cJ0, .long), (cJ1, .long), (cJ2, .long), (cJ3, .long)]) [0, 1, 2, 3, 4] rfl
          exact W.iret (v := 0) hx hb hr (fun t ht hW => ⟨⟨0, (), rfl, ⟨(rg_w (by decide : (0 : Int) ≤ (0 : Int32).toInt ∧ (0 : Int32).toInt ≤ 0) (by decide) (by decide)), (wr_0 (j := 2) (by decide) (by decide) (by have q2 := hg9_2; unfold RG at q2; omega) (by have q2 := hg9_2; unfold RG at q2; omega))⟩, g0, g1, o0_84, g3, by rw [ht]; exact hP9, va_K.moved hW.alike hK9, hD9⟩, hS.F ht⟩) hS.2.2 dX9_write_51
        ·
          have n_c_80 : (r_79.toInt : Int) = 0 := c_eq rfl (by decide) c_80
          have b_r_79 : (0 : Int) ≤ r_79.toInt ∧ r_79.toInt ≤ 0 := r_eq1 b_r_79 (by decide : (0 : Int) ≤ (0 : Int32).toInt ∧ (0 : Int32).toInt ≤ 0) n_c_80 (by decide)
          have g_85 := zz_r_79 c_80
          have lt0_g_85 := (by decide : (1 : Int32).toInt = 1)
          refine lv_bipush (v := (-7)) hx hb dX9_write_40 (by decide) ?_
          have hP9 := hP.sub (ws' := [(h0, .inr (7, [.ref tp, .ref sc, .ref rd, .ref cu, .ref im, .ref ig, .ref sl, .ref se, .ref sm, .ref fc])), (sl, .inl (cS, 4, .inr (.inr (.inr (.inr (sf4 s0 s1 s2 s3)))))), (s0, .inr (2, [.int wd0, .int rz0, .ref n0])), (s1, .inr (2, [.int wd1, .int rz1, .ref n1])), (s2, .inr (2, [.int wd2, .int rz2, .ref n2])), (s3, .inr (2, [.int wd3, .int rz3, .ref n3])), (n0, .inl (cJ0, 60, .inr (.inl g0))), (n1, .inl (cJ1, 60, .inr (.inl g1))), (n2, .inl (cJ2, 60, .inr (.inl g2))), (n3, .inl (cJ3, 60, .inr (.inl g3)))]) [0, 1, 2, 3, 4, 5, 6, 7, 8, 9] rfl
          have hD9 := hD.sub (ws' := [(h0, .inr (7, [.ref tp, .ref sc, .ref rd, .ref cu, .ref im, .ref ig, .ref sl, .ref se, .ref sm, .ref fc])), (sl, .inl (cS, 4, .inr (.inr (.inr (.inr (sf4 s0 s1 s2 s3)))))), (s0, .inr (2, [.int wd0, .int rz0, .ref n0])), (s1, .inr (2, [.int wd1, .int rz1, .ref n1])), (s2, .inr (2, [.int wd2, .int rz2, .ref n2])), (s3, .inr (2, [.int wd3, .int rz3, .ref n3])), (n0, .inl (cJ0, 60, .inr (.inl g0))), (n1, .inl (cJ1, 60, .inr (.inl g1))), (n2, .inl (cJ2, 60, .inr (.inl g2))), (n3, .inl (cJ3, 60, .inr (.inl g3)))]) [0, 1, 2, 3, 4, 5, 6, 7, 8, 9] (by decide) rfl
          have hK9 := hK.sub (tys' := [(cS, .object RX3), (cJ0, .long), (cJ1, .long), (cJ2, .long), (cJ3, .long)]) [0, 1, 2, 3, 4] rfl
          exact W.iret (v := (-7)) hx hb hr (fun t ht hW => ⟨⟨(-7), (), rfl, ⟨(rg_w (by decide : (-7 : Int) ≤ ((-7) : Int32).toInt ∧ ((-7) : Int32).toInt ≤ -7) (by decide) (by decide)), (wr_7 (j := 2) (by decide) (by decide) (by have q2 := hg9_2; unfold RG at q2; omega) (by have q2 := hg9_2; unfold RG at q2; omega))⟩, g0, g1, g2, g3, by rw [ht]; exact hP9, va_K.moved hW.alike hK9, hD9⟩, hS.F ht⟩) hS.2.2 dX9_write_42
      ·
        have n_c_77 : (r_76.toInt : Int) = 0 := c_eq rfl (by decide) c_77
        have b_r_76 : (0 : Int) ≤ r_76.toInt ∧ r_76.toInt ≤ 0 := r_eq1 b_r_76 (by decide : (0 : Int) ≤ (0 : Int32).toInt ∧ (0 : Int32).toInt ≤ 0) n_c_77 (by decide)
        have g_86 := zz_r_76 c_77
        refine lv_bipush (v := (-6)) hx hb dX9_write_27 (by decide) ?_
        have hP9 := hP.sub (ws' := [(h0, .inr (7, [.ref tp, .ref sc, .ref rd, .ref cu, .ref im, .ref ig, .ref sl, .ref se, .ref sm, .ref fc])), (sl, .inl (cS, 4, .inr (.inr (.inr (.inr (sf4 s0 s1 s2 s3)))))), (s0, .inr (2, [.int wd0, .int rz0, .ref n0])), (s1, .inr (2, [.int wd1, .int rz1, .ref n1])), (s2, .inr (2, [.int wd2, .int rz2, .ref n2])), (s3, .inr (2, [.int wd3, .int rz3, .ref n3])), (n0, .inl (cJ0, 60, .inr (.inl g0))), (n1, .inl (cJ1, 60, .inr (.inl g1))), (n2, .inl (cJ2, 60, .inr (.inl g2))), (n3, .inl (cJ3, 60, .inr (.inl g3)))]) [0, 1, 2, 3, 4, 5, 6, 7, 8, 9] rfl
        have hD9 := hD.sub (ws' := [(h0, .inr (7, [.ref tp, .ref sc, .ref rd, .ref cu, .ref im, .ref ig, .ref sl, .ref se, .ref sm, .ref fc])), (sl, .inl (cS, 4, .inr (.inr (.inr (.inr (sf4 s0 s1 s2 s3)))))), (s0, .inr (2, [.int wd0, .int rz0, .ref n0])), (s1, .inr (2, [.int wd1, .int rz1, .ref n1])), (s2, .inr (2, [.int wd2, .int rz2, .ref n2])), (s3, .inr (2, [.int wd3, .int rz3, .ref n3])), (n0, .inl (cJ0, 60, .inr (.inl g0))), (n1, .inl (cJ1, 60, .inr (.inl g1))), (n2, .inl (cJ2, 60, .inr (.inl g2))), (n3, .inl (cJ3, 60, .inr (.inl g3)))]) [0, 1, 2, 3, 4, 5, 6, 7, 8, 9] (by decide) rfl
        have hK9 := hK.sub (tys' := [(cS, .object RX3), (cJ0, .long), (cJ1, .long), (cJ2, .long), (cJ3, .long)]) [0, 1, 2, 3, 4] rfl
        exact W.iret (v := (-6)) hx hb hr (fun t ht hW => ⟨⟨(-6), (), rfl, ⟨(rg_w (by decide : (-6 : Int) ≤ ((-6) : Int32).toInt ∧ ((-6) : Int32).toInt ≤ -6) (by decide) (by decide)), (wr_6 (j := 2) (by decide) (by decide) (by have q2 := hg9_2; unfold RG at q2; omega))⟩, g0, g1, g2, g3, by rw [ht]; exact hP9, va_K.moved hW.alike hK9, hD9⟩, hS.F ht⟩) hS.2.2 dX9_write_29
    ·
      obtain rfl : a1 = 3 := Int32.toInt_inj.mp (h_53.trans (by decide))
      refine va_aldq hx hb hK hP 1 0 rfl rfl (vp_in_b (by decide : (3 : Int) ≤ (3 : Int32).toInt ∧ (3 : Int32).toInt ≤ 3) (by decide) (by decide)) dX9_write_16 ?_
      refine W.eq (g2 := F0 m 17 ls (.ref s3 :: [])) (congrArg (fun v => F0 m 17 ls (va_rf v :: [])) (sf4_3 s0 s1 s2 s3)) ?_
      refine lv_astore (lv' := [(5, .ref s3), (0, .ref h0), (1, .int 3), (2, .int a2), (3, .long a3)]) hx hb dX9_write_17 hl (by decide) rfl (fun ls hl => ?_)
      refine lv_aload hx hb dX9_write_19 (lv_at hl 0 rfl) ?_
      refine vp_callSi (W.runV (As := []) (rest := []) ⟨hx, hb, hml, hown, hts⟩ (kX3_stands2 l dC dI s3 wd3 rz3 n3 b_wd3 b_rz3) (cwV 0 hts gX9_writeF__X3_stands2_V270 rfl rfl rfl hd_yX3_stands ⟨lel 1 2 rfl, lel 20 45 rfl⟩) ⟨pw_fb, rcv_X3 hK hP (q0 := 5) rfl, (pw_use hP hK hN [5] rfl [] rfl)⟩ rfl rfl hl.1 rfl (lv_room (Nat.le_of_ble_eq_true rfl)) dX9_write_21 ⟨lel 0 0 rfl, lel 0 0 rfl⟩) (fun r_87 h_r_87 => ?_)
      obtain ⟨b_r_87, nz_r_87, zz_r_87⟩ := h_r_87
      have b_r_87 : (0 : Int) ≤ r_87.toInt ∧ r_87.toInt ≤ 1 := b_r_87
      refine lv_if_ne (tgt := 30) hx hb dX9_write_24 (by decide) (fun c_88 => ?_) (fun c_88 => ?_)
      ·
        have n_c_88 : (r_87.toInt : Int) ≠ 0 := c_ne rfl (by decide) c_88
        have b_r_87 : (1 : Int) ≤ r_87.toInt ∧ r_87.toInt ≤ 1 := r_ne1 b_r_87 (by decide : (0 : Int) ≤ (0 : Int32).toInt ∧ (0 : Int32).toInt ≤ 0) n_c_88 (by decide)
        obtain ⟨b_wd3, g_89⟩ := nz_r_87 c_88
        refine lv_aload hx hb dX9_write_30 (lv_at hl 0 rfl) ?_
        refine lv_iload_n hx hb dX9_write_32 rfl (lv_at hl 3 rfl) ?_
        refine lv_iconst (v := 1) hx hb dX9_write_33 (by decide) ?_
        refine vp_callSi (W.runV (As := [.int a2, .int 1]) (rest := []) ⟨hx, hb, hml, hown, hts⟩ (kX3_hasStretch2 l dC dI s3 wd3 rz3 n3 a2 1 (rg_w b_wd3 (by decide) (by decide)) b_rz3) (cwV 2 hts gX9_writeF__X3_hasStretch2_V343 rfl rfl rfl hd_yX3_hasStretch ⟨lel 1 2 rfl, lel 22 45 rfl⟩) ⟨pw_fb, rcv_X3 hK hP (q0 := 5) rfl, (pw_use hP hK hN [5] rfl [] rfl)⟩ rfl rfl hl.1 rfl (lv_room (Nat.le_of_ble_eq_true rfl)) dX9_write_34 ⟨lel 0 0 rfl, lel 0 0 rfl⟩) (fun r_90 h_r_90 => ?_)
        obtain ⟨b_r_90, nz_r_90, zz_r_90⟩ := h_r_90
        have b_r_90 : (0 : Int) ≤ r_90.toInt ∧ r_90.toInt ≤ 1 := b_r_90
        refine lv_if_ne (tgt := 43) hx hb dX9_write_37 (by decide) (fun c_91 => ?_) (fun c_91 => ?_)
        ·
          have n_c_91 : (r_90.toInt : Int) ≠ 0 := c_ne rfl (by decide) c_91
          have b_r_90 : (1 : Int) ≤ r_90.toInt ∧ r_90.toInt ≤ 1 := r_ne1 b_r_90 (by decide : (0 : Int) ≤ (0 : Int32).toInt ∧ (0 : Int32).toInt ≤ 0) n_c_91 (by decide)
          obtain ⟨b_a2, _, g_92⟩ := nz_r_90 c_91
          have lt0_g_92 := (by decide : (1 : Int32).toInt = 1)
          refine lv_aload hx hb dX9_write_43 (lv_at hl 0 rfl) ?_
          refine lv_iload_n hx hb dX9_write_45 rfl (lv_at hl 3 rfl) ?_
          refine lv_lload_n hx hb dX9_write_46 rfl (lv_at hl 4 rfl) ?_
          have hFc := va_free (wc := [(s3, .inr (2, [.int wd3, .int rz3, .ref n3])), (n3, .inl (cJ3, 60, .inr (.inl g3)))]) hD hS hA [5, 9] rfl
          refine va_callv (va_runV (As := [.int a2, .long a3]) (rest := []) ⟨hx, hb, hml, hown, hts⟩ (kX3_put l dC dI s3 wd3 rz3 n3 cJ3 g3 a2 a3 (s.heap.size) (rg_w b_wd3 (by decide) (by decide)) b_rz3) (cwV 2 hts gX9_writeF__X3_put_V346 rfl rfl rfl hd_yX3_put ⟨lel 2 2 rfl, lel 45 45 rfl⟩) ⟨hw_fb, rcv_X3 hK hP (q0 := 5) rfl, (hw_use hP hD hK hN [5, 9] rfl (by decide) rfl [4] rfl)⟩ rfl rfl hl.1 rfl (lv_room (Nat.le_of_ble_eq_true rfl)) dX9_write_47 ⟨lel 0 0 rfl, lel 0 0 rfl⟩) hS (fun q _ h => hFc q h) hFc (fun u_94 t H1 locs ht hvm hw_r_93 hB hz1 hk1 hS => ?_)
          obtain ⟨o0_95, hP1, hK1, hD1⟩ := hB
          rw [ht] at hP1
          have hK1 := va_K.moved hvm.symm hK1
          obtain ⟨hP, hD⟩ := va_join (wr := [(h0, .inr (7, [.ref tp, .ref sc, .ref rd, .ref cu, .ref im, .ref ig, .ref sl, .ref se, .ref sm, .ref fc])), (sl, .inl (cS, 4, .inr (.inr (.inr (.inr (sf4 s0 s1 s2 s3)))))), (s0, .inr (2, [.int wd0, .int rz0, .ref n0])), (s1, .inr (2, [.int wd1, .int rz1, .ref n1])), (s2, .inr (2, [.int wd2, .int rz2, .ref n2])), (n0, .inl (cJ0, 60, .inr (.inl g0))), (n1, .inl (cJ1, 60, .inr (.inl g1))), (n2, .inl (cJ2, 60, .inr (.inl g2)))]) (w1 := [(s3, .inr (2, [.int wd3, .int rz3, .ref n3])), (n3, .inl (cJ3, 60, .inr (.inl o0_95)))]) hP hD [5, 9] [0, 1, 2, 3, 4, 6, 7, 8] rfl rfl (by decide) (by decide) hk1 hFc hP1 hD1
          have hK := (hK.sub (tys' := [(cS, .object RX3), (cJ0, .long), (cJ1, .long), (cJ2, .long)]) [0, 1, 2, 3] rfl).app hK1
          generalize H1 = H at hP hS ⊢
          have hP := hP.sub (ws' := [(h0, .inr (7, [.ref tp, .ref sc, .ref rd, .ref cu, .ref im, .ref ig, .ref sl, .ref se, .ref sm, .ref fc])), (sl, .inl (cS, 4, .inr (.inr (.inr (.inr (sf4 s0 s1 s2 s3)))))), (s0, .inr (2, [.int wd0, .int rz0, .ref n0])), (s1, .inr (2, [.int wd1, .int rz1, .ref n1])), (s2, .inr (2, [.int wd2, .int rz2, .ref n2])), (s3, .inr (2, [.int wd3, .int rz3, .ref n3])), (n0, .inl (cJ0, 60, .inr (.inl g0))), (n1, .inl (cJ1, 60, .inr (.inl g1))), (n2, .inl (cJ2, 60, .inr (.inl g2))), (n3, .inl (cJ3, 60, .inr (.inl o0_95)))]) [0, 1, 2, 3, 4, 8, 5, 6, 7, 9] rfl
          have hD := hD.sub (ws' := [(h0, .inr (7, [.ref tp, .ref sc, .ref rd, .ref cu, .ref im, .ref ig, .ref sl, .ref se, .ref sm, .ref fc])), (sl, .inl (cS, 4, .inr (.inr (.inr (.inr (sf4 s0 s1 s2 s3)))))), (s0, .inr (2, [.int wd0, .int rz0, .ref n0])), (s1, .inr (2, [.int wd1, .int rz1, .ref n1])), (s2, .inr (2, [.int wd2, .int rz2, .ref n2])), (s3, .inr (2, [.int wd3, .int rz3, .ref n3])), (n0, .inl (cJ0, 60, .inr (.inl g0))), (n1, .inl (cJ1, 60, .inr (.inl g1))), (n2, .inl (cJ2, 60, .inr (.inl g2))), (n3, .inl (cJ3, 60, .inr (.inl o0_95)))]) [0, 1, 2, 3, 4, 8, 5, 6, 7, 9] (by decide) rfl
          have hP : va_P (dC, dI) vwCl [(h0, .inr (7, [.ref tp, .ref sc, .ref rd, .ref cu, .ref im, .ref ig, .ref sl, .ref se, .ref sm, .ref fc])), (sl, .inl (cS, 4, .inr (.inr (.inr (.inr (sf4 s0 s1 s2 s3)))))), (s0, .inr (2, [.int wd0, .int rz0, .ref n0])), (s1, .inr (2, [.int wd1, .int rz1, .ref n1])), (s2, .inr (2, [.int wd2, .int rz2, .ref n2])), (s3, .inr (2, [.int wd3, .int rz3, .ref n3])), (n0, .inl (cJ0, 60, .inr (.inl g0))), (n1, .inl (cJ1, 60, .inr (.inl g1))), (n2, .inl (cJ2, 60, .inr (.inl g2))), (n3, .inl (cJ3, 60, .inr (.inl o0_95)))] H := hP
          have hD : va_D A [(h0, .inr (7, [.ref tp, .ref sc, .ref rd, .ref cu, .ref im, .ref ig, .ref sl, .ref se, .ref sm, .ref fc])), (sl, .inl (cS, 4, .inr (.inr (.inr (.inr (sf4 s0 s1 s2 s3)))))), (s0, .inr (2, [.int wd0, .int rz0, .ref n0])), (s1, .inr (2, [.int wd1, .int rz1, .ref n1])), (s2, .inr (2, [.int wd2, .int rz2, .ref n2])), (s3, .inr (2, [.int wd3, .int rz3, .ref n3])), (n0, .inl (cJ0, 60, .inr (.inl g0))), (n1, .inl (cJ1, 60, .inr (.inl g1))), (n2, .inl (cJ2, 60, .inr (.inl g2))), (n3, .inl (cJ3, 60, .inr (.inl o0_95)))] := hD
          have hK : va_K (dC, dI) vwCl [(cS, .object RX3), (cJ0, .long), (cJ1, .long), (cJ2, .long), (cJ3, .long)] s := hK
          refine lv_iconst (v := 0) hx hb dX9_write_50 (by decide) ?_
          have hP9 := hP.sub (ws' := [(h0, .inr (7, [.ref tp, .ref sc, .ref rd, .ref cu, .ref im, .ref ig, .ref sl, .ref se, .ref sm, .ref fc])), (sl, .inl (cS, 4, .inr (.inr (.inr (.inr (sf4 s0 s1 s2 s3)))))), (s0, .inr (2, [.int wd0, .int rz0, .ref n0])), (s1, .inr (2, [.int wd1, .int rz1, .ref n1])), (s2, .inr (2, [.int wd2, .int rz2, .ref n2])), (s3, .inr (2, [.int wd3, .int rz3, .ref n3])), (n0, .inl (cJ0, 60, .inr (.inl g0))), (n1, .inl (cJ1, 60, .inr (.inl g1))), (n2, .inl (cJ2, 60, .inr (.inl g2))), (n3, .inl (cJ3, 60, .inr (.inl o0_95)))]) [0, 1, 2, 3, 4, 5, 6, 7, 8, 9] rfl
          have hD9 := hD.sub (ws' := [(h0, .inr (7, [.ref tp, .ref sc, .ref rd, .ref cu, .ref im, .ref ig, .ref sl, .ref se, .ref sm, .ref fc])), (sl, .inl (cS, 4, .inr (.inr (.inr (.inr (sf4 s0 s1 s2 s3)))))), (s0, .inr (2, [.int wd0, .int rz0, .ref n0])), (s1, .inr (2, [.int wd1, .int rz1, .ref n1])), (s2, .inr (2, [.int wd2, .int rz2, .ref n2])), (s3, .inr (2, [.int wd3, .int rz3, .ref n3])), (n0, .inl (cJ0, 60, .inr (.inl g0))), (n1, .inl (cJ1, 60, .inr (.inl g1))), (n2, .inl (cJ2, 60, .inr (.inl g2))), (n3, .inl (cJ3, 60, .inr (.inl o0_95)))]) [0, 1, 2, 3, 4, 5, 6, 7, 8, 9] (by decide) rfl
          have hK9 := hK.sub (tys' := [(cS, .object RX3), (cJ0, .long), (cJ1, .long), (cJ2, .long), (cJ3, .long)]) [0, 1, 2, 3, 4] rfl
          exact W.iret (v := 0) hx hb hr (fun t ht hW => ⟨⟨0, (), rfl, ⟨(rg_w (by decide : (0 : Int) ≤ (0 : Int32).toInt ∧ (0 : Int32).toInt ≤ 0) (by decide) (by decide)), (wr_0 (j := 3) (by decide) (by decide) (by have q3 := hg9_3; unfold RG at q3; omega) (by have q3 := hg9_3; unfold RG at q3; omega))⟩, g0, g1, g2, o0_95, by rw [ht]; exact hP9, va_K.moved hW.alike hK9, hD9⟩, hS.F ht⟩) hS.2.2 dX9_write_51
        ·
          have n_c_91 : (r_90.toInt : Int) = 0 := c_eq rfl (by decide) c_91
          have b_r_90 : (0 : Int) ≤ r_90.toInt ∧ r_90.toInt ≤ 0 := r_eq1 b_r_90 (by decide : (0 : Int) ≤ (0 : Int32).toInt ∧ (0 : Int32).toInt ≤ 0) n_c_91 (by decide)
          have g_96 := zz_r_90 c_91
          have lt0_g_96 := (by decide : (1 : Int32).toInt = 1)
          refine lv_bipush (v := (-7)) hx hb dX9_write_40 (by decide) ?_
          have hP9 := hP.sub (ws' := [(h0, .inr (7, [.ref tp, .ref sc, .ref rd, .ref cu, .ref im, .ref ig, .ref sl, .ref se, .ref sm, .ref fc])), (sl, .inl (cS, 4, .inr (.inr (.inr (.inr (sf4 s0 s1 s2 s3)))))), (s0, .inr (2, [.int wd0, .int rz0, .ref n0])), (s1, .inr (2, [.int wd1, .int rz1, .ref n1])), (s2, .inr (2, [.int wd2, .int rz2, .ref n2])), (s3, .inr (2, [.int wd3, .int rz3, .ref n3])), (n0, .inl (cJ0, 60, .inr (.inl g0))), (n1, .inl (cJ1, 60, .inr (.inl g1))), (n2, .inl (cJ2, 60, .inr (.inl g2))), (n3, .inl (cJ3, 60, .inr (.inl g3)))]) [0, 1, 2, 3, 4, 5, 6, 7, 8, 9] rfl
          have hD9 := hD.sub (ws' := [(h0, .inr (7, [.ref tp, .ref sc, .ref rd, .ref cu, .ref im, .ref ig, .ref sl, .ref se, .ref sm, .ref fc])), (sl, .inl (cS, 4, .inr (.inr (.inr (.inr (sf4 s0 s1 s2 s3)))))), (s0, .inr (2, [.int wd0, .int rz0, .ref n0])), (s1, .inr (2, [.int wd1, .int rz1, .ref n1])), (s2, .inr (2, [.int wd2, .int rz2, .ref n2])), (s3, .inr (2, [.int wd3, .int rz3, .ref n3])), (n0, .inl (cJ0, 60, .inr (.inl g0))), (n1, .inl (cJ1, 60, .inr (.inl g1))), (n2, .inl (cJ2, 60, .inr (.inl g2))), (n3, .inl (cJ3, 60, .inr (.inl g3)))]) [0, 1, 2, 3, 4, 5, 6, 7, 8, 9] (by decide) rfl
          have hK9 := hK.sub (tys' := [(cS, .object RX3), (cJ0, .long), (cJ1, .long), (cJ2, .long), (cJ3, .long)]) [0, 1, 2, 3, 4] rfl
          exact W.iret (v := (-7)) hx hb hr (fun t ht hW => ⟨⟨(-7), (), rfl, ⟨(rg_w (by decide : (-7 : Int) ≤ ((-7) : Int32).toInt ∧ ((-7) : Int32).toInt ≤ -7) (by decide) (by decide)), (wr_7 (j := 3) (by decide) (by decide) (by have q3 := hg9_3; unfold RG at q3; omega) (by have q3 := hg9_3; unfold RG at q3; omega))⟩, g0, g1, g2, g3, by rw [ht]; exact hP9, va_K.moved hW.alike hK9, hD9⟩, hS.F ht⟩) hS.2.2 dX9_write_42
      ·
        have n_c_88 : (r_87.toInt : Int) = 0 := c_eq rfl (by decide) c_88
        have b_r_87 : (0 : Int) ≤ r_87.toInt ∧ r_87.toInt ≤ 0 := r_eq1 b_r_87 (by decide : (0 : Int) ≤ (0 : Int32).toInt ∧ (0 : Int32).toInt ≤ 0) n_c_88 (by decide)
        have g_97 := zz_r_87 c_88
        refine lv_bipush (v := (-6)) hx hb dX9_write_27 (by decide) ?_
        have hP9 := hP.sub (ws' := [(h0, .inr (7, [.ref tp, .ref sc, .ref rd, .ref cu, .ref im, .ref ig, .ref sl, .ref se, .ref sm, .ref fc])), (sl, .inl (cS, 4, .inr (.inr (.inr (.inr (sf4 s0 s1 s2 s3)))))), (s0, .inr (2, [.int wd0, .int rz0, .ref n0])), (s1, .inr (2, [.int wd1, .int rz1, .ref n1])), (s2, .inr (2, [.int wd2, .int rz2, .ref n2])), (s3, .inr (2, [.int wd3, .int rz3, .ref n3])), (n0, .inl (cJ0, 60, .inr (.inl g0))), (n1, .inl (cJ1, 60, .inr (.inl g1))), (n2, .inl (cJ2, 60, .inr (.inl g2))), (n3, .inl (cJ3, 60, .inr (.inl g3)))]) [0, 1, 2, 3, 4, 5, 6, 7, 8, 9] rfl
        have hD9 := hD.sub (ws' := [(h0, .inr (7, [.ref tp, .ref sc, .ref rd, .ref cu, .ref im, .ref ig, .ref sl, .ref se, .ref sm, .ref fc])), (sl, .inl (cS, 4, .inr (.inr (.inr (.inr (sf4 s0 s1 s2 s3)))))), (s0, .inr (2, [.int wd0, .int rz0, .ref n0])), (s1, .inr (2, [.int wd1, .int rz1, .ref n1])), (s2, .inr (2, [.int wd2, .int rz2, .ref n2])), (s3, .inr (2, [.int wd3, .int rz3, .ref n3])), (n0, .inl (cJ0, 60, .inr (.inl g0))), (n1, .inl (cJ1, 60, .inr (.inl g1))), (n2, .inl (cJ2, 60, .inr (.inl g2))), (n3, .inl (cJ3, 60, .inr (.inl g3)))]) [0, 1, 2, 3, 4, 5, 6, 7, 8, 9] (by decide) rfl
        have hK9 := hK.sub (tys' := [(cS, .object RX3), (cJ0, .long), (cJ1, .long), (cJ2, .long), (cJ3, .long)]) [0, 1, 2, 3, 4] rfl
        exact W.iret (v := (-6)) hx hb hr (fun t ht hW => ⟨⟨(-6), (), rfl, ⟨(rg_w (by decide : (-6 : Int) ≤ ((-6) : Int32).toInt ∧ ((-6) : Int32).toInt ≤ -6) (by decide) (by decide)), (wr_6 (j := 3) (by decide) (by decide) (by have q3 := hg9_3; unfold RG at q3; omega))⟩, g0, g1, g2, g3, by rw [ht]; exact hP9, va_K.moved hW.alike hK9, hD9⟩, hS.F ht⟩) hS.2.2 dX9_write_29
  ·
    have n_c_51 : (r_50.toInt : Int) = 0 := c_eq rfl (by decide) c_51
    have b_r_50 : (0 : Int) ≤ r_50.toInt ∧ r_50.toInt ≤ 0 := r_eq1 b_r_50 (by decide : (0 : Int) ≤ (0 : Int32).toInt ∧ (0 : Int32).toInt ≤ 0) n_c_51 (by decide)
    have g_98 := zz_r_50 c_51
    refine lv_bipush (v := (-2)) hx hb dX9_write_8 (by decide) ?_
    have hP9 := hP.sub (ws' := [(h0, .inr (7, [.ref tp, .ref sc, .ref rd, .ref cu, .ref im, .ref ig, .ref sl, .ref se, .ref sm, .ref fc])), (sl, .inl (cS, 4, .inr (.inr (.inr (.inr (sf4 s0 s1 s2 s3)))))), (s0, .inr (2, [.int wd0, .int rz0, .ref n0])), (s1, .inr (2, [.int wd1, .int rz1, .ref n1])), (s2, .inr (2, [.int wd2, .int rz2, .ref n2])), (s3, .inr (2, [.int wd3, .int rz3, .ref n3])), (n0, .inl (cJ0, 60, .inr (.inl g0))), (n1, .inl (cJ1, 60, .inr (.inl g1))), (n2, .inl (cJ2, 60, .inr (.inl g2))), (n3, .inl (cJ3, 60, .inr (.inl g3)))]) [0, 1, 2, 3, 4, 5, 6, 7, 8, 9] rfl
    have hD9 := hD.sub (ws' := [(h0, .inr (7, [.ref tp, .ref sc, .ref rd, .ref cu, .ref im, .ref ig, .ref sl, .ref se, .ref sm, .ref fc])), (sl, .inl (cS, 4, .inr (.inr (.inr (.inr (sf4 s0 s1 s2 s3)))))), (s0, .inr (2, [.int wd0, .int rz0, .ref n0])), (s1, .inr (2, [.int wd1, .int rz1, .ref n1])), (s2, .inr (2, [.int wd2, .int rz2, .ref n2])), (s3, .inr (2, [.int wd3, .int rz3, .ref n3])), (n0, .inl (cJ0, 60, .inr (.inl g0))), (n1, .inl (cJ1, 60, .inr (.inl g1))), (n2, .inl (cJ2, 60, .inr (.inl g2))), (n3, .inl (cJ3, 60, .inr (.inl g3)))]) [0, 1, 2, 3, 4, 5, 6, 7, 8, 9] (by decide) rfl
    have hK9 := hK.sub (tys' := [(cS, .object RX3), (cJ0, .long), (cJ1, .long), (cJ2, .long), (cJ3, .long)]) [0, 1, 2, 3, 4] rfl
    exact W.iret (v := (-2)) hx hb hr (fun t ht hW => ⟨⟨(-2), (), rfl, ⟨(rg_w (by decide : (-2 : Int) ≤ ((-2) : Int32).toInt ∧ ((-2) : Int32).toInt ≤ -2) (by decide) (by decide)), (wr_2 (by omega))⟩, g0, g1, g2, g3, by rw [ht]; exact hP9, va_K.moved hW.alike hK9, hD9⟩, hS.F ht⟩) hS.2.2 dX9_write_10
def uX10_writeF : List Cond := List.cons (.code yX10_write cX10_write 5 (some .int)) (HAppend.hAppend ([.methodLink RX10 369 yX10_isSlot, .static yX10_isSlot, .initialized RX10, .fieldLink RX10 65 "LuckyTicketModel" "many" "[I", .methodLink RX10 82 yX10_in, .static yX10_in, .fieldLink RX10 71 "LuckyTicketModel" "numbers" "[J", .fieldLink RX10 68 "LuckyTicketModel" "width" "[I", .methodLink RX10 467 yX10_cut, .static yX10_cut] : List Cond) (HAppend.hAppend uX10_isSlot2 (HAppend.hAppend uX10_in6 (HAppend.hAppend uX10_cut wsX100))))
theorem iX10_writeF_X10 : ∀ w ∈ wsX100, w ∈ uX10_writeF := fun _ h => (List.mem_cons_of_mem _ (List.mem_append_right _ (List.mem_append_right _ (List.mem_append_right _ (List.mem_append_right _ h)))))
theorem guX10_writeF : GU uX10_writeF := gu_cons (gu_app (by decide +kernel) (gu_ap guX10_isSlot2 (gu_ap guX10_in6 (gu_ap guX10_cut gws_X10))))
theorem gX10_writeF__X10_isSlot2_S369 : GoodIn uX10_writeF (va_wsS RX10 369 yX10_isSlot uX10_isSlot2) := gin_S (List.mem_of_getElem? (i := 1) rfl) (List.mem_of_getElem? (i := 2) rfl) (List.mem_of_getElem? (i := 3) rfl) (fun _ h => (List.mem_cons_of_mem _ (List.mem_append_right _ (List.mem_append_left _ h)))) guX10_isSlot2
theorem gX10_writeF__X10_in6_S82 : GoodIn uX10_writeF (va_wsS RX10 82 yX10_in uX10_in6) := gin_S (List.mem_of_getElem? (i := 5) rfl) (List.mem_of_getElem? (i := 6) rfl) (List.mem_of_getElem? (i := 3) rfl) (fun _ h => (List.mem_cons_of_mem _ (List.mem_append_right _ (List.mem_append_right _ (List.mem_append_left _ h))))) guX10_in6
theorem gX10_writeF__X10_cut_S467 : GoodIn uX10_writeF (va_wsS RX10 467 yX10_cut uX10_cut) := gin_S (List.mem_of_getElem? (i := 9) rfl) (List.mem_of_getElem? (i := 10) rfl) (List.mem_of_getElem? (i := 3) rfl) (fun _ h => (List.mem_cons_of_mem _ (List.mem_append_right _ (List.mem_append_right _ (List.mem_append_right _ (List.mem_append_left _ h)))))) guX10_cut
set_option maxHeartbeats 4000000 in
set_option maxRecDepth 100000 in
theorem kX10_writeF (l : Launch) (dC : Nat → ClassId) (dI : Nat → Nat → Nat) (o0 : Nat) (x_th : Int32) (mwo : Nat) (mim : Nat) (mhi : Nat) (mlu : Nat) (mtp : Nat) (x_td : Int32) (mfv : Nat) (x_sz : Int32) (x_at : Int32) (x_fr : Int32) (x_to : Int32) (x_va : Int32) (x_fk : Int32) (x_fp : Int32) (mfr : Nat) (mwt : Nat) (x_wt : Int32) (x_op : Int32) (x_jo : Int32) (mfg : Nat) (mpl : Nat) (x_dr : Int64) (mtm : Nat) (mfa : Nat) (mqu : Nat) (mmo : Nat) (mwy : Nat) (mwn : Nat) (mma : Nat) (mwi : Nat) (mnu : Nat) (mmv : Nat) (c_ma : ClassId) (c_wi : ClassId) (c_nu : ClassId) (w_ma : Nat → Int32) (w_wi : Nat → Int32) (w_nu : Nat → Int64) (gh : Nat → Int32) (a1 : Int32) (a2 : Int32) (a3 : Int64) (sz : Nat) (ha_mma : rg w_ma 4 (-1) 60) (ha_mwi : rg w_wi 4 0 3) (hgR9 : GR gh w_ma w_wi) : Met l yX10_write uX10_writeF ({ frames := 2, cells := 0, slots := 0, locals := 45 }) (va_Pc [.ref o0, .int a1, .int a2, .long a3] (hw (dC, dI) vwCl [(o0, .inr (8, [.int x_th, .ref mwo, .ref mim, .ref mhi, .ref mlu, .ref mtp, .int x_td, .ref mfv, .int x_sz, .int x_at, .int x_fr, .int x_to, .int x_va, .int x_fk, .int x_fp, .ref mfr, .ref mwt, .int x_wt, .int x_op, .int x_jo, .ref mfg, .ref mpl, .long x_dr, .ref mtm, .ref mfa, .ref mqu, .ref mmo, .ref mwy, .ref mwn, .ref mma, .ref mwi, .ref mnu, .ref mmv])), (mma, .inl (c_ma, 4, .inl w_ma)), (mwi, .inl (c_wi, 4, .inl w_wi)), (mnu, .inl (c_nu, 240, .inr (.inl w_nu)))] [(c_ma, .int), (c_wi, .int), (c_nu, .long)] sz)) (va_Qi (fun (r : Int32) (_ : Unit) => ((-7 : Int) ≤ r.toInt ∧ r.toInt ≤ 0) ∧ (r = wrA gh a1 a2)) (fun (_ : Unit) t => ∃ (o0_ : Nat → Int64), va_P (dC, dI) vwCl [(o0, .inr (8, [.int x_th, .ref mwo, .ref mim, .ref mhi, .ref mlu, .ref mtp, .int x_td, .ref mfv, .int x_sz, .int x_at, .int x_fr, .int x_to, .int x_va, .int x_fk, .int x_fp, .ref mfr, .ref mwt, .int x_wt, .int x_op, .int x_jo, .ref mfg, .ref mpl, .long x_dr, .ref mtm, .ref mfa, .ref mqu, .ref mmo, .ref mwy, .ref mwn, .ref mma, .ref mwi, .ref mnu, .ref mmv])), (mma, .inl (c_ma, 4, .inl w_ma)), (mwi, .inl (c_wi, 4, .inl w_wi)), (mnu, .inl (c_nu, 240, .inr (.inl o0_)))] t.heap ∧ va_K (dC, dI) vwCl [(c_ma, .int), (c_wi, .int), (c_nu, .long)] t ∧ va_D (va_A [(o0, .inr (8, [.int x_th, .ref mwo, .ref mim, .ref mhi, .ref mlu, .ref mtp, .int x_td, .ref mfv, .int x_sz, .int x_at, .int x_fr, .int x_to, .int x_va, .int x_fk, .int x_fp, .ref mfr, .ref mwt, .int x_wt, .int x_op, .int x_jo, .ref mfg, .ref mpl, .long x_dr, .ref mtm, .ref mfa, .ref mqu, .ref mmo, .ref mwy, .ref mwn, .ref mma, .ref mwi, .ref mnu, .ref mmv])), (mma, .inl (c_ma, 4, .inl w_ma)), (mwi, .inl (c_wi, 4, .inl w_wi)), (mnu, .inl (c_nu, 240, .inr (.inl w_nu)))] sz) [(o0, .inr (8, [.int x_th, .ref mwo, .ref mim, .ref mhi, .ref mlu, .ref mtp, .int x_td, .ref mfv, .int x_sz, .int x_at, .int x_fr, .int x_to, .int x_va, .int x_fk, .int x_fp, .ref mfr, .ref mwt, .int x_wt, .int x_op, .int x_jo, .ref mfg, .ref mpl, .long x_dr, .ref mtm, .ref mfa, .ref mqu, .ref mmo, .ref mwy, .ref mwn, .ref mma, .ref mwi, .ref mnu, .ref mmv])), (mma, .inl (c_ma, 4, .inl w_ma)), (mwi, .inl (c_wi, 4, .inl w_wi)), (mnu, .inl (c_nu, 240, .inr (.inl o0_)))]) (va_A [(o0, .inr (8, [.int x_th, .ref mwo, .ref mim, .ref mhi, .ref mlu, .ref mtp, .int x_td, .ref mfv, .int x_sz, .int x_at, .int x_fr, .int x_to, .int x_va, .int x_fk, .int x_fp, .ref mfr, .ref mwt, .int x_wt, .int x_op, .int x_jo, .ref mfg, .ref mpl, .long x_dr, .ref mtm, .ref mfa, .ref mqu, .ref mmo, .ref mwy, .ref mwn, .ref mma, .ref mwi, .ref mnu, .ref mmv])), (mma, .inl (c_ma, 4, .inl w_ma)), (mwi, .inl (c_wi, 4, .inl w_wi)), (mnu, .inl (c_nu, 240, .inr (.inl w_nu)))] sz)) 0 0 (va_A [(o0, .inr (8, [.int x_th, .ref mwo, .ref mim, .ref mhi, .ref mlu, .ref mtp, .int x_td, .ref mfv, .int x_sz, .int x_at, .int x_fr, .int x_to, .int x_va, .int x_fk, .int x_fp, .ref mfr, .ref mwt, .int x_wt, .int x_op, .int x_jo, .ref mfg, .ref mpl, .long x_dr, .ref mtm, .ref mfa, .ref mqu, .ref mmo, .ref mwy, .ref mwn, .ref mma, .ref mwi, .ref mnu, .ref mmv])), (mma, .inl (c_ma, 4, .inl w_ma)), (mwi, .inl (c_wi, 4, .inl w_wi)), (mnu, .inl (c_nu, 240, .inr (.inl w_nu)))] sz) := by
  refine Met.ofW (cc := cX10_write) (maxL := 5) (ret := (some .int)) pn_X10 rfl ?_
  intro p e s m args below meth c s₁ B hml hv
  obtain ⟨rfl, hsz, hP, hK, hD0, hN⟩ := hv
  have hx := B.exec
  have hb := B.bytes
  have hr := B.returns
  have hts := atoms_spec (ws := uX10_writeF) B.pre
  have hown : s.vm.findClass RX10 = some m.cls := hown_of B.named rfl
  have hlocks := B.notSynchronized
  subst hsz
  have hD := hD0.self (sz := s.heap.size)
  generalize hAe : va_A [(o0, .inr (8, [.int x_th, .ref mwo, .ref mim, .ref mhi, .ref mlu, .ref mtp, .int x_td, .ref mfv, .int x_sz, .int x_at, .int x_fr, .int x_to, .int x_va, .int x_fk, .int x_fp, .ref mfr, .ref mwt, .int x_wt, .int x_op, .int x_jo, .ref mfg, .ref mpl, .long x_dr, .ref mtm, .ref mfa, .ref mqu, .ref mmo, .ref mwy, .ref mwn, .ref mma, .ref mwi, .ref mnu, .ref mmv])), (mma, .inl (c_ma, 4, .inl w_ma)), (mwi, .inl (c_wi, 4, .inl w_wi)), (mnu, .inl (c_nu, 240, .inr (.inl w_nu)))] s.heap.size = A at hD ⊢
  have hA : ∀ q : Nat, s.heap.size ≤ q → A q := fun q h => by rw [← hAe]; exact Or.inr h
  have hS : va_S A s.heap s.heap [] := va_S.rf
  have hP : va_P (dC, dI) vwCl [(o0, .inr (8, [.int x_th, .ref mwo, .ref mim, .ref mhi, .ref mlu, .ref mtp, .int x_td, .ref mfv, .int x_sz, .int x_at, .int x_fr, .int x_to, .int x_va, .int x_fk, .int x_fp, .ref mfr, .ref mwt, .int x_wt, .int x_op, .int x_jo, .ref mfg, .ref mpl, .long x_dr, .ref mtm, .ref mfa, .ref mqu, .ref mmo, .ref mwy, .ref mwn, .ref mma, .ref mwi, .ref mnu, .ref mmv])), (mma, .inl (c_ma, 4, .inl w_ma)), (mwi, .inl (c_wi, 4, .inl w_wi)), (mnu, .inl (c_nu, 240, .inr (.inl w_nu)))] s.heap := hP
  have hl := lv_entry ([.ref o0, .int a1, .int a2, .long a3]) (n := 5) (Nat.le_of_ble_eq_true rfl)
  rw [lg_entry_eq]
  generalize (lg_sl ([.ref o0, .int a1, .int a2, .long a3]) ++ List.replicate (5 - (lg_sl ([.ref o0, .int a1, .int a2, .long a3])).length) Slot.unset).toArray = ls at hl ⊢
  have hl : lv_has ls 5 [(0, .ref o0), (1, .int a1), (2, .int a2), (3, .long a3)] := hl
  refine lv_iload_n hx hb dX10_write_0 rfl (lv_at hl 1 rfl) ?_
  refine vp_callSi (W.runS (As := [.int a1]) (rest := []) ⟨hx, hb, hml, hown, hts⟩ (kX10_isSlot2 l dC dI a1 ) (va_cwS 1 hts gX10_writeF__X10_isSlot2_S369 rfl rfl rfl hd_yX10_isSlot.2 ⟨lel 2 2 rfl, lel 45 45 rfl⟩) ⟨pn_fb, pn_use⟩ rfl rfl hl.1 rfl (lv_room (Nat.le_of_ble_eq_true rfl)) dX10_write_1 ⟨lel 0 0 rfl, lel 0 0 rfl⟩) (fun r_20 h_r_20 => ?_)
  obtain ⟨b_r_20, nz_r_20, zz_r_20⟩ := h_r_20
  have b_r_20 : (0 : Int) ≤ r_20.toInt ∧ r_20.toInt ≤ 1 := b_r_20
  refine lv_if_ne (tgt := 10) hx hb dX10_write_4 (by decide) (fun c_21 => ?_) (fun c_21 => ?_)
  ·
    have n_c_21 : (r_20.toInt : Int) ≠ 0 := c_ne rfl (by decide) c_21
    have b_r_20 : (1 : Int) ≤ r_20.toInt ∧ r_20.toInt ≤ 1 := r_ne1 b_r_20 (by decide : (0 : Int) ≤ (0 : Int32).toInt ∧ (0 : Int32).toInt ≤ 0) n_c_21 (by decide)
    obtain ⟨b_a1, g_22⟩ := nz_r_20 c_21
    refine lv_aload_n hx hb dX10_write_10 rfl (lv_at hl 0 rfl) ?_
    refine va_get (D := (dC, dI)) (ci := 8) (v := .ref mma) (C := RX10) (T := TX10) (N := 33) hx hb hts iX10_writeF_X10 hown hK hP 0 rfl rfl 29 (by decide) (hts (.fieldLink RX10 65 "LuckyTicketModel" "many" "[I") (List.mem_of_getElem? (i := 4) rfl)) (fun _ h9 => h9) rfl dX10_write_11 ?_
    refine lv_iload_n hx hb dX10_write_14 rfl (lv_at hl 1 rfl) ?_
    refine va_iald hx hb hK hP 1 0 rfl rfl (vp_in_b b_a1 (by decide) (by decide)) dX10_write_15 ?_
    refine lv_topi (fun z_23 e_z_23 => ?_)
    have b_z_23 : (-1 : Int) ≤ z_23.toInt ∧ z_23.toInt ≤ 60 := rg_at ha_mma (vp_in_b b_a1 (by decide) (by decide)) e_z_23
    have hz_z_23 := gr_f hgR9 (show 0 ≤ a1.toInt ∧ a1.toInt ≤ 3 from ⟨by omega, by omega⟩) e_z_23
    refine lv_iconst (v := (-1)) hx hb dX10_write_16 (by decide) ?_
    refine lv_icmp_ne (tgt := 23) hx hb dX10_write_17 (by decide) (fun c_24 => ?_) (fun c_24 => ?_)
    ·
      have n_c_24 : (z_23.toInt : Int) ≠ (-1) := c_ne rfl (by decide) c_24
      have b_z_23 : (0 : Int) ≤ z_23.toInt ∧ z_23.toInt ≤ 60 := r_ne1 b_z_23 (by decide : (-1 : Int) ≤ ((-1) : Int32).toInt ∧ ((-1) : Int32).toInt ≤ -1) n_c_24 (by decide)
      refine lv_iload_n hx hb dX10_write_23 rfl (lv_at hl 2 rfl) ?_
      obtain ⟨z_25, e_z_25⟩ : ∃ y : Int64, y = a2.toInt64 := ⟨_, rfl⟩
      refine lv_i2l (v := z_25) hx hb dX10_write_24 e_z_25.symm ?_
      obtain ⟨q_z_25, b_z_25⟩ := ti_i2l e_z_25 (ti_rng a2)
      refine lv_lconst (v := 0) hx hb dX10_write_25 (by decide) ?_
      refine lv_aload_n hx hb dX10_write_26 rfl (lv_at hl 0 rfl) ?_
      refine va_get (D := (dC, dI)) (ci := 8) (v := .ref mma) (C := RX10) (T := TX10) (N := 33) hx hb hts iX10_writeF_X10 hown hK hP 0 rfl rfl 29 (by decide) (hts (.fieldLink RX10 65 "LuckyTicketModel" "many" "[I") (List.mem_of_getElem? (i := 4) rfl)) (fun _ h9 => h9) rfl dX10_write_27 ?_
      refine lv_iload_n hx hb dX10_write_30 rfl (lv_at hl 1 rfl) ?_
      refine va_iald hx hb hK hP 1 0 rfl rfl (vp_in_b b_a1 (by decide) (by decide)) dX10_write_31 ?_
      refine lv_topi (fun z_26 e_z_26 => ?_)
      have b_z_26 : (-1 : Int) ≤ z_26.toInt ∧ z_26.toInt ≤ 60 := rg_at ha_mma (vp_in_b b_a1 (by decide) (by decide)) e_z_26
      have hz_z_26 := gr_f hgR9 (show 0 ≤ a1.toInt ∧ a1.toInt ≤ 3 from ⟨by omega, by omega⟩) e_z_26
      refine lv_iconst (v := 1) hx hb dX10_write_32 (by decide) ?_
      refine lv_isub hx hb dX10_write_33 ?_
      refine lv_topi (fun z_27 e_z_27 => ?_)
      obtain ⟨q_z_27, b_z_27⟩ := ti_sub (lo := -2) (hi := 59) e_z_27 rfl (by decide : (1 : Int32).toInt = 1) b_z_26 (by decide : (1 : Int) ≤ (1 : Int32).toInt ∧ (1 : Int32).toInt ≤ 1) (by decide)
      obtain ⟨z_28, e_z_28⟩ : ∃ y : Int64, y = z_27.toInt64 := ⟨_, rfl⟩
      refine lv_i2l (v := z_28) hx hb dX10_write_34 e_z_28.symm ?_
      obtain ⟨q_z_28, b_z_28⟩ := ti_i2l e_z_28 b_z_27
      refine vp_callSi (W.runS (As := [.long z_25, .long 0, .long z_28]) (rest := []) ⟨hx, hb, hml, hown, hts⟩ (kX10_in6 l dC dI z_25 0 z_28 ) (va_cwS 3 hts gX10_writeF__X10_in6_S82 rfl rfl rfl hd_yX10_in.2 ⟨lel 1 2 rfl, lel 25 45 rfl⟩) ⟨pn_fb, pn_use⟩ rfl rfl hl.1 rfl (lv_room (Nat.le_of_ble_eq_true rfl)) dX10_write_35 ⟨lel 0 0 rfl, lel 0 0 rfl⟩) (fun r_29 h_r_29 => ?_)
      obtain ⟨b_r_29, nz_r_29, zz_r_29⟩ := h_r_29
      have b_r_29 : (0 : Int) ≤ r_29.toInt ∧ r_29.toInt ≤ 1 := b_r_29
      refine lv_if_ne (tgt := 44) hx hb dX10_write_38 (by decide) (fun c_30 => ?_) (fun c_30 => ?_)
      ·
        have n_c_30 : (r_29.toInt : Int) ≠ 0 := c_ne rfl (by decide) c_30
        have b_r_29 : (1 : Int) ≤ r_29.toInt ∧ r_29.toInt ≤ 1 := r_ne1 b_r_29 (by decide : (0 : Int) ≤ (0 : Int32).toInt ∧ (0 : Int32).toInt ≤ 0) n_c_30 (by decide)
        have g_31 := nz_r_29 c_30
        have lt0_g_31 := (by decide : (0 : Int64).toInt = 0)
        have b_z_25 : (0 : Int) ≤ z_25.toInt ∧ z_25.toInt ≤ 59 := by
          have q0 := b_z_25
          have q1 := (by decide : (0 : Int) ≤ (0 : Int64).toInt ∧ (0 : Int64).toInt ≤ 0)
          have q2 := b_z_28
          omega
        have b_a2 : (0 : Int) ≤ a2.toInt ∧ a2.toInt ≤ 59 := by
          have q0 := b_z_25; have q1 := q_z_25; have q2 := (ti_rng a2); omega
        refine lv_aload_n hx hb dX10_write_44 rfl (lv_at hl 0 rfl) ?_
        refine va_get (D := (dC, dI)) (ci := 8) (v := .ref mnu) (C := RX10) (T := TX10) (N := 33) hx hb hts iX10_writeF_X10 hown hK hP 0 rfl rfl 31 (by decide) (hts (.fieldLink RX10 71 "LuckyTicketModel" "numbers" "[J") (List.mem_of_getElem? (i := 7) rfl)) (fun _ h9 => h9) rfl dX10_write_45 ?_
        refine lv_bipush (v := 60) hx hb dX10_write_48 (by decide) ?_
        refine lv_iload_n hx hb dX10_write_50 rfl (lv_at hl 1 rfl) ?_
        refine lv_imul hx hb dX10_write_51 ?_
        refine lv_topi (fun z_32 e_z_32 => ?_)
        obtain ⟨q_z_32, b_z_32⟩ := ti_mul (lo := 0) (hi := 180) e_z_32 (by decide : (60 : Int32).toInt = 60) rfl (by decide : (60 : Int) ≤ (60 : Int32).toInt ∧ (60 : Int32).toInt ≤ 60) b_a1 (by decide)
        refine lv_iload_n hx hb dX10_write_52 rfl (lv_at hl 2 rfl) ?_
        refine lv_iadd hx hb dX10_write_53 ?_
        refine lv_topi (fun z_33 e_z_33 => ?_)
        obtain ⟨q_z_33, b_z_33⟩ := ti_add (lo := 0) (hi := 239) e_z_33 rfl rfl b_z_32 b_a2 (by decide)
        refine lv_lload_n hx hb dX10_write_54 rfl (lv_at hl 3 rfl) ?_
        refine lv_aload_n hx hb dX10_write_55 rfl (lv_at hl 0 rfl) ?_
        refine va_get (D := (dC, dI)) (ci := 8) (v := .ref mwi) (C := RX10) (T := TX10) (N := 33) hx hb hts iX10_writeF_X10 hown hK hP 0 rfl rfl 30 (by decide) (hts (.fieldLink RX10 68 "LuckyTicketModel" "width" "[I") (List.mem_of_getElem? (i := 8) rfl)) (fun _ h9 => h9) rfl dX10_write_56 ?_
        refine lv_iload_n hx hb dX10_write_59 rfl (lv_at hl 1 rfl) ?_
        refine va_iald hx hb hK hP 2 1 rfl rfl (vp_in_b b_a1 (by decide) (by decide)) dX10_write_60 ?_
        refine lv_topi (fun z_34 e_z_34 => ?_)
        have b_z_34 : (0 : Int) ≤ z_34.toInt ∧ z_34.toInt ≤ 3 := rg_at ha_mwi (vp_in_b b_a1 (by decide) (by decide)) e_z_34
        refine vp_callSl (W.runS (As := [.long a3, .int z_34]) (rest := [.int z_33, .ref mnu]) ⟨hx, hb, hml, hown, hts⟩ (kX10_cut l dC dI a3 z_34 ) (va_cwS 2 hts gX10_writeF__X10_cut_S467 rfl rfl rfl hd_yX10_cut.2 ⟨lel 1 2 rfl, lel 23 45 rfl⟩) ⟨pn_fb, pn_use⟩ rfl rfl hl.1 rfl (lv_room (Nat.le_of_ble_eq_true rfl)) dX10_write_61 ⟨lel 0 0 rfl, lel 0 0 rfl⟩) (fun r_35 h_r_35 => ?_)
        refine va_last hx hb hK hP hD hS 3 2 rfl rfl (vp_in_b b_z_33 (by decide) (by decide)) dX10_write_64 (fun H locs hP hD hS => ?_)
        have hP : va_P (dC, dI) vwCl [(o0, .inr (8, [.int x_th, .ref mwo, .ref mim, .ref mhi, .ref mlu, .ref mtp, .int x_td, .ref mfv, .int x_sz, .int x_at, .int x_fr, .int x_to, .int x_va, .int x_fk, .int x_fp, .ref mfr, .ref mwt, .int x_wt, .int x_op, .int x_jo, .ref mfg, .ref mpl, .long x_dr, .ref mtm, .ref mfa, .ref mqu, .ref mmo, .ref mwy, .ref mwn, .ref mma, .ref mwi, .ref mnu, .ref mmv])), (mma, .inl (c_ma, 4, .inl w_ma)), (mwi, .inl (c_wi, 4, .inl w_wi)), (mnu, .inl (c_nu, 240, .inr (.inl (vp_updL w_nu (z_33 : Int32).toNatClampNeg r_35))))] H := hP
        have hD : va_D A [(o0, .inr (8, [.int x_th, .ref mwo, .ref mim, .ref mhi, .ref mlu, .ref mtp, .int x_td, .ref mfv, .int x_sz, .int x_at, .int x_fr, .int x_to, .int x_va, .int x_fk, .int x_fp, .ref mfr, .ref mwt, .int x_wt, .int x_op, .int x_jo, .ref mfg, .ref mpl, .long x_dr, .ref mtm, .ref mfa, .ref mqu, .ref mmo, .ref mwy, .ref mwn, .ref mma, .ref mwi, .ref mnu, .ref mmv])), (mma, .inl (c_ma, 4, .inl w_ma)), (mwi, .inl (c_wi, 4, .inl w_wi)), (mnu, .inl (c_nu, 240, .inr (.inl (vp_updL w_nu (z_33 : Int32).toNatClampNeg r_35))))] := hD
        generalize (vp_updL w_nu (z_33 : Int32).toNatClampNeg r_35) = f_36 at hP hD
        have hP : va_P (dC, dI) vwCl [(o0, .inr (8, [.int x_th, .ref mwo, .ref mim, .ref mhi, .ref mlu, .ref mtp, .int x_td, .ref mfv, .int x_sz, .int x_at, .int x_fr, .int x_to, .int x_va, .int x_fk, .int x_fp, .ref mfr, .ref mwt, .int x_wt, .int x_op, .int x_jo, .ref mfg, .ref mpl, .long x_dr, .ref mtm, .ref mfa, .ref mqu, .ref mmo, .ref mwy, .ref mwn, .ref mma, .ref mwi, .ref mnu, .ref mmv])), (mma, .inl (c_ma, 4, .inl w_ma)), (mwi, .inl (c_wi, 4, .inl w_wi)), (mnu, .inl (c_nu, 240, .inr (.inl f_36)))] H := hP
        have hD : va_D A [(o0, .inr (8, [.int x_th, .ref mwo, .ref mim, .ref mhi, .ref mlu, .ref mtp, .int x_td, .ref mfv, .int x_sz, .int x_at, .int x_fr, .int x_to, .int x_va, .int x_fk, .int x_fp, .ref mfr, .ref mwt, .int x_wt, .int x_op, .int x_jo, .ref mfg, .ref mpl, .long x_dr, .ref mtm, .ref mfa, .ref mqu, .ref mmo, .ref mwy, .ref mwn, .ref mma, .ref mwi, .ref mnu, .ref mmv])), (mma, .inl (c_ma, 4, .inl w_ma)), (mwi, .inl (c_wi, 4, .inl w_wi)), (mnu, .inl (c_nu, 240, .inr (.inl f_36)))] := hD
        refine lv_iconst (v := 0) hx hb dX10_write_65 (by decide) ?_
        have hP9 := hP.sub (ws' := [(o0, .inr (8, [.int x_th, .ref mwo, .ref mim, .ref mhi, .ref mlu, .ref mtp, .int x_td, .ref mfv, .int x_sz, .int x_at, .int x_fr, .int x_to, .int x_va, .int x_fk, .int x_fp, .ref mfr, .ref mwt, .int x_wt, .int x_op, .int x_jo, .ref mfg, .ref mpl, .long x_dr, .ref mtm, .ref mfa, .ref mqu, .ref mmo, .ref mwy, .ref mwn, .ref mma, .ref mwi, .ref mnu, .ref mmv])), (mma, .inl (c_ma, 4, .inl w_ma)), (mwi, .inl (c_wi, 4, .inl w_wi)), (mnu, .inl (c_nu, 240, .inr (.inl f_36)))]) [0, 1, 2, 3] rfl
        have hD9 := hD.sub (ws' := [(o0, .inr (8, [.int x_th, .ref mwo, .ref mim, .ref mhi, .ref mlu, .ref mtp, .int x_td, .ref mfv, .int x_sz, .int x_at, .int x_fr, .int x_to, .int x_va, .int x_fk, .int x_fp, .ref mfr, .ref mwt, .int x_wt, .int x_op, .int x_jo, .ref mfg, .ref mpl, .long x_dr, .ref mtm, .ref mfa, .ref mqu, .ref mmo, .ref mwy, .ref mwn, .ref mma, .ref mwi, .ref mnu, .ref mmv])), (mma, .inl (c_ma, 4, .inl w_ma)), (mwi, .inl (c_wi, 4, .inl w_wi)), (mnu, .inl (c_nu, 240, .inr (.inl f_36)))]) [0, 1, 2, 3] (by decide) rfl
        have hK9 := hK.sub (tys' := [(c_ma, .int), (c_wi, .int), (c_nu, .long)]) [0, 1, 2] rfl
        exact W.iret (v := 0) hx hb hr (fun t ht hW => ⟨⟨0, (), rfl, ⟨(rg_w (by decide : (0 : Int) ≤ (0 : Int32).toInt ∧ (0 : Int32).toInt ≤ 0) (by decide) (by decide)), (wr_0 (j := a1.toInt.toNat) (by omega) (by omega) (by omega) (by omega))⟩, f_36, by rw [ht]; exact hP9, va_K.moved hW.alike hK9, hD9⟩, hS.F ht⟩) hS.2.2 dX10_write_66
      ·
        have n_c_30 : (r_29.toInt : Int) = 0 := c_eq rfl (by decide) c_30
        have b_r_29 : (0 : Int) ≤ r_29.toInt ∧ r_29.toInt ≤ 0 := r_eq1 b_r_29 (by decide : (0 : Int) ≤ (0 : Int32).toInt ∧ (0 : Int32).toInt ≤ 0) n_c_30 (by decide)
        have g_37 := zz_r_29 c_30
        have lt0_g_37 := (by decide : (0 : Int64).toInt = 0)
        refine lv_bipush (v := (-7)) hx hb dX10_write_41 (by decide) ?_
        have hP9 := hP.sub (ws' := [(o0, .inr (8, [.int x_th, .ref mwo, .ref mim, .ref mhi, .ref mlu, .ref mtp, .int x_td, .ref mfv, .int x_sz, .int x_at, .int x_fr, .int x_to, .int x_va, .int x_fk, .int x_fp, .ref mfr, .ref mwt, .int x_wt, .int x_op, .int x_jo, .ref mfg, .ref mpl, .long x_dr, .ref mtm, .ref mfa, .ref mqu, .ref mmo, .ref mwy, .ref mwn, .ref mma, .ref mwi, .ref mnu, .ref mmv])), (mma, .inl (c_ma, 4, .inl w_ma)), (mwi, .inl (c_wi, 4, .inl w_wi)), (mnu, .inl (c_nu, 240, .inr (.inl w_nu)))]) [0, 1, 2, 3] rfl
        have hD9 := hD.sub (ws' := [(o0, .inr (8, [.int x_th, .ref mwo, .ref mim, .ref mhi, .ref mlu, .ref mtp, .int x_td, .ref mfv, .int x_sz, .int x_at, .int x_fr, .int x_to, .int x_va, .int x_fk, .int x_fp, .ref mfr, .ref mwt, .int x_wt, .int x_op, .int x_jo, .ref mfg, .ref mpl, .long x_dr, .ref mtm, .ref mfa, .ref mqu, .ref mmo, .ref mwy, .ref mwn, .ref mma, .ref mwi, .ref mnu, .ref mmv])), (mma, .inl (c_ma, 4, .inl w_ma)), (mwi, .inl (c_wi, 4, .inl w_wi)), (mnu, .inl (c_nu, 240, .inr (.inl w_nu)))]) [0, 1, 2, 3] (by decide) rfl
        have hK9 := hK.sub (tys' := [(c_ma, .int), (c_wi, .int), (c_nu, .long)]) [0, 1, 2] rfl
        exact W.iret (v := (-7)) hx hb hr (fun t ht hW => ⟨⟨(-7), (), rfl, ⟨(rg_w (by decide : (-7 : Int) ≤ ((-7) : Int32).toInt ∧ ((-7) : Int32).toInt ≤ -7) (by decide) (by decide)), (wr_7 (j := a1.toInt.toNat) (by omega) (by omega) (by omega) (by omega))⟩, w_nu, by rw [ht]; exact hP9, va_K.moved hW.alike hK9, hD9⟩, hS.F ht⟩) hS.2.2 dX10_write_43
    ·
      have n_c_24 : (z_23.toInt : Int) = (-1) := c_eq rfl (by decide) c_24
      have b_z_23 : (-1 : Int) ≤ z_23.toInt ∧ z_23.toInt ≤ -1 := r_eq1 b_z_23 (by decide : (-1 : Int) ≤ ((-1) : Int32).toInt ∧ ((-1) : Int32).toInt ≤ -1) n_c_24 (by decide)
      refine lv_bipush (v := (-6)) hx hb dX10_write_20 (by decide) ?_
      have hP9 := hP.sub (ws' := [(o0, .inr (8, [.int x_th, .ref mwo, .ref mim, .ref mhi, .ref mlu, .ref mtp, .int x_td, .ref mfv, .int x_sz, .int x_at, .int x_fr, .int x_to, .int x_va, .int x_fk, .int x_fp, .ref mfr, .ref mwt, .int x_wt, .int x_op, .int x_jo, .ref mfg, .ref mpl, .long x_dr, .ref mtm, .ref mfa, .ref mqu, .ref mmo, .ref mwy, .ref mwn, .ref mma, .ref mwi, .ref mnu, .ref mmv])), (mma, .inl (c_ma, 4, .inl w_ma)), (mwi, .inl (c_wi, 4, .inl w_wi)), (mnu, .inl (c_nu, 240, .inr (.inl w_nu)))]) [0, 1, 2, 3] rfl
      have hD9 := hD.sub (ws' := [(o0, .inr (8, [.int x_th, .ref mwo, .ref mim, .ref mhi, .ref mlu, .ref mtp, .int x_td, .ref mfv, .int x_sz, .int x_at, .int x_fr, .int x_to, .int x_va, .int x_fk, .int x_fp, .ref mfr, .ref mwt, .int x_wt, .int x_op, .int x_jo, .ref mfg, .ref mpl, .long x_dr, .ref mtm, .ref mfa, .ref mqu, .ref mmo, .ref mwy, .ref mwn, .ref mma, .ref mwi, .ref mnu, .ref mmv])), (mma, .inl (c_ma, 4, .inl w_ma)), (mwi, .inl (c_wi, 4, .inl w_wi)), (mnu, .inl (c_nu, 240, .inr (.inl w_nu)))]) [0, 1, 2, 3] (by decide) rfl
      have hK9 := hK.sub (tys' := [(c_ma, .int), (c_wi, .int), (c_nu, .long)]) [0, 1, 2] rfl
      exact W.iret (v := (-6)) hx hb hr (fun t ht hW => ⟨⟨(-6), (), rfl, ⟨(rg_w (by decide : (-6 : Int) ≤ ((-6) : Int32).toInt ∧ ((-6) : Int32).toInt ≤ -6) (by decide) (by decide)), (wr_6 (j := a1.toInt.toNat) (by omega) (by omega) (by omega))⟩, w_nu, by rw [ht]; exact hP9, va_K.moved hW.alike hK9, hD9⟩, hS.F ht⟩) hS.2.2 dX10_write_22
  ·
    have n_c_21 : (r_20.toInt : Int) = 0 := c_eq rfl (by decide) c_21
    have b_r_20 : (0 : Int) ≤ r_20.toInt ∧ r_20.toInt ≤ 0 := r_eq1 b_r_20 (by decide : (0 : Int) ≤ (0 : Int32).toInt ∧ (0 : Int32).toInt ≤ 0) n_c_21 (by decide)
    have g_38 := zz_r_20 c_21
    refine lv_bipush (v := (-2)) hx hb dX10_write_7 (by decide) ?_
    have hP9 := hP.sub (ws' := [(o0, .inr (8, [.int x_th, .ref mwo, .ref mim, .ref mhi, .ref mlu, .ref mtp, .int x_td, .ref mfv, .int x_sz, .int x_at, .int x_fr, .int x_to, .int x_va, .int x_fk, .int x_fp, .ref mfr, .ref mwt, .int x_wt, .int x_op, .int x_jo, .ref mfg, .ref mpl, .long x_dr, .ref mtm, .ref mfa, .ref mqu, .ref mmo, .ref mwy, .ref mwn, .ref mma, .ref mwi, .ref mnu, .ref mmv])), (mma, .inl (c_ma, 4, .inl w_ma)), (mwi, .inl (c_wi, 4, .inl w_wi)), (mnu, .inl (c_nu, 240, .inr (.inl w_nu)))]) [0, 1, 2, 3] rfl
    have hD9 := hD.sub (ws' := [(o0, .inr (8, [.int x_th, .ref mwo, .ref mim, .ref mhi, .ref mlu, .ref mtp, .int x_td, .ref mfv, .int x_sz, .int x_at, .int x_fr, .int x_to, .int x_va, .int x_fk, .int x_fp, .ref mfr, .ref mwt, .int x_wt, .int x_op, .int x_jo, .ref mfg, .ref mpl, .long x_dr, .ref mtm, .ref mfa, .ref mqu, .ref mmo, .ref mwy, .ref mwn, .ref mma, .ref mwi, .ref mnu, .ref mmv])), (mma, .inl (c_ma, 4, .inl w_ma)), (mwi, .inl (c_wi, 4, .inl w_wi)), (mnu, .inl (c_nu, 240, .inr (.inl w_nu)))]) [0, 1, 2, 3] (by decide) rfl
    have hK9 := hK.sub (tys' := [(c_ma, .int), (c_wi, .int), (c_nu, .long)]) [0, 1, 2] rfl
    exact W.iret (v := (-2)) hx hb hr (fun t ht hW => ⟨⟨(-2), (), rfl, ⟨(rg_w (by decide : (-2 : Int) ≤ ((-2) : Int32).toInt ∧ ((-2) : Int32).toInt ≤ -2) (by decide) (by decide)), (wr_2 (by omega))⟩, w_nu, by rw [ht]; exact hP9, va_K.moved hW.alike hK9, hD9⟩, hS.F ht⟩) hS.2.2 dX10_write_9
