def RG (gh : Nat → Int32) (j : Nat) (w z : Int32) : Prop := (w.toInt = -1 ∧ (gh j).toInt = -1) ∨ (0 ≤ w.toInt ∧ (gh j).toInt = z.toInt ∧ (gh (4 + j)).toInt = w.toInt)
def GR (gh f g : Nat → Int32) : Prop := ∀ j : Nat, j < 4 → (f j).toInt = (gh j).toInt ∧ (0 ≤ (gh j).toInt → (g j).toInt = (gh (4 + j)).toInt)
def rwG (gh : Nat → Int32) (a b c : Int32) : Nat → Int32 := fun q => if (0 ≤ a.toInt ∧ a.toInt ≤ 3) ∧ (0 ≤ b.toInt ∧ b.toInt ≤ 3) ∧ (0 ≤ c.toInt ∧ c.toInt ≤ 60) then (if q = a.toInt.toNat then c else if q = 4 + a.toInt.toNat then b else gh q) else gh q
theorem rwG_no {gh : Nat → Int32} {a b c : Int32} (h : ¬ ((0 ≤ a.toInt ∧ a.toInt ≤ 3) ∧ (0 ≤ b.toInt ∧ b.toInt ≤ 3) ∧ (0 ≤ c.toInt ∧ c.toInt ≤ 60))) : rwG gh a b c = gh := funext (fun _ => if_neg h)
theorem rwG_a {gh : Nat → Int32} {a b c : Int32} (h : (0 ≤ a.toInt ∧ a.toInt ≤ 3) ∧ (0 ≤ b.toInt ∧ b.toInt ≤ 3) ∧ (0 ≤ c.toInt ∧ c.toInt ≤ 60)) : rwG gh a b c a.toInt.toNat = c := by unfold rwG; rw [if_pos h, if_pos rfl]
theorem rwG_b {gh : Nat → Int32} {a b c : Int32} (h : (0 ≤ a.toInt ∧ a.toInt ≤ 3) ∧ (0 ≤ b.toInt ∧ b.toInt ≤ 3) ∧ (0 ≤ c.toInt ∧ c.toInt ≤ 60)) : rwG gh a b c (4 + a.toInt.toNat) = b := by unfold rwG; rw [if_pos h, if_neg (by omega), if_pos rfl]
theorem rwG_n {gh : Nat → Int32} {a b c : Int32} (h : (0 ≤ a.toInt ∧ a.toInt ≤ 3) ∧ (0 ≤ b.toInt ∧ b.toInt ≤ 3) ∧ (0 ≤ c.toInt ∧ c.toInt ≤ 60)) {q : Nat} (h1 : q ≠ a.toInt.toNat) (h2 : q ≠ 4 + a.toInt.toNat) : rwG gh a b c q = gh q := by unfold rwG; rw [if_pos h, if_neg h1, if_neg h2]
theorem rg_no {gh : Nat → Int32} {a b c w z : Int32} {j : Nat} (h : ¬ ((0 ≤ a.toInt ∧ a.toInt ≤ 3) ∧ (0 ≤ b.toInt ∧ b.toInt ≤ 3) ∧ (0 ≤ c.toInt ∧ c.toInt ≤ 60))) (hr : RG gh j w z) : RG (rwG gh a b c) j w z := by rw [rwG_no h]; exact hr
theorem rg_at1 {gh : Nat → Int32} {a b c : Int32} {j : Nat} (h : (0 ≤ a.toInt ∧ a.toInt ≤ 3) ∧ (0 ≤ b.toInt ∧ b.toInt ≤ 3) ∧ (0 ≤ c.toInt ∧ c.toInt ≤ 60)) (hj : a.toInt = (j : Int)) : RG (rwG gh a b c) j b c := by
  have e : j = a.toInt.toNat := by omega
  exact Or.inr ⟨h.2.1.1, by rw [e, rwG_a h], by rw [e, rwG_b h]⟩
theorem rg_ne {gh : Nat → Int32} {a b c w z : Int32} {j : Nat} (h : (0 ≤ a.toInt ∧ a.toInt ≤ 3) ∧ (0 ≤ b.toInt ∧ b.toInt ≤ 3) ∧ (0 ≤ c.toInt ∧ c.toInt ≤ 60)) (hj : a.toInt ≠ (j : Int)) (h4 : j < 4) (hr : RG gh j w z) : RG (rwG gh a b c) j w z := by
  have e1 : rwG gh a b c j = gh j := rwG_n h (by omega) (by omega)
  have e2 : rwG gh a b c (4 + j) = gh (4 + j) := rwG_n h (by omega) (by omega)
  unfold RG; rw [e1, e2]; exact hr
theorem gr_no {gh f g : Nat → Int32} {a b c : Int32} (h : ¬ ((0 ≤ a.toInt ∧ a.toInt ≤ 3) ∧ (0 ≤ b.toInt ∧ b.toInt ≤ 3) ∧ (0 ≤ c.toInt ∧ c.toInt ≤ 60))) (hr : GR gh f g) : GR (rwG gh a b c) f g := by rw [rwG_no h]; exact hr
theorem gr_set {gh f g f1 g1 : Nat → Int32} {a b c : Int32} (h : (0 ≤ a.toInt ∧ a.toInt ≤ 3) ∧ (0 ≤ b.toInt ∧ b.toInt ≤ 3) ∧ (0 ≤ c.toInt ∧ c.toInt ≤ 60)) (hr : GR gh f g) (ef : upd f a.toNatClampNeg c = f1) (eg : upd g a.toNatClampNeg b = g1) : GR (rwG gh a b c) f1 g1 := fun j hj => by
  have ea : a.toNatClampNeg = a.toInt.toNat := rfl
  by_cases e : j = a.toInt.toNat
  · rw [← ef, ← eg, ea, e, pk_us, pk_us, rwG_a h, rwG_b h]
    exact ⟨rfl, fun _ => rfl⟩
  · rw [← ef, ← eg, ea, pk_un e, pk_un e, rwG_n h e (by omega), rwG_n h (show 4 + j ≠ a.toInt.toNat from by omega) (by omega)]
    exact hr j hj
theorem gr_f {gh f g : Nat → Int32} {a z : Int32} (hr : GR gh f g) (h : 0 ≤ a.toInt ∧ a.toInt ≤ 3) (e : z = f a.toNatClampNeg) : z.toInt = (gh a.toInt.toNat).toInt := by
  rw [e]; exact (hr a.toInt.toNat (by omega)).1
theorem gr_g {gh f g : Nat → Int32} {a z : Int32} (hr : GR gh f g) (h : 0 ≤ a.toInt ∧ a.toInt ≤ 3) (e : z = g a.toNatClampNeg) : 0 ≤ (gh a.toInt.toNat).toInt → z.toInt = (gh (4 + a.toInt.toNat)).toInt := by
  rw [e]; exact (hr a.toInt.toNat (by omega)).2
theorem gr_many {g : Nat → Int32} : GR (fun _ => -1) manyF g := fun j hj => ⟨congrArg Int32.toInt (manyF_eq j hj), fun h => absurd (show (0 : Int) ≤ (-1 : Int32).toInt from h) (by decide)⟩
def wrA (gh : Nat → Int32) (a b : Int32) : Int32 := if 0 ≤ a.toInt ∧ a.toInt ≤ 3 then (if (gh a.toInt.toNat).toInt = -1 then -6 else if 0 ≤ b.toInt ∧ b.toInt < (gh a.toInt.toNat).toInt then 0 else -7) else -2
theorem wr_2 {gh : Nat → Int32} {a b : Int32} (h : ¬ (0 ≤ a.toInt ∧ a.toInt ≤ 3)) : (-2 : Int32) = wrA gh a b := (if_neg h).symm
theorem wr_6 {gh : Nat → Int32} {a b : Int32} {j : Nat} (ha : a.toInt = (j : Int)) (hj : j ≤ 3) (h : (gh j).toInt = -1) : (-6 : Int32) = wrA gh a b := by
  have e : a.toInt.toNat = j := by omega
  unfold wrA; rw [if_pos (by omega), e, if_pos h]
theorem wr_7 {gh : Nat → Int32} {a b : Int32} {j : Nat} (ha : a.toInt = (j : Int)) (hj : j ≤ 3) (h : ¬ (gh j).toInt = -1) (h2 : ¬ (0 ≤ b.toInt ∧ b.toInt < (gh j).toInt)) : (-7 : Int32) = wrA gh a b := by
  have e : a.toInt.toNat = j := by omega
  unfold wrA; rw [if_pos (by omega), e, if_neg h, if_neg h2]
theorem wr_0 {gh : Nat → Int32} {a b : Int32} {j : Nat} (ha : a.toInt = (j : Int)) (hj : j ≤ 3) (h : ¬ (gh j).toInt = -1) (h2 : 0 ≤ b.toInt ∧ b.toInt < (gh j).toInt) : (0 : Int32) = wrA gh a b := by
  have e : a.toInt.toNat = j := by omega
  unfold wrA; rw [if_pos (by omega), e, if_neg h, if_pos h2]
def psA (gh : Nat → Int32) (a i c k n : Int32) : Int32 := if (0 ≤ a.toInt ∧ a.toInt ≤ 3) ∧ (0 ≤ c.toInt ∧ c.toInt ≤ 3) then (if (gh a.toInt.toNat).toInt = -1 ∨ (gh c.toInt.toNat).toInt = -1 then -6 else if ¬ (gh (4 + a.toInt.toNat)).toInt = (gh (4 + c.toInt.toNat)).toInt then -8 else if (0 ≤ i.toInt ∧ 0 ≤ k.toInt ∧ 0 ≤ n.toInt) ∧ i.toInt + n.toInt ≤ (gh a.toInt.toNat).toInt ∧ k.toInt + n.toInt ≤ (gh c.toInt.toNat).toInt then 0 else -7) else -2
theorem ps_2 {gh : Nat → Int32} {a i c k n : Int32} (h : ¬ ((0 ≤ a.toInt ∧ a.toInt ≤ 3) ∧ (0 ≤ c.toInt ∧ c.toInt ≤ 3))) : (-2 : Int32) = psA gh a i c k n := (if_neg h).symm
theorem ps_6 {gh : Nat → Int32} {a i c k n : Int32} {j t : Nat} (ha : a.toInt = (j : Int)) (hc : c.toInt = (t : Int)) (hj : j ≤ 3 ∧ t ≤ 3) (h : (gh j).toInt = -1 ∨ (gh t).toInt = -1) : (-6 : Int32) = psA gh a i c k n := by
  have e : a.toInt.toNat = j := by omega
  have e2 : c.toInt.toNat = t := by omega
  unfold psA; rw [if_pos (by omega), e, e2, if_pos h]
theorem ps_8 {gh : Nat → Int32} {a i c k n : Int32} {j t : Nat} (ha : a.toInt = (j : Int)) (hc : c.toInt = (t : Int)) (hj : j ≤ 3 ∧ t ≤ 3) (h : ¬ ((gh j).toInt = -1 ∨ (gh t).toInt = -1)) (h2 : ¬ (gh (4 + j)).toInt = (gh (4 + t)).toInt) : (-8 : Int32) = psA gh a i c k n := by
  have e : a.toInt.toNat = j := by omega
  have e2 : c.toInt.toNat = t := by omega
  unfold psA; rw [if_pos (by omega), e, e2, if_neg h, if_pos h2]
theorem ps_7 {gh : Nat → Int32} {a i c k n : Int32} {j t : Nat} (ha : a.toInt = (j : Int)) (hc : c.toInt = (t : Int)) (hj : j ≤ 3 ∧ t ≤ 3) (h : ¬ ((gh j).toInt = -1 ∨ (gh t).toInt = -1)) (h2 : (gh (4 + j)).toInt = (gh (4 + t)).toInt) (h3 : ¬ ((0 ≤ i.toInt ∧ 0 ≤ k.toInt ∧ 0 ≤ n.toInt) ∧ i.toInt + n.toInt ≤ (gh j).toInt ∧ k.toInt + n.toInt ≤ (gh t).toInt)) : (-7 : Int32) = psA gh a i c k n := by
  have e : a.toInt.toNat = j := by omega
  have e2 : c.toInt.toNat = t := by omega
  unfold psA; rw [if_pos (by omega), e, e2, if_neg h, if_neg (fun q => q h2), if_neg h3]
theorem ps_0 {gh : Nat → Int32} {a i c k n : Int32} {j t : Nat} (ha : a.toInt = (j : Int)) (hc : c.toInt = (t : Int)) (hj : j ≤ 3 ∧ t ≤ 3) (h : ¬ ((gh j).toInt = -1 ∨ (gh t).toInt = -1)) (h2 : (gh (4 + j)).toInt = (gh (4 + t)).toInt) (h3 : (0 ≤ i.toInt ∧ 0 ≤ k.toInt ∧ 0 ≤ n.toInt) ∧ i.toInt + n.toInt ≤ (gh j).toInt ∧ k.toInt + n.toInt ≤ (gh t).toInt) : (0 : Int32) = psA gh a i c k n := by
  have e : a.toInt.toNat = j := by omega
  have e2 : c.toInt.toNat = t := by omega
  unfold psA; rw [if_pos (by omega), e, e2, if_neg h, if_neg (fun q => q h2), if_pos h3]
def uX9_isWithin2 : List Cond := List.cons (.code yX9_isWithin cX9_isWithin 3 (some .boolean)) ([] : List Cond)
theorem guX9_isWithin2 : GU uX9_isWithin2 := gu_cons (gu_all (by decide +kernel))
set_option maxHeartbeats 4000000 in
set_option maxRecDepth 100000 in
theorem kX9_isWithin2 (l : Launch) (dC : Nat → ClassId) (dI : Nat → Nat → Nat) (a1 : Int32) (a2 : Int32) (a3 : Int32) : Met l yX9_isWithin uX9_isWithin2 ({ frames := 0, cells := 0, slots := 0, locals := 0 }) (va_Pc [.int a1, .int a2, .int a3] (fun _ => True)) (vp_Si (fun r => ((0 : Int) ≤ r.toInt ∧ r.toInt ≤ 1) ∧ (r ≠ 0 → (a2.toInt ≤ a1.toInt ∧ a1.toInt ≤ a3.toInt)) ∧ (r = 0 → (¬ (a2.toInt ≤ a1.toInt ∧ a1.toInt ≤ a3.toInt))))) 0 0 (fun _ => False) := by
  refine Met.ofW (cc := cX9_isWithin) (maxL := 3) (ret := (some .boolean)) pn_X9 rfl ?_
  intro p e s m args below meth c s₁ B hml hv
  obtain ⟨rfl, _⟩ := hv
  have hx := B.exec
  have hb := B.bytes
  have hr := B.returns
  have hts := atoms_spec (ws := uX9_isWithin2) B.pre
  have hown : s.vm.findClass RX9 = some m.cls := hown_of B.named rfl
  have hlocks := B.notSynchronized
  have hl := lv_entry ([.int a1, .int a2, .int a3]) (n := 3) (Nat.le_of_ble_eq_true rfl)
  rw [lg_entry_eq]
  generalize (lg_sl ([.int a1, .int a2, .int a3]) ++ List.replicate (3 - (lg_sl ([.int a1, .int a2, .int a3])).length) Slot.unset).toArray = ls at hl ⊢
  have hl : lv_has ls 3 [(0, .int a1), (1, .int a2), (2, .int a3)] := hl
  refine lv_iload_n hx hb dX9_isWithin_0 rfl (lv_at hl 0 rfl) ?_
  refine lv_iload_n hx hb dX9_isWithin_1 rfl (lv_at hl 1 rfl) ?_
  refine lv_icmp_lt (tgt := 14) hx hb dX9_isWithin_2 (by decide) (fun c_3 => ?_) (fun c_3 => ?_)
  ·
    have n_c_3 : (a1.toInt : Int) < a2.toInt := c_lt rfl rfl c_3
    have b_a1 : (-2147483648 : Int) ≤ a1.toInt ∧ a1.toInt ≤ 2147483646 := r_lt1 (ti_rng a1) (ti_rng a2) n_c_3 (by decide)
    have b_a2 : (-2147483647 : Int) ≤ a2.toInt ∧ a2.toInt ≤ 2147483647 := r_lt2 (ti_rng a1) (ti_rng a2) n_c_3 (by decide)
    refine lv_iconst (v := 0) hx hb dX9_isWithin_14 (by decide) ?_
    exact W.zret (v := 0) hx hb hr rfl (fun t ht hW => ⟨0, rfl, ⟨(rg_w (by decide : (0 : Int) ≤ (0 : Int32).toInt ∧ (0 : Int32).toInt ≤ 0) (by decide) (by decide)), (fun h9 => absurd rfl h9), (fun _ => (by omega))⟩, ht⟩) t_nil dX9_isWithin_15
  ·
    have n_c_3 : (a2.toInt : Int) ≤ a1.toInt := c_nlt rfl rfl c_3
    refine lv_iload_n hx hb dX9_isWithin_5 rfl (lv_at hl 0 rfl) ?_
    refine lv_iload_n hx hb dX9_isWithin_6 rfl (lv_at hl 2 rfl) ?_
    refine lv_icmp_gt (tgt := 14) hx hb dX9_isWithin_7 (by decide) (fun c_4 => ?_) (fun c_4 => ?_)
    ·
      have n_c_4 : (a3.toInt : Int) < a1.toInt := c_gt rfl rfl c_4
      have b_a3 : (-2147483648 : Int) ≤ a3.toInt ∧ a3.toInt ≤ 2147483646 := r_lt1 (ti_rng a3) (ti_rng a1) n_c_4 (by decide)
      have b_a1 : (-2147483647 : Int) ≤ a1.toInt ∧ a1.toInt ≤ 2147483647 := r_lt2 (ti_rng a3) (ti_rng a1) n_c_4 (by decide)
      refine lv_iconst (v := 0) hx hb dX9_isWithin_14 (by decide) ?_
      exact W.zret (v := 0) hx hb hr rfl (fun t ht hW => ⟨0, rfl, ⟨(rg_w (by decide : (0 : Int) ≤ (0 : Int32).toInt ∧ (0 : Int32).toInt ≤ 0) (by decide) (by decide)), (fun h9 => absurd rfl h9), (fun _ => (by omega))⟩, ht⟩) t_nil dX9_isWithin_15
    ·
      have n_c_4 : (a1.toInt : Int) ≤ a3.toInt := c_ngt rfl rfl c_4
      refine lv_iconst (v := 1) hx hb dX9_isWithin_10 (by decide) ?_
      refine lv_goto (tgt := 15) hx hb dX9_isWithin_11 (by decide) ?_
      exact W.zret (v := 1) hx hb hr rfl (fun t ht hW => ⟨1, rfl, ⟨(rg_w (by decide : (1 : Int) ≤ (1 : Int32).toInt ∧ (1 : Int32).toInt ≤ 1) (by decide) (by decide)), (fun _ => (by omega)), (fun h9 => absurd h9 (by decide))⟩, ht⟩) t_nil dX9_isWithin_15
def uX9_hasSlot2 : List Cond := List.cons (.code yX9_hasSlot cX9_hasSlot 2 (some .boolean)) (HAppend.hAppend ([.fieldLink RX9 50 "LuckyTicket" "slots" "[LLuckyTicket$Row;", .methodLink RX9 158 yX9_isWithin, .static yX9_isWithin, .initialized RX9] : List Cond) (HAppend.hAppend uX9_isWithin2 wsX90))
theorem iX9_hasSlot2_X9 : ∀ w ∈ wsX90, w ∈ uX9_hasSlot2 := fun _ h => (List.mem_cons_of_mem _ (List.mem_append_right _ (List.mem_append_right _ h)))
theorem guX9_hasSlot2 : GU uX9_hasSlot2 := gu_cons (gu_app (by decide +kernel) (gu_ap guX9_isWithin2 gws_X9))
theorem gX9_hasSlot2__X9_isWithin2_S158 : GoodIn uX9_hasSlot2 (va_wsS RX9 158 yX9_isWithin uX9_isWithin2) := gin_S (List.mem_of_getElem? (i := 2) rfl) (List.mem_of_getElem? (i := 3) rfl) (List.mem_of_getElem? (i := 4) rfl) (fun _ h => (List.mem_cons_of_mem _ (List.mem_append_right _ (List.mem_append_left _ h)))) guX9_isWithin2
set_option maxHeartbeats 4000000 in
set_option maxRecDepth 100000 in
theorem kX9_hasSlot2 (l : Launch) (dC : Nat → ClassId) (dI : Nat → Nat → Nat) (h0 : Nat) (tp : Nat) (sc : Nat) (rd : Nat) (cu : Nat) (im : Nat) (ig : Nat) (sl : Nat) (se : Nat) (sm : Nat) (fc : Nat) (cS : ClassId) (s0 : Nat) (s1 : Nat) (s2 : Nat) (s3 : Nat) (a1 : Int32) : Met l yX9_hasSlot uX9_hasSlot2 ({ frames := 1, cells := 0, slots := 0, locals := 22 }) (va_Pc [.ref h0, .int a1] (pw (dC, dI) vwCl [(h0, .inr (7, [.ref tp, .ref sc, .ref rd, .ref cu, .ref im, .ref ig, .ref sl, .ref se, .ref sm, .ref fc])), (sl, .inl (cS, 4, .inr (.inr (.inr (.inr (sf4 s0 s1 s2 s3))))))] [(cS, .object RX3)])) (vp_Si (fun r => ((0 : Int) ≤ r.toInt ∧ r.toInt ≤ 1) ∧ (r ≠ 0 → ((0 : Int) ≤ a1.toInt ∧ a1.toInt ≤ 3) ∧ (True)) ∧ (r = 0 → (¬ (0 ≤ a1.toInt ∧ a1.toInt ≤ 3))))) 0 0 (fun _ => False) := by
  refine Met.ofW (cc := cX9_hasSlot) (maxL := 2) (ret := (some .boolean)) pn_X9 rfl ?_
  intro p e s m args below meth c s₁ B hml hv
  obtain ⟨rfl, hP, hK, hN⟩ := hv
  have hx := B.exec
  have hb := B.bytes
  have hr := B.returns
  have hts := atoms_spec (ws := uX9_hasSlot2) B.pre
  have hown : s.vm.findClass RX9 = some m.cls := hown_of B.named rfl
  have hlocks := B.notSynchronized
  have hl := lv_entry ([.ref h0, .int a1]) (n := 2) (Nat.le_of_ble_eq_true rfl)
  rw [lg_entry_eq]
  generalize (lg_sl ([.ref h0, .int a1]) ++ List.replicate (2 - (lg_sl ([.ref h0, .int a1])).length) Slot.unset).toArray = ls at hl ⊢
  have hl : lv_has ls 2 [(0, .ref h0), (1, .int a1)] := hl
  refine lv_iload_n hx hb dX9_hasSlot_0 rfl (lv_at hl 1 rfl) ?_
  refine lv_iconst (v := 0) hx hb dX9_hasSlot_1 (by decide) ?_
  refine lv_aload_n hx hb dX9_hasSlot_2 rfl (lv_at hl 0 rfl) ?_
  refine va_get (D := (dC, dI)) (ci := 7) (v := .ref sl) (C := RX9) (T := TX9) (N := 10) hx hb hts iX9_hasSlot2_X9 hown hK hP 0 rfl rfl 6 (by decide) (hts (.fieldLink RX9 50 "LuckyTicket" "slots" "[LLuckyTicket$Row;") (List.mem_of_getElem? (i := 1) rfl)) (fun _ h9 => h9) rfl dX9_hasSlot_3 ?_
  refine va_alen (v := 4) hx hb hK hP 1 0 rfl rfl (by rfl) dX9_hasSlot_6 ?_
  refine lv_iconst (v := 1) hx hb dX9_hasSlot_7 (by decide) ?_
  refine lv_isub hx hb dX9_hasSlot_8 ?_
  refine lv_topi (fun z_3 e_z_3 => ?_)
  obtain rfl : z_3 = 3 := e_z_3.trans (by decide)
  refine vp_callSi (W.runS (As := [.int a1, .int 0, .int 3]) (rest := []) ⟨hx, hb, hml, hown, hts⟩ (kX9_isWithin2 l dC dI a1 0 3 ) (va_cwS 3 hts gX9_hasSlot2__X9_isWithin2_S158 rfl rfl rfl hd_yX9_isWithin.2 ⟨lel 1 1 rfl, lel 22 22 rfl⟩) ⟨pn_fb, pn_use⟩ rfl rfl hl.1 rfl (lv_room (Nat.le_of_ble_eq_true rfl)) dX9_hasSlot_9 ⟨lel 0 0 rfl, lel 0 0 rfl⟩) (fun r_4 h_r_4 => ?_)
  obtain ⟨b_r_4, nz_r_4, zz_r_4⟩ := h_r_4
  have b_r_4 : (0 : Int) ≤ r_4.toInt ∧ r_4.toInt ≤ 1 := b_r_4
  exact W.zret (v := r_4) hx hb hr (zn_b b_r_4) (fun t ht hW => ⟨r_4, rfl, ⟨b_r_4, (fun h9 => by have h8 := nz_r_4 h9; have h7 := (by decide : (0 : Int32).toInt = 0); have h7 := (by decide : (3 : Int32).toInt = 3); exact ⟨⟨by omega, by omega⟩, trivial⟩), (fun h9 => by have h8 := zz_r_4 h9; have h7 := (by decide : (0 : Int32).toInt = 0); have h7 := (by decide : (3 : Int32).toInt = 3); exact (by omega))⟩, ht⟩) t_nil dX9_hasSlot_12
def uX3_stands2 : List Cond := List.cons (.code yX3_stands cX3_stands 1 (some .boolean)) (HAppend.hAppend ([.fieldLink RX3 9 "LuckyTicket$Row" "width" "I"] : List Cond) wsX30)
theorem iX3_stands2_X3 : ∀ w ∈ wsX30, w ∈ uX3_stands2 := fun _ h => (List.mem_cons_of_mem _ (List.mem_append_right _ h))
theorem guX3_stands2 : GU uX3_stands2 := gu_cons (gu_app (by decide +kernel) gws_X3)
set_option maxHeartbeats 4000000 in
set_option maxRecDepth 100000 in
theorem kX3_stands2 (l : Launch) (dC : Nat → ClassId) (dI : Nat → Nat → Nat) (rw : Nat) (wd : Int32) (rz : Int32) (nu : Nat) (b_wd : (-1 : Int) ≤ wd.toInt ∧ wd.toInt ≤ 3) (b_rz : (0 : Int) ≤ rz.toInt ∧ rz.toInt ≤ 60) : Met l yX3_stands uX3_stands2 ({ frames := 0, cells := 0, slots := 0, locals := 0 }) (va_Pc [.ref rw] (pw (dC, dI) vwCl [(rw, .inr (2, [.int wd, .int rz, .ref nu]))] [])) (vp_Si (fun r => ((0 : Int) ≤ r.toInt ∧ r.toInt ≤ 1) ∧ (r ≠ 0 → ((0 : Int) ≤ wd.toInt ∧ wd.toInt ≤ 3) ∧ (True)) ∧ (r = 0 → (wd.toInt = -1)))) 0 0 (fun _ => False) := by
  refine Met.ofW (cc := cX3_stands) (maxL := 1) (ret := (some .boolean)) pn_X3 rfl ?_
  intro p e s m args below meth c s₁ B hml hv
  obtain ⟨rfl, hP, hK, hN⟩ := hv
  have hx := B.exec
  have hb := B.bytes
  have hr := B.returns
  have hts := atoms_spec (ws := uX3_stands2) B.pre
  have hown : s.vm.findClass RX3 = some m.cls := hown_of B.named rfl
  have hlocks := B.notSynchronized
  have hl := lv_entry ([.ref rw]) (n := 1) (Nat.le_of_ble_eq_true rfl)
  rw [lg_entry_eq]
  generalize (lg_sl ([.ref rw]) ++ List.replicate (1 - (lg_sl ([.ref rw])).length) Slot.unset).toArray = ls at hl ⊢
  have hl : lv_has ls 1 [(0, .ref rw)] := hl
  refine lv_aload_n hx hb dX3_stands_0 rfl (lv_at hl 0 rfl) ?_
  refine va_get (D := (dC, dI)) (ci := 2) (v := .int wd) (C := RX3) (T := TX3) (N := 3) hx hb hts iX3_stands2_X3 hown hK hP 0 rfl rfl 0 (by decide) (hts (.fieldLink RX3 9 "LuckyTicket$Row" "width" "I") (List.mem_of_getElem? (i := 1) rfl)) (fun _ h9 => h9) rfl dX3_stands_1 ?_
  refine lv_iconst (v := (-1)) hx hb dX3_stands_4 (by decide) ?_
  refine lv_icmp_eq (tgt := 12) hx hb dX3_stands_5 (by decide) (fun c_2 => ?_) (fun c_2 => ?_)
  ·
    have n_c_2 : (wd.toInt : Int) = (-1) := c_eq rfl (by decide) c_2
    have b_wd : (-1 : Int) ≤ wd.toInt ∧ wd.toInt ≤ -1 := r_eq1 b_wd (by decide : (-1 : Int) ≤ ((-1) : Int32).toInt ∧ ((-1) : Int32).toInt ≤ -1) n_c_2 (by decide)
    refine lv_iconst (v := 0) hx hb dX3_stands_12 (by decide) ?_
    exact W.zret (v := 0) hx hb hr rfl (fun t ht hW => ⟨0, rfl, ⟨(rg_w (by decide : (0 : Int) ≤ (0 : Int32).toInt ∧ (0 : Int32).toInt ≤ 0) (by decide) (by decide)), (fun h9 => absurd rfl h9), (fun _ => (by omega))⟩, ht⟩) t_nil dX3_stands_13
  ·
    have n_c_2 : (wd.toInt : Int) ≠ (-1) := c_ne rfl (by decide) c_2
    have b_wd : (0 : Int) ≤ wd.toInt ∧ wd.toInt ≤ 3 := r_ne1 b_wd (by decide : (-1 : Int) ≤ ((-1) : Int32).toInt ∧ ((-1) : Int32).toInt ≤ -1) n_c_2 (by decide)
    refine lv_iconst (v := 1) hx hb dX3_stands_8 (by decide) ?_
    refine lv_goto (tgt := 13) hx hb dX3_stands_9 (by decide) ?_
    exact W.zret (v := 1) hx hb hr rfl (fun t ht hW => ⟨1, rfl, ⟨(rg_w (by decide : (1 : Int) ≤ (1 : Int32).toInt ∧ (1 : Int32).toInt ≤ 1) (by decide) (by decide)), (fun _ => ⟨⟨by omega, by omega⟩, trivial⟩), (fun h9 => absurd h9 (by decide))⟩, ht⟩) t_nil dX3_stands_13
def uX3_hasStretch2 : List Cond := List.cons (.code yX3_hasStretch cX3_hasStretch 3 (some .boolean)) (HAppend.hAppend ([.fieldLink RX3 19 "LuckyTicket$Row" "size" "I"] : List Cond) wsX30)
theorem iX3_hasStretch2_X3 : ∀ w ∈ wsX30, w ∈ uX3_hasStretch2 := fun _ h => (List.mem_cons_of_mem _ (List.mem_append_right _ h))
theorem guX3_hasStretch2 : GU uX3_hasStretch2 := gu_cons (gu_app (by decide +kernel) gws_X3)
set_option maxHeartbeats 4000000 in
set_option maxRecDepth 100000 in
theorem kX3_hasStretch2 (l : Launch) (dC : Nat → ClassId) (dI : Nat → Nat → Nat) (rw : Nat) (wd : Int32) (rz : Int32) (nu : Nat) (a1 : Int32) (a2 : Int32) (b_wd : (-1 : Int) ≤ wd.toInt ∧ wd.toInt ≤ 3) (b_rz : (0 : Int) ≤ rz.toInt ∧ rz.toInt ≤ 60) : Met l yX3_hasStretch uX3_hasStretch2 ({ frames := 0, cells := 0, slots := 0, locals := 0 }) (va_Pc [.ref rw, .int a1, .int a2] (pw (dC, dI) vwCl [(rw, .inr (2, [.int wd, .int rz, .ref nu]))] [])) (vp_Si (fun r => ((0 : Int) ≤ r.toInt ∧ r.toInt ≤ 1) ∧ (r ≠ 0 → ((0 : Int) ≤ a1.toInt ∧ a1.toInt ≤ 60) ∧ ((0 : Int) ≤ a2.toInt ∧ a2.toInt ≤ 60) ∧ (a1.toInt + a2.toInt ≤ rz.toInt)) ∧ (r = 0 → (¬ (0 ≤ a1.toInt ∧ 0 ≤ a2.toInt ∧ a1.toInt + a2.toInt ≤ rz.toInt))))) 0 0 (fun _ => False) := by
  refine Met.ofW (cc := cX3_hasStretch) (maxL := 3) (ret := (some .boolean)) pn_X3 rfl ?_
  intro p e s m args below meth c s₁ B hml hv
  obtain ⟨rfl, hP, hK, hN⟩ := hv
  have hx := B.exec
  have hb := B.bytes
  have hr := B.returns
  have hts := atoms_spec (ws := uX3_hasStretch2) B.pre
  have hown : s.vm.findClass RX3 = some m.cls := hown_of B.named rfl
  have hlocks := B.notSynchronized
  have hl := lv_entry ([.ref rw, .int a1, .int a2]) (n := 3) (Nat.le_of_ble_eq_true rfl)
  rw [lg_entry_eq]
  generalize (lg_sl ([.ref rw, .int a1, .int a2]) ++ List.replicate (3 - (lg_sl ([.ref rw, .int a1, .int a2])).length) Slot.unset).toArray = ls at hl ⊢
  have hl : lv_has ls 3 [(0, .ref rw), (1, .int a1), (2, .int a2)] := hl
  refine lv_iload_n hx hb dX3_hasStretch_0 rfl (lv_at hl 1 rfl) ?_
  refine lv_if_lt (tgt := 26) hx hb dX3_hasStretch_1 (by decide) (fun c_8 => ?_) (fun c_8 => ?_)
  ·
    have n_c_8 : (a1.toInt : Int) < 0 := c_lt rfl (by decide) c_8
    have b_a1 : (-2147483648 : Int) ≤ a1.toInt ∧ a1.toInt ≤ -1 := r_lt1 (ti_rng a1) (by decide : (0 : Int) ≤ (0 : Int32).toInt ∧ (0 : Int32).toInt ≤ 0) n_c_8 (by decide)
    refine lv_iconst (v := 0) hx hb dX3_hasStretch_26 (by decide) ?_
    exact W.zret (v := 0) hx hb hr rfl (fun t ht hW => ⟨0, rfl, ⟨(rg_w (by decide : (0 : Int) ≤ (0 : Int32).toInt ∧ (0 : Int32).toInt ≤ 0) (by decide) (by decide)), (fun h9 => absurd rfl h9), (fun _ => (by omega))⟩, ht⟩) t_nil dX3_hasStretch_27
  ·
    have n_c_8 : (0 : Int) ≤ a1.toInt := c_nlt rfl (by decide) c_8
    have b_a1 : (0 : Int) ≤ a1.toInt ∧ a1.toInt ≤ 2147483647 := r_le2 (by decide : (0 : Int) ≤ (0 : Int32).toInt ∧ (0 : Int32).toInt ≤ 0) (ti_rng a1) n_c_8 (by decide)
    refine lv_iload_n hx hb dX3_hasStretch_4 rfl (lv_at hl 2 rfl) ?_
    refine lv_if_lt (tgt := 26) hx hb dX3_hasStretch_5 (by decide) (fun c_9 => ?_) (fun c_9 => ?_)
    ·
      have n_c_9 : (a2.toInt : Int) < 0 := c_lt rfl (by decide) c_9
      have b_a2 : (-2147483648 : Int) ≤ a2.toInt ∧ a2.toInt ≤ -1 := r_lt1 (ti_rng a2) (by decide : (0 : Int) ≤ (0 : Int32).toInt ∧ (0 : Int32).toInt ≤ 0) n_c_9 (by decide)
      refine lv_iconst (v := 0) hx hb dX3_hasStretch_26 (by decide) ?_
      exact W.zret (v := 0) hx hb hr rfl (fun t ht hW => ⟨0, rfl, ⟨(rg_w (by decide : (0 : Int) ≤ (0 : Int32).toInt ∧ (0 : Int32).toInt ≤ 0) (by decide) (by decide)), (fun h9 => absurd rfl h9), (fun _ => (by omega))⟩, ht⟩) t_nil dX3_hasStretch_27
    ·
      have n_c_9 : (0 : Int) ≤ a2.toInt := c_nlt rfl (by decide) c_9
      have b_a2 : (0 : Int) ≤ a2.toInt ∧ a2.toInt ≤ 2147483647 := r_le2 (by decide : (0 : Int) ≤ (0 : Int32).toInt ∧ (0 : Int32).toInt ≤ 0) (ti_rng a2) n_c_9 (by decide)
      refine lv_iload_n hx hb dX3_hasStretch_8 rfl (lv_at hl 1 rfl) ?_
      obtain ⟨z_10, e_z_10⟩ : ∃ y : Int64, y = a1.toInt64 := ⟨_, rfl⟩
      refine lv_i2l (v := z_10) hx hb dX3_hasStretch_9 e_z_10.symm ?_
      obtain ⟨q_z_10, b_z_10⟩ := ti_i2l e_z_10 b_a1
      refine lv_iload_n hx hb dX3_hasStretch_10 rfl (lv_at hl 2 rfl) ?_
      obtain ⟨z_11, e_z_11⟩ : ∃ y : Int64, y = a2.toInt64 := ⟨_, rfl⟩
      refine lv_i2l (v := z_11) hx hb dX3_hasStretch_11 e_z_11.symm ?_
      obtain ⟨q_z_11, b_z_11⟩ := ti_i2l e_z_11 b_a2
      refine lv_ladd hx hb dX3_hasStretch_12 ?_
      refine lv_topl (fun z_12 e_z_12 => ?_)
      obtain ⟨q_z_12, b_z_12⟩ := tl_add (lo := 0) (hi := 4294967294) e_z_12 rfl rfl b_z_10 b_z_11 (by decide)
      refine lv_aload_n hx hb dX3_hasStretch_13 rfl (lv_at hl 0 rfl) ?_
      refine va_get (D := (dC, dI)) (ci := 2) (v := .int rz) (C := RX3) (T := TX3) (N := 3) hx hb hts iX3_hasStretch2_X3 hown hK hP 0 rfl rfl 1 (by decide) (hts (.fieldLink RX3 19 "LuckyTicket$Row" "size" "I") (List.mem_of_getElem? (i := 1) rfl)) (fun _ h9 => h9) rfl dX3_hasStretch_14 ?_
      obtain ⟨z_13, e_z_13⟩ : ∃ y : Int64, y = rz.toInt64 := ⟨_, rfl⟩
      refine lv_i2l (v := z_13) hx hb dX3_hasStretch_17 e_z_13.symm ?_
      obtain ⟨q_z_13, b_z_13⟩ := ti_i2l e_z_13 b_rz
      refine W.lcmp hx hb dX3_hasStretch_18 ?_
      refine lv_if_gt (tgt := 26) hx hb dX3_hasStretch_19 (by decide) (fun c_14 => ?_) (fun c_14 => ?_)
      ·
        have n_c_14 : (z_13.toInt : Int) < z_12.toInt := g_gt rfl rfl c_14
        have b_z_12 : (1 : Int) ≤ z_12.toInt ∧ z_12.toInt ≤ 4294967294 := r_lt2 b_z_13 b_z_12 n_c_14 (by decide)
        refine lv_iconst (v := 0) hx hb dX3_hasStretch_26 (by decide) ?_
        exact W.zret (v := 0) hx hb hr rfl (fun t ht hW => ⟨0, rfl, ⟨(rg_w (by decide : (0 : Int) ≤ (0 : Int32).toInt ∧ (0 : Int32).toInt ≤ 0) (by decide) (by decide)), (fun h9 => absurd rfl h9), (fun _ => (by omega))⟩, ht⟩) t_nil dX3_hasStretch_27
      ·
        have n_c_14 : (z_12.toInt : Int) ≤ z_13.toInt := g_ngt rfl rfl c_14
        have b_z_12 : (0 : Int) ≤ z_12.toInt ∧ z_12.toInt ≤ 60 := r_le1 b_z_12 b_z_13 n_c_14 (by decide)
        have b_z_10 : (0 : Int) ≤ z_10.toInt ∧ z_10.toInt ≤ 60 := by
          have q0 := b_z_12; have q1 := q_z_12; have q2 := b_z_10; have q3 := b_z_11; omega
        have b_a1 : (0 : Int) ≤ a1.toInt ∧ a1.toInt ≤ 60 := by
          have q0 := b_z_10; have q1 := q_z_10; have q2 := b_a1; omega
        have b_z_11 : (0 : Int) ≤ z_11.toInt ∧ z_11.toInt ≤ 60 := by
          have q0 := b_z_12; have q1 := q_z_12; have q2 := b_z_11; have q3 := b_z_10; omega
        have b_a2 : (0 : Int) ≤ a2.toInt ∧ a2.toInt ≤ 60 := by
          have q0 := b_z_11; have q1 := q_z_11; have q2 := b_a2; omega
        refine lv_iconst (v := 1) hx hb dX3_hasStretch_22 (by decide) ?_
        refine lv_goto (tgt := 27) hx hb dX3_hasStretch_23 (by decide) ?_
        exact W.zret (v := 1) hx hb hr rfl (fun t ht hW => ⟨1, rfl, ⟨(rg_w (by decide : (1 : Int) ≤ (1 : Int32).toInt ∧ (1 : Int32).toInt ≤ 1) (by decide) (by decide)), (fun _ => ⟨⟨by omega, by omega⟩, ⟨by omega, by omega⟩, (by omega)⟩), (fun h9 => absurd h9 (by decide))⟩, ht⟩) t_nil dX3_hasStretch_27
def uX10_isSlot2 : List Cond := List.cons (.code yX10_isSlot cX10_isSlot 1 (some .boolean)) (HAppend.hAppend ([.constantLong RX10 375 (3), .methodLink RX10 82 yX10_in, .static yX10_in, .initialized RX10] : List Cond) uX10_in2)
theorem guX10_isSlot2 : GU uX10_isSlot2 := gu_cons (gu_app (by decide +kernel) guX10_in2)
theorem gX10_isSlot2__X10_in2_S82 : GoodIn uX10_isSlot2 (va_wsS RX10 82 yX10_in uX10_in2) := gin_S (List.mem_of_getElem? (i := 2) rfl) (List.mem_of_getElem? (i := 3) rfl) (List.mem_of_getElem? (i := 4) rfl) (fun _ h => (List.mem_cons_of_mem _ (List.mem_append_right _ h))) guX10_in2
set_option maxHeartbeats 4000000 in
set_option maxRecDepth 100000 in
theorem kX10_isSlot2 (l : Launch) (dC : Nat → ClassId) (dI : Nat → Nat → Nat) (a1 : Int32) : Met l yX10_isSlot uX10_isSlot2 ({ frames := 1, cells := 0, slots := 0, locals := 25 }) (va_Pc [.int a1] (fun _ => True)) (vp_Si (fun r => ((0 : Int) ≤ r.toInt ∧ r.toInt ≤ 1) ∧ (r ≠ 0 → ((0 : Int) ≤ a1.toInt ∧ a1.toInt ≤ 3) ∧ (True)) ∧ (r = 0 → (¬ (0 ≤ a1.toInt ∧ a1.toInt ≤ 3))))) 0 0 (fun _ => False) := by
  refine Met.ofW (cc := cX10_isSlot) (maxL := 1) (ret := (some .boolean)) pn_X10 rfl ?_
  intro p e s m args below meth c s₁ B hml hv
  obtain ⟨rfl, _⟩ := hv
  have hx := B.exec
  have hb := B.bytes
  have hr := B.returns
  have hts := atoms_spec (ws := uX10_isSlot2) B.pre
  have hown : s.vm.findClass RX10 = some m.cls := hown_of B.named rfl
  have hlocks := B.notSynchronized
  have hl := lv_entry ([.int a1]) (n := 1) (Nat.le_of_ble_eq_true rfl)
  rw [lg_entry_eq]
  generalize (lg_sl ([.int a1]) ++ List.replicate (1 - (lg_sl ([.int a1])).length) Slot.unset).toArray = ls at hl ⊢
  have hl : lv_has ls 1 [(0, .int a1)] := hl
  refine lv_iload_n hx hb dX10_isSlot_0 rfl (lv_at hl 0 rfl) ?_
  obtain ⟨z_3, e_z_3⟩ : ∃ y : Int64, y = a1.toInt64 := ⟨_, rfl⟩
  refine lv_i2l (v := z_3) hx hb dX10_isSlot_1 e_z_3.symm ?_
  obtain ⟨q_z_3, b_z_3⟩ := ti_i2l e_z_3 (ti_rng a1)
  refine lv_lconst (v := 0) hx hb dX10_isSlot_2 (by decide) ?_
  refine lv_ldc2 (v := 3) hx hb hown (hts (.constantLong RX10 375 (3)) (List.mem_of_getElem? (i := 1) rfl)) dX10_isSlot_3 ?_
  refine vp_callSi (W.runS (As := [.long z_3, .long 0, .long 3]) (rest := []) ⟨hx, hb, hml, hown, hts⟩ (kX10_in2 l dC dI z_3 0 3 ) (va_cwS 3 hts gX10_isSlot2__X10_in2_S82 rfl rfl rfl hd_yX10_in.2 ⟨lel 1 1 rfl, lel 25 25 rfl⟩) ⟨pn_fb, pn_use⟩ rfl rfl hl.1 rfl (lv_room (Nat.le_of_ble_eq_true rfl)) dX10_isSlot_6 ⟨lel 0 0 rfl, lel 0 0 rfl⟩) (fun r_4 h_r_4 => ?_)
  obtain ⟨b_r_4, nz_r_4, zz_r_4⟩ := h_r_4
  have b_r_4 : (0 : Int) ≤ r_4.toInt ∧ r_4.toInt ≤ 1 := b_r_4
  exact W.zret (v := r_4) hx hb hr (zn_b b_r_4) (fun t ht hW => ⟨r_4, rfl, ⟨b_r_4, (fun h9 => by have h8 := nz_r_4 h9; have h7 := (by decide : (0 : Int64).toInt = 0); have h7 := (by decide : (3 : Int64).toInt = 3); exact ⟨⟨by omega, by omega⟩, trivial⟩), (fun h9 => by have h8 := zz_r_4 h9; have h7 := (by decide : (0 : Int64).toInt = 0); have h7 := (by decide : (3 : Int64).toInt = 3); exact (by omega))⟩, ht⟩) t_nil dX10_isSlot_9
def uX10_in6 : List Cond := List.cons (.code yX10_in cX10_in 6 (some .boolean)) ([] : List Cond)
theorem guX10_in6 : GU uX10_in6 := gu_cons (gu_all (by decide +kernel))
set_option maxHeartbeats 4000000 in
set_option maxRecDepth 100000 in
theorem kX10_in6 (l : Launch) (dC : Nat → ClassId) (dI : Nat → Nat → Nat) (a1 : Int64) (a2 : Int64) (a3 : Int64) : Met l yX10_in uX10_in6 ({ frames := 0, cells := 0, slots := 0, locals := 0 }) (va_Pc [.long a1, .long a2, .long a3] (fun _ => True)) (vp_Si (fun r => ((0 : Int) ≤ r.toInt ∧ r.toInt ≤ 1) ∧ (r ≠ 0 → (a2.toInt ≤ a1.toInt ∧ a1.toInt ≤ a3.toInt)) ∧ (r = 0 → (¬ (a2.toInt ≤ a1.toInt ∧ a1.toInt ≤ a3.toInt))))) 0 0 (fun _ => False) := by
  refine Met.ofW (cc := cX10_in) (maxL := 6) (ret := (some .boolean)) pn_X10 rfl ?_
  intro p e s m args below meth c s₁ B hml hv
  obtain ⟨rfl, _⟩ := hv
  have hx := B.exec
  have hb := B.bytes
  have hr := B.returns
  have hts := atoms_spec (ws := uX10_in6) B.pre
  have hown : s.vm.findClass RX10 = some m.cls := hown_of B.named rfl
  have hlocks := B.notSynchronized
  have hl := lv_entry ([.long a1, .long a2, .long a3]) (n := 6) (Nat.le_of_ble_eq_true rfl)
  rw [lg_entry_eq]
  generalize (lg_sl ([.long a1, .long a2, .long a3]) ++ List.replicate (6 - (lg_sl ([.long a1, .long a2, .long a3])).length) Slot.unset).toArray = ls at hl ⊢
  have hl : lv_has ls 6 [(0, .long a1), (2, .long a2), (4, .long a3)] := hl
  refine lv_lload_n hx hb dX10_in_0 rfl (lv_at hl 0 rfl) ?_
  refine lv_lload_n hx hb dX10_in_1 rfl (lv_at hl 1 rfl) ?_
  refine W.lcmp hx hb dX10_in_2 ?_
  refine lv_if_lt (tgt := 17) hx hb dX10_in_3 (by decide) (fun c_3 => ?_) (fun c_3 => ?_)
  ·
    have n_c_3 : (a1.toInt : Int) < a2.toInt := g_lt rfl rfl c_3
    have b_a1 : (-9223372036854775808 : Int) ≤ a1.toInt ∧ a1.toInt ≤ 9223372036854775806 := r_lt1 (tl_rng a1) (tl_rng a2) n_c_3 (by decide)
    have b_a2 : (-9223372036854775807 : Int) ≤ a2.toInt ∧ a2.toInt ≤ 9223372036854775807 := r_lt2 (tl_rng a1) (tl_rng a2) n_c_3 (by decide)
    refine lv_iconst (v := 0) hx hb dX10_in_17 (by decide) ?_
    exact W.zret (v := 0) hx hb hr rfl (fun t ht hW => ⟨0, rfl, ⟨(rg_w (by decide : (0 : Int) ≤ (0 : Int32).toInt ∧ (0 : Int32).toInt ≤ 0) (by decide) (by decide)), (fun h9 => absurd rfl h9), (fun _ => (by omega))⟩, ht⟩) t_nil dX10_in_18
  ·
    have n_c_3 : (a2.toInt : Int) ≤ a1.toInt := g_nlt rfl rfl c_3
    refine lv_lload_n hx hb dX10_in_6 rfl (lv_at hl 0 rfl) ?_
    refine lv_lload hx hb dX10_in_7 (lv_at hl 2 rfl) ?_
    refine W.lcmp hx hb dX10_in_9 ?_
    refine lv_if_gt (tgt := 17) hx hb dX10_in_10 (by decide) (fun c_4 => ?_) (fun c_4 => ?_)
    ·
      have n_c_4 : (a3.toInt : Int) < a1.toInt := g_gt rfl rfl c_4
      have b_a3 : (-9223372036854775808 : Int) ≤ a3.toInt ∧ a3.toInt ≤ 9223372036854775806 := r_lt1 (tl_rng a3) (tl_rng a1) n_c_4 (by decide)
      have b_a1 : (-9223372036854775807 : Int) ≤ a1.toInt ∧ a1.toInt ≤ 9223372036854775807 := r_lt2 (tl_rng a3) (tl_rng a1) n_c_4 (by decide)
      refine lv_iconst (v := 0) hx hb dX10_in_17 (by decide) ?_
      exact W.zret (v := 0) hx hb hr rfl (fun t ht hW => ⟨0, rfl, ⟨(rg_w (by decide : (0 : Int) ≤ (0 : Int32).toInt ∧ (0 : Int32).toInt ≤ 0) (by decide) (by decide)), (fun h9 => absurd rfl h9), (fun _ => (by omega))⟩, ht⟩) t_nil dX10_in_18
    ·
      have n_c_4 : (a1.toInt : Int) ≤ a3.toInt := g_ngt rfl rfl c_4
      refine lv_iconst (v := 1) hx hb dX10_in_13 (by decide) ?_
      refine lv_goto (tgt := 18) hx hb dX10_in_14 (by decide) ?_
      exact W.zret (v := 1) hx hb hr rfl (fun t ht hW => ⟨1, rfl, ⟨(rg_w (by decide : (1 : Int) ≤ (1 : Int32).toInt ∧ (1 : Int32).toInt ≤ 1) (by decide) (by decide)), (fun _ => (by omega)), (fun h9 => absurd h9 (by decide))⟩, ht⟩) t_nil dX10_in_18
def uX9_rowG : List Cond := List.cons (.code yX9_row cX9_row 4 (some .int)) (HAppend.hAppend ([.methodLink RX9 206 yX9_hasSlot, .instanceMethod yX9_hasSlot, .selects RX9 yX9_hasSlot yX9_hasSlot, .initialized RX9, .methodLink RX9 158 yX9_isWithin, .static yX9_isWithin, .fieldLink RX9 50 "LuckyTicket" "slots" "[LLuckyTicket$Row;", .methodLink RX9 340 yX3_begin, .instanceMethod yX3_begin, .selects RX3 yX3_begin yX3_begin, .initialized RX3] : List Cond) (HAppend.hAppend uX9_hasSlot2 (HAppend.hAppend uX9_isWithin2 (HAppend.hAppend uX3_begin wsX90))))
theorem iX9_rowG_X9 : ∀ w ∈ wsX90, w ∈ uX9_rowG := fun _ h => (List.mem_cons_of_mem _ (List.mem_append_right _ (List.mem_append_right _ (List.mem_append_right _ (List.mem_append_right _ h)))))
theorem guX9_rowG : GU uX9_rowG := gu_cons (gu_app (by decide +kernel) (gu_ap guX9_hasSlot2 (gu_ap guX9_isWithin2 (gu_ap guX3_begin gws_X9))))
theorem gX9_rowG__X9_hasSlot2_V206 : GoodIn uX9_rowG (wsV RX9 206 RX9 yX9_hasSlot uX9_hasSlot2) := gin_V (List.mem_of_getElem? (i := 1) rfl) (List.mem_of_getElem? (i := 2) rfl) (List.mem_of_getElem? (i := 3) rfl) (List.mem_of_getElem? (i := 4) rfl) (fun _ h => (List.mem_cons_of_mem _ (List.mem_append_right _ (List.mem_append_left _ h)))) guX9_hasSlot2
theorem gX9_rowG__X9_isWithin2_S158 : GoodIn uX9_rowG (va_wsS RX9 158 yX9_isWithin uX9_isWithin2) := gin_S (List.mem_of_getElem? (i := 5) rfl) (List.mem_of_getElem? (i := 6) rfl) (List.mem_of_getElem? (i := 4) rfl) (fun _ h => (List.mem_cons_of_mem _ (List.mem_append_right _ (List.mem_append_right _ (List.mem_append_left _ h))))) guX9_isWithin2
theorem gX9_rowG__X3_begin_V340 : GoodIn uX9_rowG (wsV RX9 340 RX3 yX3_begin uX3_begin) := gin_V (List.mem_of_getElem? (i := 8) rfl) (List.mem_of_getElem? (i := 9) rfl) (List.mem_of_getElem? (i := 10) rfl) (List.mem_of_getElem? (i := 11) rfl) (fun _ h => (List.mem_cons_of_mem _ (List.mem_append_right _ (List.mem_append_right _ (List.mem_append_right _ (List.mem_append_left _ h)))))) guX3_begin
set_option maxHeartbeats 4000000 in
set_option maxRecDepth 100000 in
theorem kX9_rowG (l : Launch) (dC : Nat → ClassId) (dI : Nat → Nat → Nat) (h0 : Nat) (tp : Nat) (sc : Nat) (rd : Nat) (cu : Nat) (im : Nat) (ig : Nat) (sl : Nat) (se : Nat) (sm : Nat) (fc : Nat) (cS : ClassId) (s0 : Nat) (s1 : Nat) (s2 : Nat) (s3 : Nat) (n0 : Nat) (n1 : Nat) (n2 : Nat) (n3 : Nat) (wd0 : Int32) (wd1 : Int32) (wd2 : Int32) (wd3 : Int32) (rz0 : Int32) (rz1 : Int32) (rz2 : Int32) (rz3 : Int32) (cJ0 : ClassId) (cJ1 : ClassId) (cJ2 : ClassId) (cJ3 : ClassId) (g0 : Nat → Int64) (g1 : Nat → Int64) (g2 : Nat → Int64) (g3 : Nat → Int64) (gh : Nat → Int32) (a1 : Int32) (a2 : Int32) (a3 : Int32) (sz : Nat) (b_wd0 : (-1 : Int) ≤ wd0.toInt ∧ wd0.toInt ≤ 3) (b_wd1 : (-1 : Int) ≤ wd1.toInt ∧ wd1.toInt ≤ 3) (b_wd2 : (-1 : Int) ≤ wd2.toInt ∧ wd2.toInt ≤ 3) (b_wd3 : (-1 : Int) ≤ wd3.toInt ∧ wd3.toInt ≤ 3) (b_rz0 : (0 : Int) ≤ rz0.toInt ∧ rz0.toInt ≤ 60) (b_rz1 : (0 : Int) ≤ rz1.toInt ∧ rz1.toInt ≤ 60) (b_rz2 : (0 : Int) ≤ rz2.toInt ∧ rz2.toInt ≤ 60) (b_rz3 : (0 : Int) ≤ rz3.toInt ∧ rz3.toInt ≤ 60) (hg9_0 : RG gh 0 wd0 rz0) (hg9_1 : RG gh 1 wd1 rz1) (hg9_2 : RG gh 2 wd2 rz2) (hg9_3 : RG gh 3 wd3 rz3) : Met l yX9_row uX9_rowG ({ frames := 2, cells := 0, slots := 0, locals := 46 }) (va_Pc [.ref h0, .int a1, .int a2, .int a3] (hw (dC, dI) vwCl [(h0, .inr (7, [.ref tp, .ref sc, .ref rd, .ref cu, .ref im, .ref ig, .ref sl, .ref se, .ref sm, .ref fc])), (sl, .inl (cS, 4, .inr (.inr (.inr (.inr (sf4 s0 s1 s2 s3)))))), (s0, .inr (2, [.int wd0, .int rz0, .ref n0])), (s1, .inr (2, [.int wd1, .int rz1, .ref n1])), (s2, .inr (2, [.int wd2, .int rz2, .ref n2])), (s3, .inr (2, [.int wd3, .int rz3, .ref n3])), (n0, .inl (cJ0, 60, .inr (.inl g0))), (n1, .inl (cJ1, 60, .inr (.inl g1))), (n2, .inl (cJ2, 60, .inr (.inl g2))), (n3, .inl (cJ3, 60, .inr (.inl g3)))] [(cS, .object RX3), (cJ0, .long), (cJ1, .long), (cJ2, .long), (cJ3, .long)] sz)) (va_Qi (fun (r : Int32) (_ : Unit) => ((-3 : Int) ≤ r.toInt ∧ r.toInt ≤ 0)) (fun (_ : Unit) t => ∃ (o0_ : Int32) (o1_ : Int32) (o2_ : Int32) (o3_ : Int32) (o4_ : Int32) (o5_ : Int32) (o6_ : Int32) (o7_ : Int32) (o8_ : Nat → Int64) (o9_ : Nat → Int64) (o10_ : Nat → Int64) (o11_ : Nat → Int64), ((-1 : Int) ≤ o0_.toInt ∧ o0_.toInt ≤ 3) ∧ ((0 : Int) ≤ o1_.toInt ∧ o1_.toInt ≤ 60) ∧ ((-1 : Int) ≤ o2_.toInt ∧ o2_.toInt ≤ 3) ∧ ((0 : Int) ≤ o3_.toInt ∧ o3_.toInt ≤ 60) ∧ ((-1 : Int) ≤ o4_.toInt ∧ o4_.toInt ≤ 3) ∧ ((0 : Int) ≤ o5_.toInt ∧ o5_.toInt ≤ 60) ∧ ((-1 : Int) ≤ o6_.toInt ∧ o6_.toInt ≤ 3) ∧ ((0 : Int) ≤ o7_.toInt ∧ o7_.toInt ≤ 60) ∧ (RG (rwG gh a1 a2 a3) 0 o0_ o1_) ∧ (RG (rwG gh a1 a2 a3) 1 o2_ o3_) ∧ (RG (rwG gh a1 a2 a3) 2 o4_ o5_) ∧ (RG (rwG gh a1 a2 a3) 3 o6_ o7_) ∧ va_P (dC, dI) vwCl [(h0, .inr (7, [.ref tp, .ref sc, .ref rd, .ref cu, .ref im, .ref ig, .ref sl, .ref se, .ref sm, .ref fc])), (sl, .inl (cS, 4, .inr (.inr (.inr (.inr (sf4 s0 s1 s2 s3)))))), (s0, .inr (2, [.int o0_, .int o1_, .ref n0])), (s1, .inr (2, [.int o2_, .int o3_, .ref n1])), (s2, .inr (2, [.int o4_, .int o5_, .ref n2])), (s3, .inr (2, [.int o6_, .int o7_, .ref n3])), (n0, .inl (cJ0, 60, .inr (.inl o8_))), (n1, .inl (cJ1, 60, .inr (.inl o9_))), (n2, .inl (cJ2, 60, .inr (.inl o10_))), (n3, .inl (cJ3, 60, .inr (.inl o11_)))] t.heap ∧ va_K (dC, dI) vwCl [(cS, .object RX3), (cJ0, .long), (cJ1, .long), (cJ2, .long), (cJ3, .long)] t ∧ va_D (va_A [(h0, .inr (7, [.ref tp, .ref sc, .ref rd, .ref cu, .ref im, .ref ig, .ref sl, .ref se, .ref sm, .ref fc])), (sl, .inl (cS, 4, .inr (.inr (.inr (.inr (sf4 s0 s1 s2 s3)))))), (s0, .inr (2, [.int wd0, .int rz0, .ref n0])), (s1, .inr (2, [.int wd1, .int rz1, .ref n1])), (s2, .inr (2, [.int wd2, .int rz2, .ref n2])), (s3, .inr (2, [.int wd3, .int rz3, .ref n3])), (n0, .inl (cJ0, 60, .inr (.inl g0))), (n1, .inl (cJ1, 60, .inr (.inl g1))), (n2, .inl (cJ2, 60, .inr (.inl g2))), (n3, .inl (cJ3, 60, .inr (.inl g3)))] sz) [(h0, .inr (7, [.ref tp, .ref sc, .ref rd, .ref cu, .ref im, .ref ig, .ref sl, .ref se, .ref sm, .ref fc])), (sl, .inl (cS, 4, .inr (.inr (.inr (.inr (sf4 s0 s1 s2 s3)))))), (s0, .inr (2, [.int o0_, .int o1_, .ref n0])), (s1, .inr (2, [.int o2_, .int o3_, .ref n1])), (s2, .inr (2, [.int o4_, .int o5_, .ref n2])), (s3, .inr (2, [.int o6_, .int o7_, .ref n3])), (n0, .inl (cJ0, 60, .inr (.inl o8_))), (n1, .inl (cJ1, 60, .inr (.inl o9_))), (n2, .inl (cJ2, 60, .inr (.inl o10_))), (n3, .inl (cJ3, 60, .inr (.inl o11_)))]) (va_A [(h0, .inr (7, [.ref tp, .ref sc, .ref rd, .ref cu, .ref im, .ref ig, .ref sl, .ref se, .ref sm, .ref fc])), (sl, .inl (cS, 4, .inr (.inr (.inr (.inr (sf4 s0 s1 s2 s3)))))), (s0, .inr (2, [.int wd0, .int rz0, .ref n0])), (s1, .inr (2, [.int wd1, .int rz1, .ref n1])), (s2, .inr (2, [.int wd2, .int rz2, .ref n2])), (s3, .inr (2, [.int wd3, .int rz3, .ref n3])), (n0, .inl (cJ0, 60, .inr (.inl g0))), (n1, .inl (cJ1, 60, .inr (.inl g1))), (n2, .inl (cJ2, 60, .inr (.inl g2))), (n3, .inl (cJ3, 60, .inr (.inl g3)))] sz)) 0 0 (va_A [(h0, .inr (7, [.ref tp, .ref sc, .ref rd, .ref cu, .ref im, .ref ig, .ref sl, .ref se, .ref sm, .ref fc])), (sl, .inl (cS, 4, .inr (.inr (.inr (.inr (sf4 s0 s1 s2 s3)))))), (s0, .inr (2, [.int wd0, .int rz0, .ref n0])), (s1, .inr (2, [.int wd1, .int rz1, .ref n1])), (s2, .inr (2, [.int wd2, .int rz2, .ref n2])), (s3, .inr (2, [.int wd3, .int rz3, .ref n3])), (n0, .inl (cJ0, 60, .inr (.inl g0))), (n1, .inl (cJ1, 60, .inr (.inl g1))), (n2, .inl (cJ2, 60, .inr (.inl g2))), (n3, .inl (cJ3, 60, .inr (.inl g3)))] sz) := by
  refine Met.ofW (cc := cX9_row) (maxL := 4) (ret := (some .int)) pn_X9 rfl ?_
  intro p e s m args below meth c s₁ B hml hv
  obtain ⟨rfl, hsz, hP, hK, hD0, hN⟩ := hv
  have hx := B.exec
  have hb := B.bytes
  have hr := B.returns
  have hts := atoms_spec (ws := uX9_rowG) B.pre
  have hown : s.vm.findClass RX9 = some m.cls := hown_of B.named rfl
  have hlocks := B.notSynchronized
  subst hsz
  have hD := hD0.self (sz := s.heap.size)
  generalize hAe : va_A [(h0, .inr (7, [.ref tp, .ref sc, .ref rd, .ref cu, .ref im, .ref ig, .ref sl, .ref se, .ref sm, .ref fc])), (sl, .inl (cS, 4, .inr (.inr (.inr (.inr (sf4 s0 s1 s2 s3)))))), (s0, .inr (2, [.int wd0, .int rz0, .ref n0])), (s1, .inr (2, [.int wd1, .int rz1, .ref n1])), (s2, .inr (2, [.int wd2, .int rz2, .ref n2])), (s3, .inr (2, [.int wd3, .int rz3, .ref n3])), (n0, .inl (cJ0, 60, .inr (.inl g0))), (n1, .inl (cJ1, 60, .inr (.inl g1))), (n2, .inl (cJ2, 60, .inr (.inl g2))), (n3, .inl (cJ3, 60, .inr (.inl g3)))] s.heap.size = A at hD ⊢
  have hA : ∀ q : Nat, s.heap.size ≤ q → A q := fun q h => by rw [← hAe]; exact Or.inr h
  have hS : va_S A s.heap s.heap [] := va_S.rf
  have hP : va_P (dC, dI) vwCl [(h0, .inr (7, [.ref tp, .ref sc, .ref rd, .ref cu, .ref im, .ref ig, .ref sl, .ref se, .ref sm, .ref fc])), (sl, .inl (cS, 4, .inr (.inr (.inr (.inr (sf4 s0 s1 s2 s3)))))), (s0, .inr (2, [.int wd0, .int rz0, .ref n0])), (s1, .inr (2, [.int wd1, .int rz1, .ref n1])), (s2, .inr (2, [.int wd2, .int rz2, .ref n2])), (s3, .inr (2, [.int wd3, .int rz3, .ref n3])), (n0, .inl (cJ0, 60, .inr (.inl g0))), (n1, .inl (cJ1, 60, .inr (.inl g1))), (n2, .inl (cJ2, 60, .inr (.inl g2))), (n3, .inl (cJ3, 60, .inr (.inl g3)))] s.heap := hP
  have hl := lv_entry ([.ref h0, .int a1, .int a2, .int a3]) (n := 4) (Nat.le_of_ble_eq_true rfl)
  rw [lg_entry_eq]
  generalize (lg_sl ([.ref h0, .int a1, .int a2, .int a3]) ++ List.replicate (4 - (lg_sl ([.ref h0, .int a1, .int a2, .int a3])).length) Slot.unset).toArray = ls at hl ⊢
  have hl : lv_has ls 4 [(0, .ref h0), (1, .int a1), (2, .int a2), (3, .int a3)] := hl
  refine lv_aload_n hx hb dX9_row_0 rfl (lv_at hl 0 rfl) ?_
  refine lv_iload_n hx hb dX9_row_1 rfl (lv_at hl 1 rfl) ?_
  refine vp_callSi (W.runV (As := [.int a1]) (rest := []) ⟨hx, hb, hml, hown, hts⟩ (kX9_hasSlot2 l dC dI h0 tp sc rd cu im ig sl se sm fc cS s0 s1 s2 s3 a1 ) (cwV 1 hts gX9_rowG__X9_hasSlot2_V206 rfl rfl rfl hd_yX9_hasSlot ⟨lel 2 2 rfl, lel 43 46 rfl⟩) ⟨pw_fb, rcv_X9 hK hP (q0 := 0) rfl, (pw_use hP hK hN [0, 1] rfl [0] rfl)⟩ rfl rfl hl.1 rfl (lv_room (Nat.le_of_ble_eq_true rfl)) dX9_row_2 ⟨lel 0 0 rfl, lel 0 0 rfl⟩) (fun r_24 h_r_24 => ?_)
  obtain ⟨b_r_24, nz_r_24, zz_r_24⟩ := h_r_24
  have b_r_24 : (0 : Int) ≤ r_24.toInt ∧ r_24.toInt ≤ 1 := b_r_24
  refine lv_if_eq (tgt := 23) hx hb dX9_row_5 (by decide) (fun c_25 => ?_) (fun c_25 => ?_)
  ·
    have n_c_25 : (r_24.toInt : Int) = 0 := c_eq rfl (by decide) c_25
    have b_r_24 : (0 : Int) ≤ r_24.toInt ∧ r_24.toInt ≤ 0 := r_eq1 b_r_24 (by decide : (0 : Int) ≤ (0 : Int32).toInt ∧ (0 : Int32).toInt ≤ 0) n_c_25 (by decide)
    have g_26 := zz_r_24 c_25
    refine lv_bipush (v := (-2)) hx hb dX9_row_23 (by decide) ?_
    have hP9 := hP.sub (ws' := [(h0, .inr (7, [.ref tp, .ref sc, .ref rd, .ref cu, .ref im, .ref ig, .ref sl, .ref se, .ref sm, .ref fc])), (sl, .inl (cS, 4, .inr (.inr (.inr (.inr (sf4 s0 s1 s2 s3)))))), (s0, .inr (2, [.int wd0, .int rz0, .ref n0])), (s1, .inr (2, [.int wd1, .int rz1, .ref n1])), (s2, .inr (2, [.int wd2, .int rz2, .ref n2])), (s3, .inr (2, [.int wd3, .int rz3, .ref n3])), (n0, .inl (cJ0, 60, .inr (.inl g0))), (n1, .inl (cJ1, 60, .inr (.inl g1))), (n2, .inl (cJ2, 60, .inr (.inl g2))), (n3, .inl (cJ3, 60, .inr (.inl g3)))]) [0, 1, 2, 3, 4, 5, 6, 7, 8, 9] rfl
    have hD9 := hD.sub (ws' := [(h0, .inr (7, [.ref tp, .ref sc, .ref rd, .ref cu, .ref im, .ref ig, .ref sl, .ref se, .ref sm, .ref fc])), (sl, .inl (cS, 4, .inr (.inr (.inr (.inr (sf4 s0 s1 s2 s3)))))), (s0, .inr (2, [.int wd0, .int rz0, .ref n0])), (s1, .inr (2, [.int wd1, .int rz1, .ref n1])), (s2, .inr (2, [.int wd2, .int rz2, .ref n2])), (s3, .inr (2, [.int wd3, .int rz3, .ref n3])), (n0, .inl (cJ0, 60, .inr (.inl g0))), (n1, .inl (cJ1, 60, .inr (.inl g1))), (n2, .inl (cJ2, 60, .inr (.inl g2))), (n3, .inl (cJ3, 60, .inr (.inl g3)))]) [0, 1, 2, 3, 4, 5, 6, 7, 8, 9] (by decide) rfl
    have hK9 := hK.sub (tys' := [(cS, .object RX3), (cJ0, .long), (cJ1, .long), (cJ2, .long), (cJ3, .long)]) [0, 1, 2, 3, 4] rfl
    exact W.iret (v := (-2)) hx hb hr (fun t ht hW => ⟨⟨(-2), (), rfl, (rg_w (by decide : (-2 : Int) ≤ ((-2) : Int32).toInt ∧ ((-2) : Int32).toInt ≤ -2) (by decide) (by decide)), wd0, rz0, wd1, rz1, wd2, rz2, wd3, rz3, g0, g1, g2, g3, b_wd0, b_rz0, b_wd1, b_rz1, b_wd2, b_rz2, b_wd3, b_rz3, (rg_no (by omega) hg9_0), (rg_no (by omega) hg9_1), (rg_no (by omega) hg9_2), (rg_no (by omega) hg9_3), by rw [ht]; exact hP9, va_K.moved hW.alike hK9, hD9⟩, hS.F ht⟩) hS.2.2 dX9_row_25
  ·
    have n_c_25 : (r_24.toInt : Int) ≠ 0 := c_ne rfl (by decide) c_25
    have b_r_24 : (1 : Int) ≤ r_24.toInt ∧ r_24.toInt ≤ 1 := r_ne1 b_r_24 (by decide : (0 : Int) ≤ (0 : Int32).toInt ∧ (0 : Int32).toInt ≤ 0) n_c_25 (by decide)
    obtain ⟨b_a1, g_27⟩ := nz_r_24 c_25
    refine lv_iload_n hx hb dX9_row_8 rfl (lv_at hl 2 rfl) ?_
    refine lv_iconst (v := 0) hx hb dX9_row_9 (by decide) ?_
    refine lv_iconst (v := 3) hx hb dX9_row_10 (by decide) ?_
    refine vp_callSi (W.runS (As := [.int a2, .int 0, .int 3]) (rest := []) ⟨hx, hb, hml, hown, hts⟩ (kX9_isWithin2 l dC dI a2 0 3 ) (va_cwS 3 hts gX9_rowG__X9_isWithin2_S158 rfl rfl rfl hd_yX9_isWithin.2 ⟨lel 1 2 rfl, lel 22 46 rfl⟩) ⟨pn_fb, pn_use⟩ rfl rfl hl.1 rfl (lv_room (Nat.le_of_ble_eq_true rfl)) dX9_row_11 ⟨lel 0 0 rfl, lel 0 0 rfl⟩) (fun r_28 h_r_28 => ?_)
    obtain ⟨b_r_28, nz_r_28, zz_r_28⟩ := h_r_28
    have b_r_28 : (0 : Int) ≤ r_28.toInt ∧ r_28.toInt ≤ 1 := b_r_28
    refine lv_if_eq (tgt := 23) hx hb dX9_row_14 (by decide) (fun c_29 => ?_) (fun c_29 => ?_)
    ·
      have n_c_29 : (r_28.toInt : Int) = 0 := c_eq rfl (by decide) c_29
      have b_r_28 : (0 : Int) ≤ r_28.toInt ∧ r_28.toInt ≤ 0 := r_eq1 b_r_28 (by decide : (0 : Int) ≤ (0 : Int32).toInt ∧ (0 : Int32).toInt ≤ 0) n_c_29 (by decide)
      have g_30 := zz_r_28 c_29
      have lt0_g_30 := (by decide : (0 : Int32).toInt = 0)
      have lt1_g_30 := (by decide : (3 : Int32).toInt = 3)
      refine lv_bipush (v := (-2)) hx hb dX9_row_23 (by decide) ?_
      have hP9 := hP.sub (ws' := [(h0, .inr (7, [.ref tp, .ref sc, .ref rd, .ref cu, .ref im, .ref ig, .ref sl, .ref se, .ref sm, .ref fc])), (sl, .inl (cS, 4, .inr (.inr (.inr (.inr (sf4 s0 s1 s2 s3)))))), (s0, .inr (2, [.int wd0, .int rz0, .ref n0])), (s1, .inr (2, [.int wd1, .int rz1, .ref n1])), (s2, .inr (2, [.int wd2, .int rz2, .ref n2])), (s3, .inr (2, [.int wd3, .int rz3, .ref n3])), (n0, .inl (cJ0, 60, .inr (.inl g0))), (n1, .inl (cJ1, 60, .inr (.inl g1))), (n2, .inl (cJ2, 60, .inr (.inl g2))), (n3, .inl (cJ3, 60, .inr (.inl g3)))]) [0, 1, 2, 3, 4, 5, 6, 7, 8, 9] rfl
      have hD9 := hD.sub (ws' := [(h0, .inr (7, [.ref tp, .ref sc, .ref rd, .ref cu, .ref im, .ref ig, .ref sl, .ref se, .ref sm, .ref fc])), (sl, .inl (cS, 4, .inr (.inr (.inr (.inr (sf4 s0 s1 s2 s3)))))), (s0, .inr (2, [.int wd0, .int rz0, .ref n0])), (s1, .inr (2, [.int wd1, .int rz1, .ref n1])), (s2, .inr (2, [.int wd2, .int rz2, .ref n2])), (s3, .inr (2, [.int wd3, .int rz3, .ref n3])), (n0, .inl (cJ0, 60, .inr (.inl g0))), (n1, .inl (cJ1, 60, .inr (.inl g1))), (n2, .inl (cJ2, 60, .inr (.inl g2))), (n3, .inl (cJ3, 60, .inr (.inl g3)))]) [0, 1, 2, 3, 4, 5, 6, 7, 8, 9] (by decide) rfl
      have hK9 := hK.sub (tys' := [(cS, .object RX3), (cJ0, .long), (cJ1, .long), (cJ2, .long), (cJ3, .long)]) [0, 1, 2, 3, 4] rfl
      exact W.iret (v := (-2)) hx hb hr (fun t ht hW => ⟨⟨(-2), (), rfl, (rg_w (by decide : (-2 : Int) ≤ ((-2) : Int32).toInt ∧ ((-2) : Int32).toInt ≤ -2) (by decide) (by decide)), wd0, rz0, wd1, rz1, wd2, rz2, wd3, rz3, g0, g1, g2, g3, b_wd0, b_rz0, b_wd1, b_rz1, b_wd2, b_rz2, b_wd3, b_rz3, (rg_no (by omega) hg9_0), (rg_no (by omega) hg9_1), (rg_no (by omega) hg9_2), (rg_no (by omega) hg9_3), by rw [ht]; exact hP9, va_K.moved hW.alike hK9, hD9⟩, hS.F ht⟩) hS.2.2 dX9_row_25
    ·
      have n_c_29 : (r_28.toInt : Int) ≠ 0 := c_ne rfl (by decide) c_29
      have b_r_28 : (1 : Int) ≤ r_28.toInt ∧ r_28.toInt ≤ 1 := r_ne1 b_r_28 (by decide : (0 : Int) ≤ (0 : Int32).toInt ∧ (0 : Int32).toInt ≤ 0) n_c_29 (by decide)
      have g_31 := nz_r_28 c_29
      have lt0_g_31 := (by decide : (0 : Int32).toInt = 0)
      have lt1_g_31 := (by decide : (3 : Int32).toInt = 3)
      have b_a2 : (0 : Int) ≤ a2.toInt ∧ a2.toInt ≤ 3 := by
        have q0 := (ti_rng a2)
        have q1 := (by decide : (0 : Int) ≤ (0 : Int32).toInt ∧ (0 : Int32).toInt ≤ 0)
        have q2 := (by decide : (3 : Int) ≤ (3 : Int32).toInt ∧ (3 : Int32).toInt ≤ 3)
        omega
      refine lv_iload_n hx hb dX9_row_17 rfl (lv_at hl 3 rfl) ?_
      refine lv_bipush (v := 60) hx hb dX9_row_18 (by decide) ?_
      refine lv_icmp_le (tgt := 26) hx hb dX9_row_20 (by decide) (fun c_32 => ?_) (fun c_32 => ?_)
      ·
        have n_c_32 : (a3.toInt : Int) ≤ 60 := c_le rfl (by decide) c_32
        have b_a3 : (-2147483648 : Int) ≤ a3.toInt ∧ a3.toInt ≤ 60 := r_le1 (ti_rng a3) (by decide : (60 : Int) ≤ (60 : Int32).toInt ∧ (60 : Int32).toInt ≤ 60) n_c_32 (by decide)
        refine lv_iload_n hx hb dX9_row_26 rfl (lv_at hl 3 rfl) ?_
        refine lv_if_ge (tgt := 33) hx hb dX9_row_27 (by decide) (fun c_33 => ?_) (fun c_33 => ?_)
        ·
          have n_c_33 : (0 : Int) ≤ a3.toInt := c_ge rfl (by decide) c_33
          have b_a3 : (0 : Int) ≤ a3.toInt ∧ a3.toInt ≤ 60 := r_le2 (by decide : (0 : Int) ≤ (0 : Int32).toInt ∧ (0 : Int32).toInt ≤ 0) b_a3 n_c_33 (by decide)
          refine lv_aload_n hx hb dX9_row_33 rfl (lv_at hl 0 rfl) ?_
          refine va_get (D := (dC, dI)) (ci := 7) (v := .ref sl) (C := RX9) (T := TX9) (N := 10) hx hb hts iX9_rowG_X9 hown hK hP 0 rfl rfl 6 (by decide) (hts (.fieldLink RX9 50 "LuckyTicket" "slots" "[LLuckyTicket$Row;") (List.mem_of_getElem? (i := 7) rfl)) (fun _ h9 => h9) rfl dX9_row_34 ?_
          refine lv_iload_n hx hb dX9_row_37 rfl (lv_at hl 1 rfl) ?_
          rcases (show a1.toInt = 0 ∨ a1.toInt = 1 ∨ a1.toInt = 2 ∨ a1.toInt = 3 by omega) with h_34 | h_34 | h_34 | h_34
          ·
            obtain rfl : a1 = 0 := Int32.toInt_inj.mp (h_34.trans (by decide))
            refine va_aldq hx hb hK hP 1 0 rfl rfl (vp_in_b (by decide : (0 : Int) ≤ (0 : Int32).toInt ∧ (0 : Int32).toInt ≤ 0) (by decide) (by decide)) dX9_row_38 ?_
            refine W.eq (g2 := F0 m 39 ls (.ref s0 :: [])) (congrArg (fun v => F0 m 39 ls (va_rf v :: [])) (sf4_0 s0 s1 s2 s3)) ?_
            refine lv_iload_n hx hb dX9_row_39 rfl (lv_at hl 2 rfl) ?_
            refine lv_iload_n hx hb dX9_row_40 rfl (lv_at hl 3 rfl) ?_
            have hFc := va_free (wc := [(s0, .inr (2, [.int wd0, .int rz0, .ref n0])), (n0, .inl (cJ0, 60, .inr (.inl g0)))]) hD hS hA [2, 6] rfl
            refine va_callv (va_runV (As := [.int a2, .int a3]) (rest := []) ⟨hx, hb, hml, hown, hts⟩ (kX3_begin l dC dI s0 wd0 rz0 n0 cJ0 g0 a2 a3 (s.heap.size) b_wd0 b_rz0 b_a2 b_a3) (cwV 2 hts gX9_rowG__X3_begin_V340 rfl rfl rfl hd_yX3_begin ⟨lel 2 2 rfl, lel 46 46 rfl⟩) ⟨hw_fb, rcv_X3 hK hP (q0 := 2) rfl, (hw_use hP hD hK hN [2, 6] rfl (by decide) rfl [1] rfl)⟩ rfl rfl hl.1 rfl (lv_room (Nat.le_of_ble_eq_true rfl)) dX9_row_41 ⟨lel 0 0 rfl, lel 0 0 rfl⟩) hS (fun q _ h => hFc q h) hFc (fun u_36 t H1 locs ht hvm hw_r_35 hB hz1 hk1 hS => ?_)
            obtain ⟨o2_37, hP1, hK1, hD1⟩ := hB
            rw [ht] at hP1
            have hK1 := va_K.moved hvm.symm hK1
            obtain ⟨hP, hD⟩ := va_join (wr := [(h0, .inr (7, [.ref tp, .ref sc, .ref rd, .ref cu, .ref im, .ref ig, .ref sl, .ref se, .ref sm, .ref fc])), (sl, .inl (cS, 4, .inr (.inr (.inr (.inr (sf4 s0 s1 s2 s3)))))), (s1, .inr (2, [.int wd1, .int rz1, .ref n1])), (s2, .inr (2, [.int wd2, .int rz2, .ref n2])), (s3, .inr (2, [.int wd3, .int rz3, .ref n3])), (n1, .inl (cJ1, 60, .inr (.inl g1))), (n2, .inl (cJ2, 60, .inr (.inl g2))), (n3, .inl (cJ3, 60, .inr (.inl g3)))]) (w1 := [(s0, .inr (2, [.int a2, .int a3, .ref n0])), (n0, .inl (cJ0, 60, .inr (.inl o2_37)))]) hP hD [2, 6] [0, 1, 3, 4, 5, 7, 8, 9] rfl rfl (by decide) (by decide) hk1 hFc hP1 hD1
            have hK := (hK.sub (tys' := [(cS, .object RX3), (cJ1, .long), (cJ2, .long), (cJ3, .long)]) [0, 2, 3, 4] rfl).app hK1
            generalize H1 = H at hP hS ⊢
            have hP := hP.sub (ws' := [(h0, .inr (7, [.ref tp, .ref sc, .ref rd, .ref cu, .ref im, .ref ig, .ref sl, .ref se, .ref sm, .ref fc])), (sl, .inl (cS, 4, .inr (.inr (.inr (.inr (sf4 s0 s1 s2 s3)))))), (s0, .inr (2, [.int a2, .int a3, .ref n0])), (s1, .inr (2, [.int wd1, .int rz1, .ref n1])), (s2, .inr (2, [.int wd2, .int rz2, .ref n2])), (s3, .inr (2, [.int wd3, .int rz3, .ref n3])), (n0, .inl (cJ0, 60, .inr (.inl o2_37))), (n1, .inl (cJ1, 60, .inr (.inl g1))), (n2, .inl (cJ2, 60, .inr (.inl g2))), (n3, .inl (cJ3, 60, .inr (.inl g3)))]) [0, 1, 8, 2, 3, 4, 9, 5, 6, 7] rfl
            have hD := hD.sub (ws' := [(h0, .inr (7, [.ref tp, .ref sc, .ref rd, .ref cu, .ref im, .ref ig, .ref sl, .ref se, .ref sm, .ref fc])), (sl, .inl (cS, 4, .inr (.inr (.inr (.inr (sf4 s0 s1 s2 s3)))))), (s0, .inr (2, [.int a2, .int a3, .ref n0])), (s1, .inr (2, [.int wd1, .int rz1, .ref n1])), (s2, .inr (2, [.int wd2, .int rz2, .ref n2])), (s3, .inr (2, [.int wd3, .int rz3, .ref n3])), (n0, .inl (cJ0, 60, .inr (.inl o2_37))), (n1, .inl (cJ1, 60, .inr (.inl g1))), (n2, .inl (cJ2, 60, .inr (.inl g2))), (n3, .inl (cJ3, 60, .inr (.inl g3)))]) [0, 1, 8, 2, 3, 4, 9, 5, 6, 7] (by decide) rfl
            have hK := hK.sub (tys' := [(cS, .object RX3), (cJ0, .long), (cJ1, .long), (cJ2, .long), (cJ3, .long)]) [0, 4, 1, 2, 3] rfl
            have hP : va_P (dC, dI) vwCl [(h0, .inr (7, [.ref tp, .ref sc, .ref rd, .ref cu, .ref im, .ref ig, .ref sl, .ref se, .ref sm, .ref fc])), (sl, .inl (cS, 4, .inr (.inr (.inr (.inr (sf4 s0 s1 s2 s3)))))), (s0, .inr (2, [.int a2, .int a3, .ref n0])), (s1, .inr (2, [.int wd1, .int rz1, .ref n1])), (s2, .inr (2, [.int wd2, .int rz2, .ref n2])), (s3, .inr (2, [.int wd3, .int rz3, .ref n3])), (n0, .inl (cJ0, 60, .inr (.inl o2_37))), (n1, .inl (cJ1, 60, .inr (.inl g1))), (n2, .inl (cJ2, 60, .inr (.inl g2))), (n3, .inl (cJ3, 60, .inr (.inl g3)))] H := hP
            have hD : va_D A [(h0, .inr (7, [.ref tp, .ref sc, .ref rd, .ref cu, .ref im, .ref ig, .ref sl, .ref se, .ref sm, .ref fc])), (sl, .inl (cS, 4, .inr (.inr (.inr (.inr (sf4 s0 s1 s2 s3)))))), (s0, .inr (2, [.int a2, .int a3, .ref n0])), (s1, .inr (2, [.int wd1, .int rz1, .ref n1])), (s2, .inr (2, [.int wd2, .int rz2, .ref n2])), (s3, .inr (2, [.int wd3, .int rz3, .ref n3])), (n0, .inl (cJ0, 60, .inr (.inl o2_37))), (n1, .inl (cJ1, 60, .inr (.inl g1))), (n2, .inl (cJ2, 60, .inr (.inl g2))), (n3, .inl (cJ3, 60, .inr (.inl g3)))] := hD
            have hK : va_K (dC, dI) vwCl [(cS, .object RX3), (cJ0, .long), (cJ1, .long), (cJ2, .long), (cJ3, .long)] s := hK
            refine lv_iconst (v := 0) hx hb dX9_row_44 (by decide) ?_
            have hP9 := hP.sub (ws' := [(h0, .inr (7, [.ref tp, .ref sc, .ref rd, .ref cu, .ref im, .ref ig, .ref sl, .ref se, .ref sm, .ref fc])), (sl, .inl (cS, 4, .inr (.inr (.inr (.inr (sf4 s0 s1 s2 s3)))))), (s0, .inr (2, [.int a2, .int a3, .ref n0])), (s1, .inr (2, [.int wd1, .int rz1, .ref n1])), (s2, .inr (2, [.int wd2, .int rz2, .ref n2])), (s3, .inr (2, [.int wd3, .int rz3, .ref n3])), (n0, .inl (cJ0, 60, .inr (.inl o2_37))), (n1, .inl (cJ1, 60, .inr (.inl g1))), (n2, .inl (cJ2, 60, .inr (.inl g2))), (n3, .inl (cJ3, 60, .inr (.inl g3)))]) [0, 1, 2, 3, 4, 5, 6, 7, 8, 9] rfl
            have hD9 := hD.sub (ws' := [(h0, .inr (7, [.ref tp, .ref sc, .ref rd, .ref cu, .ref im, .ref ig, .ref sl, .ref se, .ref sm, .ref fc])), (sl, .inl (cS, 4, .inr (.inr (.inr (.inr (sf4 s0 s1 s2 s3)))))), (s0, .inr (2, [.int a2, .int a3, .ref n0])), (s1, .inr (2, [.int wd1, .int rz1, .ref n1])), (s2, .inr (2, [.int wd2, .int rz2, .ref n2])), (s3, .inr (2, [.int wd3, .int rz3, .ref n3])), (n0, .inl (cJ0, 60, .inr (.inl o2_37))), (n1, .inl (cJ1, 60, .inr (.inl g1))), (n2, .inl (cJ2, 60, .inr (.inl g2))), (n3, .inl (cJ3, 60, .inr (.inl g3)))]) [0, 1, 2, 3, 4, 5, 6, 7, 8, 9] (by decide) rfl
            have hK9 := hK.sub (tys' := [(cS, .object RX3), (cJ0, .long), (cJ1, .long), (cJ2, .long), (cJ3, .long)]) [0, 1, 2, 3, 4] rfl
            exact W.iret (v := 0) hx hb hr (fun t ht hW => ⟨⟨0, (), rfl, (rg_w (by decide : (0 : Int) ≤ (0 : Int32).toInt ∧ (0 : Int32).toInt ≤ 0) (by decide) (by decide)), a2, a3, wd1, rz1, wd2, rz2, wd3, rz3, o2_37, g1, g2, g3, (rg_w b_a2 (by decide) (by decide)), b_a3, b_wd1, b_rz1, b_wd2, b_rz2, b_wd3, b_rz3, (rg_at1 (j := 0) (show _ ∧ _ ∧ _ from ⟨by decide, ⟨by omega, by omega⟩, ⟨by omega, by omega⟩⟩) (by decide)), (rg_ne (j := 1) (show _ ∧ _ ∧ _ from ⟨by decide, ⟨by omega, by omega⟩, ⟨by omega, by omega⟩⟩) (by decide) (by decide) hg9_1), (rg_ne (j := 2) (show _ ∧ _ ∧ _ from ⟨by decide, ⟨by omega, by omega⟩, ⟨by omega, by omega⟩⟩) (by decide) (by decide) hg9_2), (rg_ne (j := 3) (show _ ∧ _ ∧ _ from ⟨by decide, ⟨by omega, by omega⟩, ⟨by omega, by omega⟩⟩) (by decide) (by decide) hg9_3), by rw [ht]; exact hP9, va_K.moved hW.alike hK9, hD9⟩, hS.F ht⟩) hS.2.2 dX9_row_45
          ·
            obtain rfl : a1 = 1 := Int32.toInt_inj.mp (h_34.trans (by decide))
            refine va_aldq hx hb hK hP 1 0 rfl rfl (vp_in_b (by decide : (1 : Int) ≤ (1 : Int32).toInt ∧ (1 : Int32).toInt ≤ 1) (by decide) (by decide)) dX9_row_38 ?_
            refine W.eq (g2 := F0 m 39 ls (.ref s1 :: [])) (congrArg (fun v => F0 m 39 ls (va_rf v :: [])) (sf4_1 s0 s1 s2 s3)) ?_
            refine lv_iload_n hx hb dX9_row_39 rfl (lv_at hl 2 rfl) ?_
            refine lv_iload_n hx hb dX9_row_40 rfl (lv_at hl 3 rfl) ?_
            have hFc := va_free (wc := [(s1, .inr (2, [.int wd1, .int rz1, .ref n1])), (n1, .inl (cJ1, 60, .inr (.inl g1)))]) hD hS hA [3, 7] rfl
            refine va_callv (va_runV (As := [.int a2, .int a3]) (rest := []) ⟨hx, hb, hml, hown, hts⟩ (kX3_begin l dC dI s1 wd1 rz1 n1 cJ1 g1 a2 a3 (s.heap.size) b_wd1 b_rz1 b_a2 b_a3) (cwV 2 hts gX9_rowG__X3_begin_V340 rfl rfl rfl hd_yX3_begin ⟨lel 2 2 rfl, lel 46 46 rfl⟩) ⟨hw_fb, rcv_X3 hK hP (q0 := 3) rfl, (hw_use hP hD hK hN [3, 7] rfl (by decide) rfl [2] rfl)⟩ rfl rfl hl.1 rfl (lv_room (Nat.le_of_ble_eq_true rfl)) dX9_row_41 ⟨lel 0 0 rfl, lel 0 0 rfl⟩) hS (fun q _ h => hFc q h) hFc (fun u_39 t H1 locs ht hvm hw_r_38 hB hz1 hk1 hS => ?_)
            obtain ⟨o2_40, hP1, hK1, hD1⟩ := hB
            rw [ht] at hP1
            have hK1 := va_K.moved hvm.symm hK1
            obtain ⟨hP, hD⟩ := va_join (wr := [(h0, .inr (7, [.ref tp, .ref sc, .ref rd, .ref cu, .ref im, .ref ig, .ref sl, .ref se, .ref sm, .ref fc])), (sl, .inl (cS, 4, .inr (.inr (.inr (.inr (sf4 s0 s1 s2 s3)))))), (s0, .inr (2, [.int wd0, .int rz0, .ref n0])), (s2, .inr (2, [.int wd2, .int rz2, .ref n2])), (s3, .inr (2, [.int wd3, .int rz3, .ref n3])), (n0, .inl (cJ0, 60, .inr (.inl g0))), (n2, .inl (cJ2, 60, .inr (.inl g2))), (n3, .inl (cJ3, 60, .inr (.inl g3)))]) (w1 := [(s1, .inr (2, [.int a2, .int a3, .ref n1])), (n1, .inl (cJ1, 60, .inr (.inl o2_40)))]) hP hD [3, 7] [0, 1, 2, 4, 5, 6, 8, 9] rfl rfl (by decide) (by decide) hk1 hFc hP1 hD1
            have hK := (hK.sub (tys' := [(cS, .object RX3), (cJ0, .long), (cJ2, .long), (cJ3, .long)]) [0, 1, 3, 4] rfl).app hK1
            generalize H1 = H at hP hS ⊢
            have hP := hP.sub (ws' := [(h0, .inr (7, [.ref tp, .ref sc, .ref rd, .ref cu, .ref im, .ref ig, .ref sl, .ref se, .ref sm, .ref fc])), (sl, .inl (cS, 4, .inr (.inr (.inr (.inr (sf4 s0 s1 s2 s3)))))), (s0, .inr (2, [.int wd0, .int rz0, .ref n0])), (s1, .inr (2, [.int a2, .int a3, .ref n1])), (s2, .inr (2, [.int wd2, .int rz2, .ref n2])), (s3, .inr (2, [.int wd3, .int rz3, .ref n3])), (n0, .inl (cJ0, 60, .inr (.inl g0))), (n1, .inl (cJ1, 60, .inr (.inl o2_40))), (n2, .inl (cJ2, 60, .inr (.inl g2))), (n3, .inl (cJ3, 60, .inr (.inl g3)))]) [0, 1, 2, 8, 3, 4, 5, 9, 6, 7] rfl
            have hD := hD.sub (ws' := [(h0, .inr (7, [.ref tp, .ref sc, .ref rd, .ref cu, .ref im, .ref ig, .ref sl, .ref se, .ref sm, .ref fc])), (sl, .inl (cS, 4, .inr (.inr (.inr (.inr (sf4 s0 s1 s2 s3)))))), (s0, .inr (2, [.int wd0, .int rz0, .ref n0])), (s1, .inr (2, [.int a2, .int a3, .ref n1])), (s2, .inr (2, [.int wd2, .int rz2, .ref n2])), (s3, .inr (2, [.int wd3, .int rz3, .ref n3])), (n0, .inl (cJ0, 60, .inr (.inl g0))), (n1, .inl (cJ1, 60, .inr (.inl o2_40))), (n2, .inl (cJ2, 60, .inr (.inl g2))), (n3, .inl (cJ3, 60, .inr (.inl g3)))]) [0, 1, 2, 8, 3, 4, 5, 9, 6, 7] (by decide) rfl
            have hK := hK.sub (tys' := [(cS, .object RX3), (cJ0, .long), (cJ1, .long), (cJ2, .long), (cJ3, .long)]) [0, 1, 4, 2, 3] rfl
            have hP : va_P (dC, dI) vwCl [(h0, .inr (7, [.ref tp, .ref sc, .ref rd, .ref cu, .ref im, .ref ig, .ref sl, .ref se, .ref sm, .ref fc])), (sl, .inl (cS, 4, .inr (.inr (.inr (.inr (sf4 s0 s1 s2 s3)))))), (s0, .inr (2, [.int wd0, .int rz0, .ref n0])), (s1, .inr (2, [.int a2, .int a3, .ref n1])), (s2, .inr (2, [.int wd2, .int rz2, .ref n2])), (s3, .inr (2, [.int wd3, .int rz3, .ref n3])), (n0, .inl (cJ0, 60, .inr (.inl g0))), (n1, .inl (cJ1, 60, .inr (.inl o2_40))), (n2, .inl (cJ2, 60, .inr (.inl g2))), (n3, .inl (cJ3, 60, .inr (.inl g3)))] H := hP
            have hD : va_D A [(h0, .inr (7, [.ref tp, .ref sc, .ref rd, .ref cu, .ref im, .ref ig, .ref sl, .ref se, .ref sm, .ref fc])), (sl, .inl (cS, 4, .inr (.inr (.inr (.inr (sf4 s0 s1 s2 s3)))))), (s0, .inr (2, [.int wd0, .int rz0, .ref n0])), (s1, .inr (2, [.int a2, .int a3, .ref n1])), (s2, .inr (2, [.int wd2, .int rz2, .ref n2])), (s3, .inr (2, [.int wd3, .int rz3, .ref n3])), (n0, .inl (cJ0, 60, .inr (.inl g0))), (n1, .inl (cJ1, 60, .inr (.inl o2_40))), (n2, .inl (cJ2, 60, .inr (.inl g2))), (n3, .inl (cJ3, 60, .inr (.inl g3)))] := hD
            have hK : va_K (dC, dI) vwCl [(cS, .object RX3), (cJ0, .long), (cJ1, .long), (cJ2, .long), (cJ3, .long)] s := hK
            refine lv_iconst (v := 0) hx hb dX9_row_44 (by decide) ?_
            have hP9 := hP.sub (ws' := [(h0, .inr (7, [.ref tp, .ref sc, .ref rd, .ref cu, .ref im, .ref ig, .ref sl, .ref se, .ref sm, .ref fc])), (sl, .inl (cS, 4, .inr (.inr (.inr (.inr (sf4 s0 s1 s2 s3)))))), (s0, .inr (2, [.int wd0, .int rz0, .ref n0])), (s1, .inr (2, [.int a2, .int a3, .ref n1])), (s2, .inr (2, [.int wd2, .int rz2, .ref n2])), (s3, .inr (2, [.int wd3, .int rz3, .ref n3])), (n0, .inl (cJ0, 60, .inr (.inl g0))), (n1, .inl (cJ1, 60, .inr (.inl o2_40))), (n2, .inl (cJ2, 60, .inr (.inl g2))), (n3, .inl (cJ3, 60, .inr (.inl g3)))]) [0, 1, 2, 3, 4, 5, 6, 7, 8, 9] rfl
            have hD9 := hD.sub (ws' := [(h0, .inr (7, [.ref tp, .ref sc, .ref rd, .ref cu, .ref im, .ref ig, .ref sl, .ref se, .ref sm, .ref fc])), (sl, .inl (cS, 4, .inr (.inr (.inr (.inr (sf4 s0 s1 s2 s3)))))), (s0, .inr (2, [.int wd0, .int rz0, .ref n0])), (s1, .inr (2, [.int a2, .int a3, .ref n1])), (s2, .inr (2, [.int wd2, .int rz2, .ref n2])), (s3, .inr (2, [.int wd3, .int rz3, .ref n3])), (n0, .inl (cJ0, 60, .inr (.inl g0))), (n1, .inl (cJ1, 60, .inr (.inl o2_40))), (n2, .inl (cJ2, 60, .inr (.inl g2))), (n3, .inl (cJ3, 60, .inr (.inl g3)))]) [0, 1, 2, 3, 4, 5, 6, 7, 8, 9] (by decide) rfl
            have hK9 := hK.sub (tys' := [(cS, .object RX3), (cJ0, .long), (cJ1, .long), (cJ2, .long), (cJ3, .long)]) [0, 1, 2, 3, 4] rfl
            exact W.iret (v := 0) hx hb hr (fun t ht hW => ⟨⟨0, (), rfl, (rg_w (by decide : (0 : Int) ≤ (0 : Int32).toInt ∧ (0 : Int32).toInt ≤ 0) (by decide) (by decide)), wd0, rz0, a2, a3, wd2, rz2, wd3, rz3, g0, o2_40, g2, g3, b_wd0, b_rz0, (rg_w b_a2 (by decide) (by decide)), b_a3, b_wd2, b_rz2, b_wd3, b_rz3, (rg_ne (j := 0) (show _ ∧ _ ∧ _ from ⟨by decide, ⟨by omega, by omega⟩, ⟨by omega, by omega⟩⟩) (by decide) (by decide) hg9_0), (rg_at1 (j := 1) (show _ ∧ _ ∧ _ from ⟨by decide, ⟨by omega, by omega⟩, ⟨by omega, by omega⟩⟩) (by decide)), (rg_ne (j := 2) (show _ ∧ _ ∧ _ from ⟨by decide, ⟨by omega, by omega⟩, ⟨by omega, by omega⟩⟩) (by decide) (by decide) hg9_2), (rg_ne (j := 3) (show _ ∧ _ ∧ _ from ⟨by decide, ⟨by omega, by omega⟩, ⟨by omega, by omega⟩⟩) (by decide) (by decide) hg9_3), by rw [ht]; exact hP9, va_K.moved hW.alike hK9, hD9⟩, hS.F ht⟩) hS.2.2 dX9_row_45
          ·
            obtain rfl : a1 = 2 := Int32.toInt_inj.mp (h_34.trans (by decide))
            refine va_aldq hx hb hK hP 1 0 rfl rfl (vp_in_b (by decide : (2 : Int) ≤ (2 : Int32).toInt ∧ (2 : Int32).toInt ≤ 2) (by decide) (by decide)) dX9_row_38 ?_
            refine W.eq (g2 := F0 m 39 ls (.ref s2 :: [])) (congrArg (fun v => F0 m 39 ls (va_rf v :: [])) (sf4_2 s0 s1 s2 s3)) ?_
            refine lv_iload_n hx hb dX9_row_39 rfl (lv_at hl 2 rfl) ?_
            refine lv_iload_n hx hb dX9_row_40 rfl (lv_at hl 3 rfl) ?_
            have hFc := va_free (wc := [(s2, .inr (2, [.int wd2, .int rz2, .ref n2])), (n2, .inl (cJ2, 60, .inr (.inl g2)))]) hD hS hA [4, 8] rfl
            refine va_callv (va_runV (As := [.int a2, .int a3]) (rest := []) ⟨hx, hb, hml, hown, hts⟩ (kX3_begin l dC dI s2 wd2 rz2 n2 cJ2 g2 a2 a3 (s.heap.size) b_wd2 b_rz2 b_a2 b_a3) (cwV 2 hts gX9_rowG__X3_begin_V340 rfl rfl rfl hd_yX3_begin ⟨lel 2 2 rfl, lel 46 46 rfl⟩) ⟨hw_fb, rcv_X3 hK hP (q0 := 4) rfl, (hw_use hP hD hK hN [4, 8] rfl (by decide) rfl [3] rfl)⟩ rfl rfl hl.1 rfl (lv_room (Nat.le_of_ble_eq_true rfl)) dX9_row_41 ⟨lel 0 0 rfl, lel 0 0 rfl⟩) hS (fun q _ h => hFc q h) hFc (fun u_42 t H1 locs ht hvm hw_r_41 hB hz1 hk1 hS => ?_)
            obtain ⟨o2_43, hP1, hK1, hD1⟩ := hB
            rw [ht] at hP1
            have hK1 := va_K.moved hvm.symm hK1
            obtain ⟨hP, hD⟩ := va_join (wr := [(h0, .inr (7, [.ref tp, .ref sc, .ref rd, .ref cu, .ref im, .ref ig, .ref sl, .ref se, .ref sm, .ref fc])), (sl, .inl (cS, 4, .inr (.inr (.inr (.inr (sf4 s0 s1 s2 s3)))))), (s0, .inr (2, [.int wd0, .int rz0, .ref n0])), (s1, .inr (2, [.int wd1, .int rz1, .ref n1])), (s3, .inr (2, [.int wd3, .int rz3, .ref n3])), (n0, .inl (cJ0, 60, .inr (.inl g0))), (n1, .inl (cJ1, 60, .inr (.inl g1))), (n3, .inl (cJ3, 60, .inr (.inl g3)))]) (w1 := [(s2, .inr (2, [.int a2, .int a3, .ref n2])), (n2, .inl (cJ2, 60, .inr (.inl o2_43)))]) hP hD [4, 8] [0, 1, 2, 3, 5, 6, 7, 9] rfl rfl (by decide) (by decide) hk1 hFc hP1 hD1
            have hK := (hK.sub (tys' := [(cS, .object RX3), (cJ0, .long), (cJ1, .long), (cJ3, .long)]) [0, 1, 2, 4] rfl).app hK1
            generalize H1 = H at hP hS ⊢
            have hP := hP.sub (ws' := [(h0, .inr (7, [.ref tp, .ref sc, .ref rd, .ref cu, .ref im, .ref ig, .ref sl, .ref se, .ref sm, .ref fc])), (sl, .inl (cS, 4, .inr (.inr (.inr (.inr (sf4 s0 s1 s2 s3)))))), (s0, .inr (2, [.int wd0, .int rz0, .ref n0])), (s1, .inr (2, [.int wd1, .int rz1, .ref n1])), (s2, .inr (2, [.int a2, .int a3, .ref n2])), (s3, .inr (2, [.int wd3, .int rz3, .ref n3])), (n0, .inl (cJ0, 60, .inr (.inl g0))), (n1, .inl (cJ1, 60, .inr (.inl g1))), (n2, .inl (cJ2, 60, .inr (.inl o2_43))), (n3, .inl (cJ3, 60, .inr (.inl g3)))]) [0, 1, 2, 3, 8, 4, 5, 6, 9, 7] rfl
            have hD := hD.sub (ws' := [(h0, .inr (7, [.ref tp, .ref sc, .ref rd, .ref cu, .ref im, .ref ig, .ref sl, .ref se, .ref sm, .ref fc])), (sl, .inl (cS, 4, .inr (.inr (.inr (.inr (sf4 s0 s1 s2 s3)))))), (s0, .inr (2, [.int wd0, .int rz0, .ref n0])), (s1, .inr (2, [.int wd1, .int rz1, .ref n1])), (s2, .inr (2, [.int a2, .int a3, .ref n2])), (s3, .inr (2, [.int wd3, .int rz3, .ref n3])), (n0, .inl (cJ0, 60, .inr (.inl g0))), (n1, .inl (cJ1, 60, .inr (.inl g1))), (n2, .inl (cJ2, 60, .inr (.inl o2_43))), (n3, .inl (cJ3, 60, .inr (.inl g3)))]) [0, 1, 2, 3, 8, 4, 5, 6, 9, 7] (by decide) rfl
            have hK := hK.sub (tys' := [(cS, .object RX3), (cJ0, .long), (cJ1, .long), (cJ2, .long), (cJ3, .long)]) [0, 1, 2, 4, 3] rfl
            have hP : va_P (dC, dI) vwCl [(h0, .inr (7, [.ref tp, .ref sc, .ref rd, .ref cu, .ref im, .ref ig, .ref sl, .ref se, .ref sm, .ref fc])), (sl, .inl (cS, 4, .inr (.inr (.inr (.inr (sf4 s0 s1 s2 s3)))))), (s0, .inr (2, [.int wd0, .int rz0, .ref n0])), (s1, .inr (2, [.int wd1, .int rz1, .ref n1])), (s2, .inr (2, [.int a2, .int a3, .ref n2])), (s3, .inr (2, [.int wd3, .int rz3, .ref n3])), (n0, .inl (cJ0, 60, .inr (.inl g0))), (n1, .inl (cJ1, 60, .inr (.inl g1))), (n2, .inl (cJ2, 60, .inr (.inl o2_43))), (n3, .inl (cJ3, 60, .inr (.inl g3)))] H := hP
            have hD : va_D A [(h0, .inr (7, [.ref tp, .ref sc, .ref rd, .ref cu, .ref im, .ref ig, .ref sl, .ref se, .ref sm, .ref fc])), (sl, .inl (cS, 4, .inr (.inr (.inr (.inr (sf4 s0 s1 s2 s3)))))), (s0, .inr (2, [.int wd0, .int rz0, .ref n0])), (s1, .inr (2, [.int wd1, .int rz1, .ref n1])), (s2, .inr (2, [.int a2, .int a3, .ref n2])), (s3, .inr (2, [.int wd3, .int rz3, .ref n3])), (n0, .inl (cJ0, 60, .inr (.inl g0))), (n1, .inl (cJ1, 60, .inr (.inl g1))), (n2, .inl (cJ2, 60, .inr (.inl o2_43))), (n3, .inl (cJ3, 60, .inr (.inl g3)))] := hD
            have hK : va_K (dC, dI) vwCl [(cS, .object RX3), (cJ0, .long), (cJ1, .long), (cJ2, .long), (cJ3, .long)] s := hK
            refine lv_iconst (v := 0) hx hb dX9_row_44 (by decide) ?_
            have hP9 := hP.sub (ws' := [(h0, .inr (7, [.ref tp, .ref sc, .ref rd, .ref cu, .ref im, .ref ig, .ref sl, .ref se, .ref sm, .ref fc])), (sl, .inl (cS, 4, .inr (.inr (.inr (.inr (sf4 s0 s1 s2 s3)))))), (s0, .inr (2, [.int wd0, .int rz0, .ref n0])), (s1, .inr (2, [.int wd1, .int rz1, .ref n1])), (s2, .inr (2, [.int a2, .int a3, .ref n2])), (s3, .inr (2, [.int wd3, .int rz3, .ref n3])), (n0, .inl (cJ0, 60, .inr (.inl g0))), (n1, .inl (cJ1, 60, .inr (.inl g1))), (n2, .inl (cJ2, 60, .inr (.inl o2_43))), (n3, .inl (cJ3, 60, .inr (.inl g3)))]) [0, 1, 2, 3, 4, 5, 6, 7, 8, 9] rfl
            have hD9 := hD.sub (ws' := [(h0, .inr (7, [.ref tp, .ref sc, .ref rd, .ref cu, .ref im, .ref ig, .ref sl, .ref se, .ref sm, .ref fc])), (sl, .inl (cS, 4, .inr (.inr (.inr (.inr (sf4 s0 s1 s2 s3)))))), (s0, .inr (2, [.int wd0, .int rz0, .ref n0])), (s1, .inr (2, [.int wd1, .int rz1, .ref n1])), (s2, .inr (2, [.int a2, .int a3, .ref n2])), (s3, .inr (2, [.int wd3, .int rz3, .ref n3])), (n0, .inl (cJ0, 60, .inr (.inl g0))), (n1, .inl (cJ1, 60, .inr (.inl g1))), (n2, .inl (cJ2, 60, .inr (.inl o2_43))), (n3, .inl (cJ3, 60, .inr (.inl g3)))]) [0, 1, 2, 3, 4, 5, 6, 7, 8, 9] (by decide) rfl
            have hK9 := hK.sub (tys' := [(cS, .object RX3), (cJ0, .long), (cJ1, .long), (cJ2, .long), (cJ3, .long)]) [0, 1, 2, 3, 4] rfl
            exact W.iret (v := 0) hx hb hr (fun t ht hW => ⟨⟨0, (), rfl, (rg_w (by decide : (0 : Int) ≤ (0 : Int32).toInt ∧ (0 : Int32).toInt ≤ 0) (by decide) (by decide)), wd0, rz0, wd1, rz1, a2, a3, wd3, rz3, g0, g1, o2_43, g3, b_wd0, b_rz0, b_wd1, b_rz1, (rg_w b_a2 (by decide) (by decide)), b_a3, b_wd3, b_rz3, (rg_ne (j := 0) (show _ ∧ _ ∧ _ from ⟨by decide, ⟨by omega, by omega⟩, ⟨by omega, by omega⟩⟩) (by decide) (by decide) hg9_0), (rg_ne (j := 1) (show _ ∧ _ ∧ _ from ⟨by decide, ⟨by omega, by omega⟩, ⟨by omega, by omega⟩⟩) (by decide) (by decide) hg9_1), (rg_at1 (j := 2) (show _ ∧ _ ∧ _ from ⟨by decide, ⟨by omega, by omega⟩, ⟨by omega, by omega⟩⟩) (by decide)), (rg_ne (j := 3) (show _ ∧ _ ∧ _ from ⟨by decide, ⟨by omega, by omega⟩, ⟨by omega, by omega⟩⟩) (by decide) (by decide) hg9_3), by rw [ht]; exact hP9, va_K.moved hW.alike hK9, hD9⟩, hS.F ht⟩) hS.2.2 dX9_row_45
          ·
            obtain rfl : a1 = 3 := Int32.toInt_inj.mp (h_34.trans (by decide))
            refine va_aldq hx hb hK hP 1 0 rfl rfl (vp_in_b (by decide : (3 : Int) ≤ (3 : Int32).toInt ∧ (3 : Int32).toInt ≤ 3) (by decide) (by decide)) dX9_row_38 ?_
            refine W.eq (g2 := F0 m 39 ls (.ref s3 :: [])) (congrArg (fun v => F0 m 39 ls (va_rf v :: [])) (sf4_3 s0 s1 s2 s3)) ?_
            refine lv_iload_n hx hb dX9_row_39 rfl (lv_at hl 2 rfl) ?_
            refine lv_iload_n hx hb dX9_row_40 rfl (lv_at hl 3 rfl) ?_
            have hFc := va_free (wc := [(s3, .inr (2, [.int wd3, .int rz3, .ref n3])), (n3, .inl (cJ3, 60, .inr (.inl g3)))]) hD hS hA [5, 9] rfl
            refine va_callv (va_runV (As := [.int a2, .int a3]) (rest := []) ⟨hx, hb, hml, hown, hts⟩ (kX3_begin l dC dI s3 wd3 rz3 n3 cJ3 g3 a2 a3 (s.heap.size) b_wd3 b_rz3 b_a2 b_a3) (cwV 2 hts gX9_rowG__X3_begin_V340 rfl rfl rfl hd_yX3_begin ⟨lel 2 2 rfl, lel 46 46 rfl⟩) ⟨hw_fb, rcv_X3 hK hP (q0 := 5) rfl, (hw_use hP hD hK hN [5, 9] rfl (by decide) rfl [4] rfl)⟩ rfl rfl hl.1 rfl (lv_room (Nat.le_of_ble_eq_true rfl)) dX9_row_41 ⟨lel 0 0 rfl, lel 0 0 rfl⟩) hS (fun q _ h => hFc q h) hFc (fun u_45 t H1 locs ht hvm hw_r_44 hB hz1 hk1 hS => ?_)
            obtain ⟨o2_46, hP1, hK1, hD1⟩ := hB
            rw [ht] at hP1
            have hK1 := va_K.moved hvm.symm hK1
            obtain ⟨hP, hD⟩ := va_join (wr := [(h0, .inr (7, [.ref tp, .ref sc, .ref rd, .ref cu, .ref im, .ref ig, .ref sl, .ref se, .ref sm, .ref fc])), (sl, .inl (cS, 4, .inr (.inr (.inr (.inr (sf4 s0 s1 s2 s3)))))), (s0, .inr (2, [.int wd0, .int rz0, .ref n0])), (s1, .inr (2, [.int wd1, .int rz1, .ref n1])), (s2, .inr (2, [.int wd2, .int rz2, .ref n2])), (n0, .inl (cJ0, 60, .inr (.inl g0))), (n1, .inl (cJ1, 60, .inr (.inl g1))), (n2, .inl (cJ2, 60, .inr (.inl g2)))]) (w1 := [(s3, .inr (2, [.int a2, .int a3, .ref n3])), (n3, .inl (cJ3, 60, .inr (.inl o2_46)))]) hP hD [5, 9] [0, 1, 2, 3, 4, 6, 7, 8] rfl rfl (by decide) (by decide) hk1 hFc hP1 hD1
            have hK := (hK.sub (tys' := [(cS, .object RX3), (cJ0, .long), (cJ1, .long), (cJ2, .long)]) [0, 1, 2, 3] rfl).app hK1
            generalize H1 = H at hP hS ⊢
            have hP := hP.sub (ws' := [(h0, .inr (7, [.ref tp, .ref sc, .ref rd, .ref cu, .ref im, .ref ig, .ref sl, .ref se, .ref sm, .ref fc])), (sl, .inl (cS, 4, .inr (.inr (.inr (.inr (sf4 s0 s1 s2 s3)))))), (s0, .inr (2, [.int wd0, .int rz0, .ref n0])), (s1, .inr (2, [.int wd1, .int rz1, .ref n1])), (s2, .inr (2, [.int wd2, .int rz2, .ref n2])), (s3, .inr (2, [.int a2, .int a3, .ref n3])), (n0, .inl (cJ0, 60, .inr (.inl g0))), (n1, .inl (cJ1, 60, .inr (.inl g1))), (n2, .inl (cJ2, 60, .inr (.inl g2))), (n3, .inl (cJ3, 60, .inr (.inl o2_46)))]) [0, 1, 2, 3, 4, 8, 5, 6, 7, 9] rfl
            have hD := hD.sub (ws' := [(h0, .inr (7, [.ref tp, .ref sc, .ref rd, .ref cu, .ref im, .ref ig, .ref sl, .ref se, .ref sm, .ref fc])), (sl, .inl (cS, 4, .inr (.inr (.inr (.inr (sf4 s0 s1 s2 s3)))))), (s0, .inr (2, [.int wd0, .int rz0, .ref n0])), (s1, .inr (2, [.int wd1, .int rz1, .ref n1])), (s2, .inr (2, [.int wd2, .int rz2, .ref n2])), (s3, .inr (2, [.int a2, .int a3, .ref n3])), (n0, .inl (cJ0, 60, .inr (.inl g0))), (n1, .inl (cJ1, 60, .inr (.inl g1))), (n2, .inl (cJ2, 60, .inr (.inl g2))), (n3, .inl (cJ3, 60, .inr (.inl o2_46)))]) [0, 1, 2, 3, 4, 8, 5, 6, 7, 9] (by decide) rfl
            have hP : va_P (dC, dI) vwCl [(h0, .inr (7, [.ref tp, .ref sc, .ref rd, .ref cu, .ref im, .ref ig, .ref sl, .ref se, .ref sm, .ref fc])), (sl, .inl (cS, 4, .inr (.inr (.inr (.inr (sf4 s0 s1 s2 s3)))))), (s0, .inr (2, [.int wd0, .int rz0, .ref n0])), (s1, .inr (2, [.int wd1, .int rz1, .ref n1])), (s2, .inr (2, [.int wd2, .int rz2, .ref n2])), (s3, .inr (2, [.int a2, .int a3, .ref n3])), (n0, .inl (cJ0, 60, .inr (.inl g0))), (n1, .inl (cJ1, 60, .inr (.inl g1))), (n2, .inl (cJ2, 60, .inr (.inl g2))), (n3, .inl (cJ3, 60, .inr (.inl o2_46)))] H := hP
            have hD : va_D A [(h0, .inr (7, [.ref tp, .ref sc, .ref rd, .ref cu, .ref im, .ref ig, .ref sl, .ref se, .ref sm, .ref fc])), (sl, .inl (cS, 4, .inr (.inr (.inr (.inr (sf4 s0 s1 s2 s3)))))), (s0, .inr (2, [.int wd0, .int rz0, .ref n0])), (s1, .inr (2, [.int wd1, .int rz1, .ref n1])), (s2, .inr (2, [.int wd2, .int rz2, .ref n2])), (s3, .inr (2, [.int a2, .int a3, .ref n3])), (n0, .inl (cJ0, 60, .inr (.inl g0))), (n1, .inl (cJ1, 60, .inr (.inl g1))), (n2, .inl (cJ2, 60, .inr (.inl g2))), (n3, .inl (cJ3, 60, .inr (.inl o2_46)))] := hD
            have hK : va_K (dC, dI) vwCl [(cS, .object RX3), (cJ0, .long), (cJ1, .long), (cJ2, .long), (cJ3, .long)] s := hK
            refine lv_iconst (v := 0) hx hb dX9_row_44 (by decide) ?_
            have hP9 := hP.sub (ws' := [(h0, .inr (7, [.ref tp, .ref sc, .ref rd, .ref cu, .ref im, .ref ig, .ref sl, .ref se, .ref sm, .ref fc])), (sl, .inl (cS, 4, .inr (.inr (.inr (.inr (sf4 s0 s1 s2 s3)))))), (s0, .inr (2, [.int wd0, .int rz0, .ref n0])), (s1, .inr (2, [.int wd1, .int rz1, .ref n1])), (s2, .inr (2, [.int wd2, .int rz2, .ref n2])), (s3, .inr (2, [.int a2, .int a3, .ref n3])), (n0, .inl (cJ0, 60, .inr (.inl g0))), (n1, .inl (cJ1, 60, .inr (.inl g1))), (n2, .inl (cJ2, 60, .inr (.inl g2))), (n3, .inl (cJ3, 60, .inr (.inl o2_46)))]) [0, 1, 2, 3, 4, 5, 6, 7, 8, 9] rfl
            have hD9 := hD.sub (ws' := [(h0, .inr (7, [.ref tp, .ref sc, .ref rd, .ref cu, .ref im, .ref ig, .ref sl, .ref se, .ref sm, .ref fc])), (sl, .inl (cS, 4, .inr (.inr (.inr (.inr (sf4 s0 s1 s2 s3)))))), (s0, .inr (2, [.int wd0, .int rz0, .ref n0])), (s1, .inr (2, [.int wd1, .int rz1, .ref n1])), (s2, .inr (2, [.int wd2, .int rz2, .ref n2])), (s3, .inr (2, [.int a2, .int a3, .ref n3])), (n0, .inl (cJ0, 60, .inr (.inl g0))), (n1, .inl (cJ1, 60, .inr (.inl g1))), (n2, .inl (cJ2, 60, .inr (.inl g2))), (n3, .inl (cJ3, 60, .inr (.inl o2_46)))]) [0, 1, 2, 3, 4, 5, 6, 7, 8, 9] (by decide) rfl
            have hK9 := hK.sub (tys' := [(cS, .object RX3), (cJ0, .long), (cJ1, .long), (cJ2, .long), (cJ3, .long)]) [0, 1, 2, 3, 4] rfl
            exact W.iret (v := 0) hx hb hr (fun t ht hW => ⟨⟨0, (), rfl, (rg_w (by decide : (0 : Int) ≤ (0 : Int32).toInt ∧ (0 : Int32).toInt ≤ 0) (by decide) (by decide)), wd0, rz0, wd1, rz1, wd2, rz2, a2, a3, g0, g1, g2, o2_46, b_wd0, b_rz0, b_wd1, b_rz1, b_wd2, b_rz2, (rg_w b_a2 (by decide) (by decide)), b_a3, (rg_ne (j := 0) (show _ ∧ _ ∧ _ from ⟨by decide, ⟨by omega, by omega⟩, ⟨by omega, by omega⟩⟩) (by decide) (by decide) hg9_0), (rg_ne (j := 1) (show _ ∧ _ ∧ _ from ⟨by decide, ⟨by omega, by omega⟩, ⟨by omega, by omega⟩⟩) (by decide) (by decide) hg9_1), (rg_ne (j := 2) (show _ ∧ _ ∧ _ from ⟨by decide, ⟨by omega, by omega⟩, ⟨by omega, by omega⟩⟩) (by decide) (by decide) hg9_2), (rg_at1 (j := 3) (show _ ∧ _ ∧ _ from ⟨by decide, ⟨by omega, by omega⟩, ⟨by omega, by omega⟩⟩) (by decide)), by rw [ht]; exact hP9, va_K.moved hW.alike hK9, hD9⟩, hS.F ht⟩) hS.2.2 dX9_row_45
        ·
          have n_c_33 : (a3.toInt : Int) < 0 := c_nge rfl (by decide) c_33
          have b_a3 : (-2147483648 : Int) ≤ a3.toInt ∧ a3.toInt ≤ -1 := r_lt1 b_a3 (by decide : (0 : Int) ≤ (0 : Int32).toInt ∧ (0 : Int32).toInt ≤ 0) n_c_33 (by decide)
          refine lv_bipush (v := (-3)) hx hb dX9_row_30 (by decide) ?_
          have hP9 := hP.sub (ws' := [(h0, .inr (7, [.ref tp, .ref sc, .ref rd, .ref cu, .ref im, .ref ig, .ref sl, .ref se, .ref sm, .ref fc])), (sl, .inl (cS, 4, .inr (.inr (.inr (.inr (sf4 s0 s1 s2 s3)))))), (s0, .inr (2, [.int wd0, .int rz0, .ref n0])), (s1, .inr (2, [.int wd1, .int rz1, .ref n1])), (s2, .inr (2, [.int wd2, .int rz2, .ref n2])), (s3, .inr (2, [.int wd3, .int rz3, .ref n3])), (n0, .inl (cJ0, 60, .inr (.inl g0))), (n1, .inl (cJ1, 60, .inr (.inl g1))), (n2, .inl (cJ2, 60, .inr (.inl g2))), (n3, .inl (cJ3, 60, .inr (.inl g3)))]) [0, 1, 2, 3, 4, 5, 6, 7, 8, 9] rfl
          have hD9 := hD.sub (ws' := [(h0, .inr (7, [.ref tp, .ref sc, .ref rd, .ref cu, .ref im, .ref ig, .ref sl, .ref se, .ref sm, .ref fc])), (sl, .inl (cS, 4, .inr (.inr (.inr (.inr (sf4 s0 s1 s2 s3)))))), (s0, .inr (2, [.int wd0, .int rz0, .ref n0])), (s1, .inr (2, [.int wd1, .int rz1, .ref n1])), (s2, .inr (2, [.int wd2, .int rz2, .ref n2])), (s3, .inr (2, [.int wd3, .int rz3, .ref n3])), (n0, .inl (cJ0, 60, .inr (.inl g0))), (n1, .inl (cJ1, 60, .inr (.inl g1))), (n2, .inl (cJ2, 60, .inr (.inl g2))), (n3, .inl (cJ3, 60, .inr (.inl g3)))]) [0, 1, 2, 3, 4, 5, 6, 7, 8, 9] (by decide) rfl
          have hK9 := hK.sub (tys' := [(cS, .object RX3), (cJ0, .long), (cJ1, .long), (cJ2, .long), (cJ3, .long)]) [0, 1, 2, 3, 4] rfl
          exact W.iret (v := (-3)) hx hb hr (fun t ht hW => ⟨⟨(-3), (), rfl, (rg_w (by decide : (-3 : Int) ≤ ((-3) : Int32).toInt ∧ ((-3) : Int32).toInt ≤ -3) (by decide) (by decide)), wd0, rz0, wd1, rz1, wd2, rz2, wd3, rz3, g0, g1, g2, g3, b_wd0, b_rz0, b_wd1, b_rz1, b_wd2, b_rz2, b_wd3, b_rz3, (rg_no (by omega) hg9_0), (rg_no (by omega) hg9_1), (rg_no (by omega) hg9_2), (rg_no (by omega) hg9_3), by rw [ht]; exact hP9, va_K.moved hW.alike hK9, hD9⟩, hS.F ht⟩) hS.2.2 dX9_row_32
      ·
        have n_c_32 : (60 : Int) < a3.toInt := c_nle rfl (by decide) c_32
        have b_a3 : (61 : Int) ≤ a3.toInt ∧ a3.toInt ≤ 2147483647 := r_lt2 (by decide : (60 : Int) ≤ (60 : Int32).toInt ∧ (60 : Int32).toInt ≤ 60) (ti_rng a3) n_c_32 (by decide)
        refine lv_bipush (v := (-2)) hx hb dX9_row_23 (by decide) ?_
        have hP9 := hP.sub (ws' := [(h0, .inr (7, [.ref tp, .ref sc, .ref rd, .ref cu, .ref im, .ref ig, .ref sl, .ref se, .ref sm, .ref fc])), (sl, .inl (cS, 4, .inr (.inr (.inr (.inr (sf4 s0 s1 s2 s3)))))), (s0, .inr (2, [.int wd0, .int rz0, .ref n0])), (s1, .inr (2, [.int wd1, .int rz1, .ref n1])), (s2, .inr (2, [.int wd2, .int rz2, .ref n2])), (s3, .inr (2, [.int wd3, .int rz3, .ref n3])), (n0, .inl (cJ0, 60, .inr (.inl g0))), (n1, .inl (cJ1, 60, .inr (.inl g1))), (n2, .inl (cJ2, 60, .inr (.inl g2))), (n3, .inl (cJ3, 60, .inr (.inl g3)))]) [0, 1, 2, 3, 4, 5, 6, 7, 8, 9] rfl
        have hD9 := hD.sub (ws' := [(h0, .inr (7, [.ref tp, .ref sc, .ref rd, .ref cu, .ref im, .ref ig, .ref sl, .ref se, .ref sm, .ref fc])), (sl, .inl (cS, 4, .inr (.inr (.inr (.inr (sf4 s0 s1 s2 s3)))))), (s0, .inr (2, [.int wd0, .int rz0, .ref n0])), (s1, .inr (2, [.int wd1, .int rz1, .ref n1])), (s2, .inr (2, [.int wd2, .int rz2, .ref n2])), (s3, .inr (2, [.int wd3, .int rz3, .ref n3])), (n0, .inl (cJ0, 60, .inr (.inl g0))), (n1, .inl (cJ1, 60, .inr (.inl g1))), (n2, .inl (cJ2, 60, .inr (.inl g2))), (n3, .inl (cJ3, 60, .inr (.inl g3)))]) [0, 1, 2, 3, 4, 5, 6, 7, 8, 9] (by decide) rfl
        have hK9 := hK.sub (tys' := [(cS, .object RX3), (cJ0, .long), (cJ1, .long), (cJ2, .long), (cJ3, .long)]) [0, 1, 2, 3, 4] rfl
        exact W.iret (v := (-2)) hx hb hr (fun t ht hW => ⟨⟨(-2), (), rfl, (rg_w (by decide : (-2 : Int) ≤ ((-2) : Int32).toInt ∧ ((-2) : Int32).toInt ≤ -2) (by decide) (by decide)), wd0, rz0, wd1, rz1, wd2, rz2, wd3, rz3, g0, g1, g2, g3, b_wd0, b_rz0, b_wd1, b_rz1, b_wd2, b_rz2, b_wd3, b_rz3, (rg_no (by omega) hg9_0), (rg_no (by omega) hg9_1), (rg_no (by omega) hg9_2), (rg_no (by omega) hg9_3), by rw [ht]; exact hP9, va_K.moved hW.alike hK9, hD9⟩, hS.F ht⟩) hS.2.2 dX9_row_25
def uX10_rowG : List Cond := List.cons (.code yX10_row cX10_row 5 (some .int)) (HAppend.hAppend ([.methodLink RX10 369 yX10_isSlot, .static yX10_isSlot, .initialized RX10, .constantLong RX10 375 (3), .methodLink RX10 82 yX10_in, .static yX10_in, .fieldLink RX10 65 "LuckyTicketModel" "many" "[I", .fieldLink RX10 68 "LuckyTicketModel" "width" "[I", .fieldLink RX10 71 "LuckyTicketModel" "numbers" "[J"] : List Cond) (HAppend.hAppend uX10_isSlot2 (HAppend.hAppend uX10_in6 wsX100)))
theorem iX10_rowG_X10 : ∀ w ∈ wsX100, w ∈ uX10_rowG := fun _ h => (List.mem_cons_of_mem _ (List.mem_append_right _ (List.mem_append_right _ (List.mem_append_right _ h))))
theorem guX10_rowG : GU uX10_rowG := gu_cons (gu_app (by decide +kernel) (gu_ap guX10_isSlot2 (gu_ap guX10_in6 gws_X10)))
theorem gX10_rowG__X10_isSlot2_S369 : GoodIn uX10_rowG (va_wsS RX10 369 yX10_isSlot uX10_isSlot2) := gin_S (List.mem_of_getElem? (i := 1) rfl) (List.mem_of_getElem? (i := 2) rfl) (List.mem_of_getElem? (i := 3) rfl) (fun _ h => (List.mem_cons_of_mem _ (List.mem_append_right _ (List.mem_append_left _ h)))) guX10_isSlot2
theorem gX10_rowG__X10_in6_S82 : GoodIn uX10_rowG (va_wsS RX10 82 yX10_in uX10_in6) := gin_S (List.mem_of_getElem? (i := 5) rfl) (List.mem_of_getElem? (i := 6) rfl) (List.mem_of_getElem? (i := 3) rfl) (fun _ h => (List.mem_cons_of_mem _ (List.mem_append_right _ (List.mem_append_right _ (List.mem_append_left _ h))))) guX10_in6
set_option maxHeartbeats 4000000 in
set_option maxRecDepth 100000 in
theorem kX10_rowG (l : Launch) (dC : Nat → ClassId) (dI : Nat → Nat → Nat) (o0 : Nat) (x_th : Int32) (mwo : Nat) (mim : Nat) (mhi : Nat) (mlu : Nat) (mtp : Nat) (x_td : Int32) (mfv : Nat) (x_sz : Int32) (x_at : Int32) (x_fr : Int32) (x_to : Int32) (x_va : Int32) (x_fk : Int32) (x_fp : Int32) (mfr : Nat) (mwt : Nat) (x_wt : Int32) (x_op : Int32) (x_jo : Int32) (mfg : Nat) (mpl : Nat) (x_dr : Int64) (mtm : Nat) (mfa : Nat) (mqu : Nat) (mmo : Nat) (mwy : Nat) (mwn : Nat) (mma : Nat) (mwi : Nat) (mnu : Nat) (mmv : Nat) (c_ma : ClassId) (c_wi : ClassId) (c_nu : ClassId) (w_ma : Nat → Int32) (w_wi : Nat → Int32) (w_nu : Nat → Int64) (gh : Nat → Int32) (a1 : Int32) (a2 : Int32) (a3 : Int32) (sz : Nat) (ha_mma : rg w_ma 4 (-1) 60) (ha_mwi : rg w_wi 4 0 3) (hgR9 : GR gh w_ma w_wi) : Met l yX10_row uX10_rowG ({ frames := 2, cells := 0, slots := 0, locals := 45 }) (va_Pc [.ref o0, .int a1, .int a2, .int a3] (hw (dC, dI) vwCl [(o0, .inr (8, [.int x_th, .ref mwo, .ref mim, .ref mhi, .ref mlu, .ref mtp, .int x_td, .ref mfv, .int x_sz, .int x_at, .int x_fr, .int x_to, .int x_va, .int x_fk, .int x_fp, .ref mfr, .ref mwt, .int x_wt, .int x_op, .int x_jo, .ref mfg, .ref mpl, .long x_dr, .ref mtm, .ref mfa, .ref mqu, .ref mmo, .ref mwy, .ref mwn, .ref mma, .ref mwi, .ref mnu, .ref mmv])), (mma, .inl (c_ma, 4, .inl w_ma)), (mwi, .inl (c_wi, 4, .inl w_wi)), (mnu, .inl (c_nu, 240, .inr (.inl w_nu)))] [(c_ma, .int), (c_wi, .int), (c_nu, .long)] sz)) (va_Qi (fun (r : Int32) (_ : Unit) => ((-3 : Int) ≤ r.toInt ∧ r.toInt ≤ 0)) (fun (_ : Unit) t => ∃ (o0_ : Nat → Int32) (o1_ : Nat → Int32) (o2_ : Nat → Int64), (rg o0_ 4 (-1) 60) ∧ (rg o1_ 4 0 3) ∧ (GR (rwG gh a1 a2 a3) o0_ o1_) ∧ va_P (dC, dI) vwCl [(o0, .inr (8, [.int x_th, .ref mwo, .ref mim, .ref mhi, .ref mlu, .ref mtp, .int x_td, .ref mfv, .int x_sz, .int x_at, .int x_fr, .int x_to, .int x_va, .int x_fk, .int x_fp, .ref mfr, .ref mwt, .int x_wt, .int x_op, .int x_jo, .ref mfg, .ref mpl, .long x_dr, .ref mtm, .ref mfa, .ref mqu, .ref mmo, .ref mwy, .ref mwn, .ref mma, .ref mwi, .ref mnu, .ref mmv])), (mma, .inl (c_ma, 4, .inl o0_)), (mwi, .inl (c_wi, 4, .inl o1_)), (mnu, .inl (c_nu, 240, .inr (.inl o2_)))] t.heap ∧ va_K (dC, dI) vwCl [(c_ma, .int), (c_wi, .int), (c_nu, .long)] t ∧ va_D (va_A [(o0, .inr (8, [.int x_th, .ref mwo, .ref mim, .ref mhi, .ref mlu, .ref mtp, .int x_td, .ref mfv, .int x_sz, .int x_at, .int x_fr, .int x_to, .int x_va, .int x_fk, .int x_fp, .ref mfr, .ref mwt, .int x_wt, .int x_op, .int x_jo, .ref mfg, .ref mpl, .long x_dr, .ref mtm, .ref mfa, .ref mqu, .ref mmo, .ref mwy, .ref mwn, .ref mma, .ref mwi, .ref mnu, .ref mmv])), (mma, .inl (c_ma, 4, .inl w_ma)), (mwi, .inl (c_wi, 4, .inl w_wi)), (mnu, .inl (c_nu, 240, .inr (.inl w_nu)))] sz) [(o0, .inr (8, [.int x_th, .ref mwo, .ref mim, .ref mhi, .ref mlu, .ref mtp, .int x_td, .ref mfv, .int x_sz, .int x_at, .int x_fr, .int x_to, .int x_va, .int x_fk, .int x_fp, .ref mfr, .ref mwt, .int x_wt, .int x_op, .int x_jo, .ref mfg, .ref mpl, .long x_dr, .ref mtm, .ref mfa, .ref mqu, .ref mmo, .ref mwy, .ref mwn, .ref mma, .ref mwi, .ref mnu, .ref mmv])), (mma, .inl (c_ma, 4, .inl o0_)), (mwi, .inl (c_wi, 4, .inl o1_)), (mnu, .inl (c_nu, 240, .inr (.inl o2_)))]) (va_A [(o0, .inr (8, [.int x_th, .ref mwo, .ref mim, .ref mhi, .ref mlu, .ref mtp, .int x_td, .ref mfv, .int x_sz, .int x_at, .int x_fr, .int x_to, .int x_va, .int x_fk, .int x_fp, .ref mfr, .ref mwt, .int x_wt, .int x_op, .int x_jo, .ref mfg, .ref mpl, .long x_dr, .ref mtm, .ref mfa, .ref mqu, .ref mmo, .ref mwy, .ref mwn, .ref mma, .ref mwi, .ref mnu, .ref mmv])), (mma, .inl (c_ma, 4, .inl w_ma)), (mwi, .inl (c_wi, 4, .inl w_wi)), (mnu, .inl (c_nu, 240, .inr (.inl w_nu)))] sz)) 0 0 (va_A [(o0, .inr (8, [.int x_th, .ref mwo, .ref mim, .ref mhi, .ref mlu, .ref mtp, .int x_td, .ref mfv, .int x_sz, .int x_at, .int x_fr, .int x_to, .int x_va, .int x_fk, .int x_fp, .ref mfr, .ref mwt, .int x_wt, .int x_op, .int x_jo, .ref mfg, .ref mpl, .long x_dr, .ref mtm, .ref mfa, .ref mqu, .ref mmo, .ref mwy, .ref mwn, .ref mma, .ref mwi, .ref mnu, .ref mmv])), (mma, .inl (c_ma, 4, .inl w_ma)), (mwi, .inl (c_wi, 4, .inl w_wi)), (mnu, .inl (c_nu, 240, .inr (.inl w_nu)))] sz) := by
  refine Met.ofW (cc := cX10_row) (maxL := 5) (ret := (some .int)) pn_X10 rfl ?_
  intro p e s m args below meth c s₁ B hml hv
  obtain ⟨rfl, hsz, hP, hK, hD0, hN⟩ := hv
  have hx := B.exec
  have hb := B.bytes
  have hr := B.returns
  have hts := atoms_spec (ws := uX10_rowG) B.pre
  have hown : s.vm.findClass RX10 = some m.cls := hown_of B.named rfl
  have hlocks := B.notSynchronized
  subst hsz
  have hD := hD0.self (sz := s.heap.size)
  generalize hAe : va_A [(o0, .inr (8, [.int x_th, .ref mwo, .ref mim, .ref mhi, .ref mlu, .ref mtp, .int x_td, .ref mfv, .int x_sz, .int x_at, .int x_fr, .int x_to, .int x_va, .int x_fk, .int x_fp, .ref mfr, .ref mwt, .int x_wt, .int x_op, .int x_jo, .ref mfg, .ref mpl, .long x_dr, .ref mtm, .ref mfa, .ref mqu, .ref mmo, .ref mwy, .ref mwn, .ref mma, .ref mwi, .ref mnu, .ref mmv])), (mma, .inl (c_ma, 4, .inl w_ma)), (mwi, .inl (c_wi, 4, .inl w_wi)), (mnu, .inl (c_nu, 240, .inr (.inl w_nu)))] s.heap.size = A at hD ⊢
  have hA : ∀ q : Nat, s.heap.size ≤ q → A q := fun q h => by rw [← hAe]; exact Or.inr h
  have hS : va_S A s.heap s.heap [] := va_S.rf
  have hP : va_P (dC, dI) vwCl [(o0, .inr (8, [.int x_th, .ref mwo, .ref mim, .ref mhi, .ref mlu, .ref mtp, .int x_td, .ref mfv, .int x_sz, .int x_at, .int x_fr, .int x_to, .int x_va, .int x_fk, .int x_fp, .ref mfr, .ref mwt, .int x_wt, .int x_op, .int x_jo, .ref mfg, .ref mpl, .long x_dr, .ref mtm, .ref mfa, .ref mqu, .ref mmo, .ref mwy, .ref mwn, .ref mma, .ref mwi, .ref mnu, .ref mmv])), (mma, .inl (c_ma, 4, .inl w_ma)), (mwi, .inl (c_wi, 4, .inl w_wi)), (mnu, .inl (c_nu, 240, .inr (.inl w_nu)))] s.heap := hP
  have hl := lv_entry ([.ref o0, .int a1, .int a2, .int a3]) (n := 5) (Nat.le_of_ble_eq_true rfl)
  rw [lg_entry_eq]
  generalize (lg_sl ([.ref o0, .int a1, .int a2, .int a3]) ++ List.replicate (5 - (lg_sl ([.ref o0, .int a1, .int a2, .int a3])).length) Slot.unset).toArray = ls at hl ⊢
  have hl : lv_has ls 5 [(0, .ref o0), (1, .int a1), (2, .int a2), (3, .int a3)] := hl
  refine lv_iload_n hx hb dX10_row_0 rfl (lv_at hl 1 rfl) ?_
  refine vp_callSi (W.runS (As := [.int a1]) (rest := []) ⟨hx, hb, hml, hown, hts⟩ (kX10_isSlot2 l dC dI a1 ) (va_cwS 1 hts gX10_rowG__X10_isSlot2_S369 rfl rfl rfl hd_yX10_isSlot.2 ⟨lel 2 2 rfl, lel 45 45 rfl⟩) ⟨pn_fb, pn_use⟩ rfl rfl hl.1 rfl (lv_room (Nat.le_of_ble_eq_true rfl)) dX10_row_1 ⟨lel 0 0 rfl, lel 0 0 rfl⟩) (fun r_53 h_r_53 => ?_)
  obtain ⟨b_r_53, nz_r_53, zz_r_53⟩ := h_r_53
  have b_r_53 : (0 : Int) ≤ r_53.toInt ∧ r_53.toInt ≤ 1 := b_r_53
  refine lv_if_eq (tgt := 25) hx hb dX10_row_4 (by decide) (fun c_54 => ?_) (fun c_54 => ?_)
  ·
    have n_c_54 : (r_53.toInt : Int) = 0 := c_eq rfl (by decide) c_54
    have b_r_53 : (0 : Int) ≤ r_53.toInt ∧ r_53.toInt ≤ 0 := r_eq1 b_r_53 (by decide : (0 : Int) ≤ (0 : Int32).toInt ∧ (0 : Int32).toInt ≤ 0) n_c_54 (by decide)
    have g_55 := zz_r_53 c_54
    refine lv_bipush (v := (-2)) hx hb dX10_row_25 (by decide) ?_
    have hP9 := hP.sub (ws' := [(o0, .inr (8, [.int x_th, .ref mwo, .ref mim, .ref mhi, .ref mlu, .ref mtp, .int x_td, .ref mfv, .int x_sz, .int x_at, .int x_fr, .int x_to, .int x_va, .int x_fk, .int x_fp, .ref mfr, .ref mwt, .int x_wt, .int x_op, .int x_jo, .ref mfg, .ref mpl, .long x_dr, .ref mtm, .ref mfa, .ref mqu, .ref mmo, .ref mwy, .ref mwn, .ref mma, .ref mwi, .ref mnu, .ref mmv])), (mma, .inl (c_ma, 4, .inl w_ma)), (mwi, .inl (c_wi, 4, .inl w_wi)), (mnu, .inl (c_nu, 240, .inr (.inl w_nu)))]) [0, 1, 2, 3] rfl
    have hD9 := hD.sub (ws' := [(o0, .inr (8, [.int x_th, .ref mwo, .ref mim, .ref mhi, .ref mlu, .ref mtp, .int x_td, .ref mfv, .int x_sz, .int x_at, .int x_fr, .int x_to, .int x_va, .int x_fk, .int x_fp, .ref mfr, .ref mwt, .int x_wt, .int x_op, .int x_jo, .ref mfg, .ref mpl, .long x_dr, .ref mtm, .ref mfa, .ref mqu, .ref mmo, .ref mwy, .ref mwn, .ref mma, .ref mwi, .ref mnu, .ref mmv])), (mma, .inl (c_ma, 4, .inl w_ma)), (mwi, .inl (c_wi, 4, .inl w_wi)), (mnu, .inl (c_nu, 240, .inr (.inl w_nu)))]) [0, 1, 2, 3] (by decide) rfl
    have hK9 := hK.sub (tys' := [(c_ma, .int), (c_wi, .int), (c_nu, .long)]) [0, 1, 2] rfl
    exact W.iret (v := (-2)) hx hb hr (fun t ht hW => ⟨⟨(-2), (), rfl, (rg_w (by decide : (-2 : Int) ≤ ((-2) : Int32).toInt ∧ ((-2) : Int32).toInt ≤ -2) (by decide) (by decide)), w_ma, w_wi, w_nu, ha_mma, ha_mwi, (gr_no (by omega) hgR9), by rw [ht]; exact hP9, va_K.moved hW.alike hK9, hD9⟩, hS.F ht⟩) hS.2.2 dX10_row_27
  ·
    have n_c_54 : (r_53.toInt : Int) ≠ 0 := c_ne rfl (by decide) c_54
    have b_r_53 : (1 : Int) ≤ r_53.toInt ∧ r_53.toInt ≤ 1 := r_ne1 b_r_53 (by decide : (0 : Int) ≤ (0 : Int32).toInt ∧ (0 : Int32).toInt ≤ 0) n_c_54 (by decide)
    obtain ⟨b_a1, g_56⟩ := nz_r_53 c_54
    refine lv_iload_n hx hb dX10_row_7 rfl (lv_at hl 2 rfl) ?_
    obtain ⟨z_57, e_z_57⟩ : ∃ y : Int64, y = a2.toInt64 := ⟨_, rfl⟩
    refine lv_i2l (v := z_57) hx hb dX10_row_8 e_z_57.symm ?_
    obtain ⟨q_z_57, b_z_57⟩ := ti_i2l e_z_57 (ti_rng a2)
    refine lv_lconst (v := 0) hx hb dX10_row_9 (by decide) ?_
    refine lv_ldc2 (v := 3) hx hb hown (hts (.constantLong RX10 375 (3)) (List.mem_of_getElem? (i := 4) rfl)) dX10_row_10 ?_
    refine vp_callSi (W.runS (As := [.long z_57, .long 0, .long 3]) (rest := []) ⟨hx, hb, hml, hown, hts⟩ (kX10_in6 l dC dI z_57 0 3 ) (va_cwS 3 hts gX10_rowG__X10_in6_S82 rfl rfl rfl hd_yX10_in.2 ⟨lel 1 2 rfl, lel 25 45 rfl⟩) ⟨pn_fb, pn_use⟩ rfl rfl hl.1 rfl (lv_room (Nat.le_of_ble_eq_true rfl)) dX10_row_13 ⟨lel 0 0 rfl, lel 0 0 rfl⟩) (fun r_58 h_r_58 => ?_)
    obtain ⟨b_r_58, nz_r_58, zz_r_58⟩ := h_r_58
    have b_r_58 : (0 : Int) ≤ r_58.toInt ∧ r_58.toInt ≤ 1 := b_r_58
    refine lv_if_eq (tgt := 25) hx hb dX10_row_16 (by decide) (fun c_59 => ?_) (fun c_59 => ?_)
    ·
      have n_c_59 : (r_58.toInt : Int) = 0 := c_eq rfl (by decide) c_59
      have b_r_58 : (0 : Int) ≤ r_58.toInt ∧ r_58.toInt ≤ 0 := r_eq1 b_r_58 (by decide : (0 : Int) ≤ (0 : Int32).toInt ∧ (0 : Int32).toInt ≤ 0) n_c_59 (by decide)
      have g_60 := zz_r_58 c_59
      have lt0_g_60 := (by decide : (0 : Int64).toInt = 0)
      have lt1_g_60 := (by decide : (3 : Int64).toInt = 3)
      refine lv_bipush (v := (-2)) hx hb dX10_row_25 (by decide) ?_
      have hP9 := hP.sub (ws' := [(o0, .inr (8, [.int x_th, .ref mwo, .ref mim, .ref mhi, .ref mlu, .ref mtp, .int x_td, .ref mfv, .int x_sz, .int x_at, .int x_fr, .int x_to, .int x_va, .int x_fk, .int x_fp, .ref mfr, .ref mwt, .int x_wt, .int x_op, .int x_jo, .ref mfg, .ref mpl, .long x_dr, .ref mtm, .ref mfa, .ref mqu, .ref mmo, .ref mwy, .ref mwn, .ref mma, .ref mwi, .ref mnu, .ref mmv])), (mma, .inl (c_ma, 4, .inl w_ma)), (mwi, .inl (c_wi, 4, .inl w_wi)), (mnu, .inl (c_nu, 240, .inr (.inl w_nu)))]) [0, 1, 2, 3] rfl
      have hD9 := hD.sub (ws' := [(o0, .inr (8, [.int x_th, .ref mwo, .ref mim, .ref mhi, .ref mlu, .ref mtp, .int x_td, .ref mfv, .int x_sz, .int x_at, .int x_fr, .int x_to, .int x_va, .int x_fk, .int x_fp, .ref mfr, .ref mwt, .int x_wt, .int x_op, .int x_jo, .ref mfg, .ref mpl, .long x_dr, .ref mtm, .ref mfa, .ref mqu, .ref mmo, .ref mwy, .ref mwn, .ref mma, .ref mwi, .ref mnu, .ref mmv])), (mma, .inl (c_ma, 4, .inl w_ma)), (mwi, .inl (c_wi, 4, .inl w_wi)), (mnu, .inl (c_nu, 240, .inr (.inl w_nu)))]) [0, 1, 2, 3] (by decide) rfl
      have hK9 := hK.sub (tys' := [(c_ma, .int), (c_wi, .int), (c_nu, .long)]) [0, 1, 2] rfl
      exact W.iret (v := (-2)) hx hb hr (fun t ht hW => ⟨⟨(-2), (), rfl, (rg_w (by decide : (-2 : Int) ≤ ((-2) : Int32).toInt ∧ ((-2) : Int32).toInt ≤ -2) (by decide) (by decide)), w_ma, w_wi, w_nu, ha_mma, ha_mwi, (gr_no (by omega) hgR9), by rw [ht]; exact hP9, va_K.moved hW.alike hK9, hD9⟩, hS.F ht⟩) hS.2.2 dX10_row_27
    ·
      have n_c_59 : (r_58.toInt : Int) ≠ 0 := c_ne rfl (by decide) c_59
      have b_r_58 : (1 : Int) ≤ r_58.toInt ∧ r_58.toInt ≤ 1 := r_ne1 b_r_58 (by decide : (0 : Int) ≤ (0 : Int32).toInt ∧ (0 : Int32).toInt ≤ 0) n_c_59 (by decide)
      have g_61 := nz_r_58 c_59
      have lt0_g_61 := (by decide : (0 : Int64).toInt = 0)
      have lt1_g_61 := (by decide : (3 : Int64).toInt = 3)
      have b_z_57 : (0 : Int) ≤ z_57.toInt ∧ z_57.toInt ≤ 3 := by
        have q0 := b_z_57
        have q1 := (by decide : (0 : Int) ≤ (0 : Int64).toInt ∧ (0 : Int64).toInt ≤ 0)
        have q2 := (by decide : (3 : Int) ≤ (3 : Int64).toInt ∧ (3 : Int64).toInt ≤ 3)
        omega
      have b_a2 : (0 : Int) ≤ a2.toInt ∧ a2.toInt ≤ 3 := by
        have q0 := b_z_57; have q1 := q_z_57; have q2 := (ti_rng a2); omega
      refine lv_iload_n hx hb dX10_row_19 rfl (lv_at hl 3 rfl) ?_
      refine lv_bipush (v := 60) hx hb dX10_row_20 (by decide) ?_
      refine lv_icmp_le (tgt := 28) hx hb dX10_row_22 (by decide) (fun c_62 => ?_) (fun c_62 => ?_)
      ·
        have n_c_62 : (a3.toInt : Int) ≤ 60 := c_le rfl (by decide) c_62
        have b_a3 : (-2147483648 : Int) ≤ a3.toInt ∧ a3.toInt ≤ 60 := r_le1 (ti_rng a3) (by decide : (60 : Int) ≤ (60 : Int32).toInt ∧ (60 : Int32).toInt ≤ 60) n_c_62 (by decide)
        refine lv_iload_n hx hb dX10_row_28 rfl (lv_at hl 3 rfl) ?_
        refine lv_if_ge (tgt := 35) hx hb dX10_row_29 (by decide) (fun c_63 => ?_) (fun c_63 => ?_)
        ·
          have n_c_63 : (0 : Int) ≤ a3.toInt := c_ge rfl (by decide) c_63
          have b_a3 : (0 : Int) ≤ a3.toInt ∧ a3.toInt ≤ 60 := r_le2 (by decide : (0 : Int) ≤ (0 : Int32).toInt ∧ (0 : Int32).toInt ≤ 0) b_a3 n_c_63 (by decide)
          refine lv_aload_n hx hb dX10_row_35 rfl (lv_at hl 0 rfl) ?_
          refine va_get (D := (dC, dI)) (ci := 8) (v := .ref mma) (C := RX10) (T := TX10) (N := 33) hx hb hts iX10_rowG_X10 hown hK hP 0 rfl rfl 29 (by decide) (hts (.fieldLink RX10 65 "LuckyTicketModel" "many" "[I") (List.mem_of_getElem? (i := 7) rfl)) (fun _ h9 => h9) rfl dX10_row_36 ?_
          refine lv_iload_n hx hb dX10_row_39 rfl (lv_at hl 1 rfl) ?_
          refine lv_iload_n hx hb dX10_row_40 rfl (lv_at hl 3 rfl) ?_
          refine va_iast hx hb hK hP hD hS 1 0 rfl rfl (vp_in_b b_a1 (by decide) (by decide)) dX10_row_41 (fun H locs hP hD hS => ?_)
          have hP : va_P (dC, dI) vwCl [(o0, .inr (8, [.int x_th, .ref mwo, .ref mim, .ref mhi, .ref mlu, .ref mtp, .int x_td, .ref mfv, .int x_sz, .int x_at, .int x_fr, .int x_to, .int x_va, .int x_fk, .int x_fp, .ref mfr, .ref mwt, .int x_wt, .int x_op, .int x_jo, .ref mfg, .ref mpl, .long x_dr, .ref mtm, .ref mfa, .ref mqu, .ref mmo, .ref mwy, .ref mwn, .ref mma, .ref mwi, .ref mnu, .ref mmv])), (mma, .inl (c_ma, 4, .inl (upd w_ma (a1 : Int32).toNatClampNeg a3))), (mwi, .inl (c_wi, 4, .inl w_wi)), (mnu, .inl (c_nu, 240, .inr (.inl w_nu)))] H := hP
          have hD : va_D A [(o0, .inr (8, [.int x_th, .ref mwo, .ref mim, .ref mhi, .ref mlu, .ref mtp, .int x_td, .ref mfv, .int x_sz, .int x_at, .int x_fr, .int x_to, .int x_va, .int x_fk, .int x_fp, .ref mfr, .ref mwt, .int x_wt, .int x_op, .int x_jo, .ref mfg, .ref mpl, .long x_dr, .ref mtm, .ref mfa, .ref mqu, .ref mmo, .ref mwy, .ref mwn, .ref mma, .ref mwi, .ref mnu, .ref mmv])), (mma, .inl (c_ma, 4, .inl (upd w_ma (a1 : Int32).toNatClampNeg a3))), (mwi, .inl (c_wi, 4, .inl w_wi)), (mnu, .inl (c_nu, 240, .inr (.inl w_nu)))] := hD
          have ha_65 : rg (upd w_ma (a1 : Int32).toNatClampNeg a3) 4 (-1) 60 := rg_upd ha_mma (rg_w b_a3 (by decide) (by decide))
          generalize ef_f_64 : (upd w_ma (a1 : Int32).toNatClampNeg a3) = f_64 at hP hD ha_65
          have hP : va_P (dC, dI) vwCl [(o0, .inr (8, [.int x_th, .ref mwo, .ref mim, .ref mhi, .ref mlu, .ref mtp, .int x_td, .ref mfv, .int x_sz, .int x_at, .int x_fr, .int x_to, .int x_va, .int x_fk, .int x_fp, .ref mfr, .ref mwt, .int x_wt, .int x_op, .int x_jo, .ref mfg, .ref mpl, .long x_dr, .ref mtm, .ref mfa, .ref mqu, .ref mmo, .ref mwy, .ref mwn, .ref mma, .ref mwi, .ref mnu, .ref mmv])), (mma, .inl (c_ma, 4, .inl f_64)), (mwi, .inl (c_wi, 4, .inl w_wi)), (mnu, .inl (c_nu, 240, .inr (.inl w_nu)))] H := hP
          have hD : va_D A [(o0, .inr (8, [.int x_th, .ref mwo, .ref mim, .ref mhi, .ref mlu, .ref mtp, .int x_td, .ref mfv, .int x_sz, .int x_at, .int x_fr, .int x_to, .int x_va, .int x_fk, .int x_fp, .ref mfr, .ref mwt, .int x_wt, .int x_op, .int x_jo, .ref mfg, .ref mpl, .long x_dr, .ref mtm, .ref mfa, .ref mqu, .ref mmo, .ref mwy, .ref mwn, .ref mma, .ref mwi, .ref mnu, .ref mmv])), (mma, .inl (c_ma, 4, .inl f_64)), (mwi, .inl (c_wi, 4, .inl w_wi)), (mnu, .inl (c_nu, 240, .inr (.inl w_nu)))] := hD
          refine lv_aload_n hx hb dX10_row_42 rfl (lv_at hl 0 rfl) ?_
          refine va_get (D := (dC, dI)) (ci := 8) (v := .ref mwi) (C := RX10) (T := TX10) (N := 33) hx hb hts iX10_rowG_X10 hown hK hP 0 rfl rfl 30 (by decide) (hts (.fieldLink RX10 68 "LuckyTicketModel" "width" "[I") (List.mem_of_getElem? (i := 8) rfl)) (fun _ h9 => h9) rfl dX10_row_43 ?_
          refine lv_iload_n hx hb dX10_row_46 rfl (lv_at hl 1 rfl) ?_
          refine lv_iload_n hx hb dX10_row_47 rfl (lv_at hl 2 rfl) ?_
          refine va_iast hx hb hK hP hD hS 2 1 rfl rfl (vp_in_b b_a1 (by decide) (by decide)) dX10_row_48 (fun H locs hP hD hS => ?_)
          have hP : va_P (dC, dI) vwCl [(o0, .inr (8, [.int x_th, .ref mwo, .ref mim, .ref mhi, .ref mlu, .ref mtp, .int x_td, .ref mfv, .int x_sz, .int x_at, .int x_fr, .int x_to, .int x_va, .int x_fk, .int x_fp, .ref mfr, .ref mwt, .int x_wt, .int x_op, .int x_jo, .ref mfg, .ref mpl, .long x_dr, .ref mtm, .ref mfa, .ref mqu, .ref mmo, .ref mwy, .ref mwn, .ref mma, .ref mwi, .ref mnu, .ref mmv])), (mma, .inl (c_ma, 4, .inl f_64)), (mwi, .inl (c_wi, 4, .inl (upd w_wi (a1 : Int32).toNatClampNeg a2))), (mnu, .inl (c_nu, 240, .inr (.inl w_nu)))] H := hP
          have hD : va_D A [(o0, .inr (8, [.int x_th, .ref mwo, .ref mim, .ref mhi, .ref mlu, .ref mtp, .int x_td, .ref mfv, .int x_sz, .int x_at, .int x_fr, .int x_to, .int x_va, .int x_fk, .int x_fp, .ref mfr, .ref mwt, .int x_wt, .int x_op, .int x_jo, .ref mfg, .ref mpl, .long x_dr, .ref mtm, .ref mfa, .ref mqu, .ref mmo, .ref mwy, .ref mwn, .ref mma, .ref mwi, .ref mnu, .ref mmv])), (mma, .inl (c_ma, 4, .inl f_64)), (mwi, .inl (c_wi, 4, .inl (upd w_wi (a1 : Int32).toNatClampNeg a2))), (mnu, .inl (c_nu, 240, .inr (.inl w_nu)))] := hD
          have ha_67 : rg (upd w_wi (a1 : Int32).toNatClampNeg a2) 4 0 3 := rg_upd ha_mwi b_a2
          generalize ef_f_66 : (upd w_wi (a1 : Int32).toNatClampNeg a2) = f_66 at hP hD ha_67
          have hP : va_P (dC, dI) vwCl [(o0, .inr (8, [.int x_th, .ref mwo, .ref mim, .ref mhi, .ref mlu, .ref mtp, .int x_td, .ref mfv, .int x_sz, .int x_at, .int x_fr, .int x_to, .int x_va, .int x_fk, .int x_fp, .ref mfr, .ref mwt, .int x_wt, .int x_op, .int x_jo, .ref mfg, .ref mpl, .long x_dr, .ref mtm, .ref mfa, .ref mqu, .ref mmo, .ref mwy, .ref mwn, .ref mma, .ref mwi, .ref mnu, .ref mmv])), (mma, .inl (c_ma, 4, .inl f_64)), (mwi, .inl (c_wi, 4, .inl f_66)), (mnu, .inl (c_nu, 240, .inr (.inl w_nu)))] H := hP
          have hD : va_D A [(o0, .inr (8, [.int x_th, .ref mwo, .ref mim, .ref mhi, .ref mlu, .ref mtp, .int x_td, .ref mfv, .int x_sz, .int x_at, .int x_fr, .int x_to, .int x_va, .int x_fk, .int x_fp, .ref mfr, .ref mwt, .int x_wt, .int x_op, .int x_jo, .ref mfg, .ref mpl, .long x_dr, .ref mtm, .ref mfa, .ref mqu, .ref mmo, .ref mwy, .ref mwn, .ref mma, .ref mwi, .ref mnu, .ref mmv])), (mma, .inl (c_ma, 4, .inl f_64)), (mwi, .inl (c_wi, 4, .inl f_66)), (mnu, .inl (c_nu, 240, .inr (.inl w_nu)))] := hD
          refine lv_iconst (v := 0) hx hb dX10_row_49 (by decide) ?_
          refine lv_istore (lv' := [(4, .int 0), (0, .ref o0), (1, .int a1), (2, .int a2), (3, .int a3)]) hx hb dX10_row_50 hl (by decide) rfl (fun ls hl => ?_)
          refine loopW (σ := Int32 × (Nat → Int64)) (fun v => (60 - v.1.toInt).toNat) (fun v H locs ls => ((0 : Int) ≤ v.1.toInt ∧ v.1.toInt ≤ 60) ∧ va_P (dC, dI) vwCl [(o0, .inr (8, [.int x_th, .ref mwo, .ref mim, .ref mhi, .ref mlu, .ref mtp, .int x_td, .ref mfv, .int x_sz, .int x_at, .int x_fr, .int x_to, .int x_va, .int x_fk, .int x_fp, .ref mfr, .ref mwt, .int x_wt, .int x_op, .int x_jo, .ref mfg, .ref mpl, .long x_dr, .ref mtm, .ref mfa, .ref mqu, .ref mmo, .ref mwy, .ref mwn, .ref mma, .ref mwi, .ref mnu, .ref mmv])), (mma, .inl (c_ma, 4, .inl f_64)), (mwi, .inl (c_wi, 4, .inl f_66)), (mnu, .inl (c_nu, 240, .inr (.inl v.2)))] H ∧ va_D A [(o0, .inr (8, [.int x_th, .ref mwo, .ref mim, .ref mhi, .ref mlu, .ref mtp, .int x_td, .ref mfv, .int x_sz, .int x_at, .int x_fr, .int x_to, .int x_va, .int x_fk, .int x_fp, .ref mfr, .ref mwt, .int x_wt, .int x_op, .int x_jo, .ref mfg, .ref mpl, .long x_dr, .ref mtm, .ref mfa, .ref mqu, .ref mmo, .ref mwy, .ref mwn, .ref mma, .ref mwi, .ref mnu, .ref mmv])), (mma, .inl (c_ma, 4, .inl f_64)), (mwi, .inl (c_wi, 4, .inl f_66)), (mnu, .inl (c_nu, 240, .inr (.inl v.2)))] ∧ va_S A s.heap H locs ∧ lv_has ls 5 [(4, .int v.1), (0, .ref o0), (1, .int a1), (2, .int a2), (3, .int a3)]) (fun v H locs ls hI ih_52_99 => ?_) ((0 : Int32), w_nu) ⟨(show (0 : Int) ≤ (0 : Int32).toInt ∧ (0 : Int32).toInt ≤ 60 from (rg_w (by decide : (0 : Int) ≤ (0 : Int32).toInt ∧ (0 : Int32).toInt ≤ 0) (by decide) (by decide))), hP, hD, hS, lv_sub hl [0, 1, 2, 3, 4] rfl⟩
          obtain ⟨y_73, f_74⟩ := v
          obtain ⟨b_y_73, hP, hD, hS, hl⟩ := hI
          have b_y_73 : (0 : Int) ≤ y_73.toInt ∧ y_73.toInt ≤ 60 := b_y_73
          have hP : va_P (dC, dI) vwCl [(o0, .inr (8, [.int x_th, .ref mwo, .ref mim, .ref mhi, .ref mlu, .ref mtp, .int x_td, .ref mfv, .int x_sz, .int x_at, .int x_fr, .int x_to, .int x_va, .int x_fk, .int x_fp, .ref mfr, .ref mwt, .int x_wt, .int x_op, .int x_jo, .ref mfg, .ref mpl, .long x_dr, .ref mtm, .ref mfa, .ref mqu, .ref mmo, .ref mwy, .ref mwn, .ref mma, .ref mwi, .ref mnu, .ref mmv])), (mma, .inl (c_ma, 4, .inl f_64)), (mwi, .inl (c_wi, 4, .inl f_66)), (mnu, .inl (c_nu, 240, .inr (.inl f_74)))] H := hP
          have hD : va_D A [(o0, .inr (8, [.int x_th, .ref mwo, .ref mim, .ref mhi, .ref mlu, .ref mtp, .int x_td, .ref mfv, .int x_sz, .int x_at, .int x_fr, .int x_to, .int x_va, .int x_fk, .int x_fp, .ref mfr, .ref mwt, .int x_wt, .int x_op, .int x_jo, .ref mfg, .ref mpl, .long x_dr, .ref mtm, .ref mfa, .ref mqu, .ref mmo, .ref mwy, .ref mwn, .ref mma, .ref mwi, .ref mnu, .ref mmv])), (mma, .inl (c_ma, 4, .inl f_64)), (mwi, .inl (c_wi, 4, .inl f_66)), (mnu, .inl (c_nu, 240, .inr (.inl f_74)))] := hD
          have hl : lv_has ls 5 [(4, .int y_73), (0, .ref o0), (1, .int a1), (2, .int a2), (3, .int a3)] := hl
          refine lv_iload hx hb dX10_row_52 (lv_at hl 0 rfl) ?_
          refine lv_bipush (v := 60) hx hb dX10_row_54 (by decide) ?_
          refine lv_icmp_ge (tgt := 78) hx hb dX10_row_56 (by decide) (fun c_100 => ?_) (fun c_100 => ?_)
          ·
            have n_c_100 : (60 : Int) ≤ y_73.toInt := c_ge rfl (by decide) c_100
            have b_y_73 : (60 : Int) ≤ y_73.toInt ∧ y_73.toInt ≤ 60 := r_le2 (by decide : (60 : Int) ≤ (60 : Int32).toInt ∧ (60 : Int32).toInt ≤ 60) b_y_73 n_c_100 (by decide)
            refine lv_iconst (v := 0) hx hb dX10_row_78 (by decide) ?_
            have hP9 := hP.sub (ws' := [(o0, .inr (8, [.int x_th, .ref mwo, .ref mim, .ref mhi, .ref mlu, .ref mtp, .int x_td, .ref mfv, .int x_sz, .int x_at, .int x_fr, .int x_to, .int x_va, .int x_fk, .int x_fp, .ref mfr, .ref mwt, .int x_wt, .int x_op, .int x_jo, .ref mfg, .ref mpl, .long x_dr, .ref mtm, .ref mfa, .ref mqu, .ref mmo, .ref mwy, .ref mwn, .ref mma, .ref mwi, .ref mnu, .ref mmv])), (mma, .inl (c_ma, 4, .inl f_64)), (mwi, .inl (c_wi, 4, .inl f_66)), (mnu, .inl (c_nu, 240, .inr (.inl f_74)))]) [0, 1, 2, 3] rfl
            have hD9 := hD.sub (ws' := [(o0, .inr (8, [.int x_th, .ref mwo, .ref mim, .ref mhi, .ref mlu, .ref mtp, .int x_td, .ref mfv, .int x_sz, .int x_at, .int x_fr, .int x_to, .int x_va, .int x_fk, .int x_fp, .ref mfr, .ref mwt, .int x_wt, .int x_op, .int x_jo, .ref mfg, .ref mpl, .long x_dr, .ref mtm, .ref mfa, .ref mqu, .ref mmo, .ref mwy, .ref mwn, .ref mma, .ref mwi, .ref mnu, .ref mmv])), (mma, .inl (c_ma, 4, .inl f_64)), (mwi, .inl (c_wi, 4, .inl f_66)), (mnu, .inl (c_nu, 240, .inr (.inl f_74)))]) [0, 1, 2, 3] (by decide) rfl
            have hK9 := hK.sub (tys' := [(c_ma, .int), (c_wi, .int), (c_nu, .long)]) [0, 1, 2] rfl
            exact W.iret (v := 0) hx hb hr (fun t ht hW => ⟨⟨0, (), rfl, (rg_w (by decide : (0 : Int) ≤ (0 : Int32).toInt ∧ (0 : Int32).toInt ≤ 0) (by decide) (by decide)), f_64, f_66, f_74, ha_65, ha_67, (gr_set (show _ ∧ _ ∧ _ from ⟨⟨by omega, by omega⟩, ⟨by omega, by omega⟩, ⟨by omega, by omega⟩⟩) hgR9 ef_f_64 ef_f_66), by rw [ht]; exact hP9, va_K.moved hW.alike hK9, hD9⟩, hS.F ht⟩) hS.2.2 dX10_row_79
          ·
            have n_c_100 : (y_73.toInt : Int) < 60 := c_nge rfl (by decide) c_100
            have b_y_73 : (0 : Int) ≤ y_73.toInt ∧ y_73.toInt ≤ 59 := r_lt1 b_y_73 (by decide : (60 : Int) ≤ (60 : Int32).toInt ∧ (60 : Int32).toInt ≤ 60) n_c_100 (by decide)
            refine lv_aload_n hx hb dX10_row_59 rfl (lv_at hl 1 rfl) ?_
            refine va_get (D := (dC, dI)) (ci := 8) (v := .ref mnu) (C := RX10) (T := TX10) (N := 33) hx hb hts iX10_rowG_X10 hown hK hP 0 rfl rfl 31 (by decide) (hts (.fieldLink RX10 71 "LuckyTicketModel" "numbers" "[J") (List.mem_of_getElem? (i := 9) rfl)) (fun _ h9 => h9) rfl dX10_row_60 ?_
            refine lv_bipush (v := 60) hx hb dX10_row_63 (by decide) ?_
            refine lv_iload_n hx hb dX10_row_65 rfl (lv_at hl 2 rfl) ?_
            refine lv_imul hx hb dX10_row_66 ?_
            refine lv_topi (fun z_101 e_z_101 => ?_)
            obtain ⟨q_z_101, b_z_101⟩ := ti_mul (lo := 0) (hi := 180) e_z_101 (by decide : (60 : Int32).toInt = 60) rfl (by decide : (60 : Int) ≤ (60 : Int32).toInt ∧ (60 : Int32).toInt ≤ 60) b_a1 (by decide)
            refine lv_iload hx hb dX10_row_67 (lv_at hl 0 rfl) ?_
            refine lv_iadd hx hb dX10_row_69 ?_
            refine lv_topi (fun z_102 e_z_102 => ?_)
            obtain ⟨q_z_102, b_z_102⟩ := ti_add (lo := 0) (hi := 239) e_z_102 rfl rfl b_z_101 b_y_73 (by decide)
            refine lv_lconst (v := 0) hx hb dX10_row_70 (by decide) ?_
            refine va_last hx hb hK hP hD hS 3 2 rfl rfl (vp_in_b b_z_102 (by decide) (by decide)) dX10_row_71 (fun H locs hP hD hS => ?_)
            have hP : va_P (dC, dI) vwCl [(o0, .inr (8, [.int x_th, .ref mwo, .ref mim, .ref mhi, .ref mlu, .ref mtp, .int x_td, .ref mfv, .int x_sz, .int x_at, .int x_fr, .int x_to, .int x_va, .int x_fk, .int x_fp, .ref mfr, .ref mwt, .int x_wt, .int x_op, .int x_jo, .ref mfg, .ref mpl, .long x_dr, .ref mtm, .ref mfa, .ref mqu, .ref mmo, .ref mwy, .ref mwn, .ref mma, .ref mwi, .ref mnu, .ref mmv])), (mma, .inl (c_ma, 4, .inl f_64)), (mwi, .inl (c_wi, 4, .inl f_66)), (mnu, .inl (c_nu, 240, .inr (.inl (vp_updL f_74 (z_102 : Int32).toNatClampNeg 0))))] H := hP
            have hD : va_D A [(o0, .inr (8, [.int x_th, .ref mwo, .ref mim, .ref mhi, .ref mlu, .ref mtp, .int x_td, .ref mfv, .int x_sz, .int x_at, .int x_fr, .int x_to, .int x_va, .int x_fk, .int x_fp, .ref mfr, .ref mwt, .int x_wt, .int x_op, .int x_jo, .ref mfg, .ref mpl, .long x_dr, .ref mtm, .ref mfa, .ref mqu, .ref mmo, .ref mwy, .ref mwn, .ref mma, .ref mwi, .ref mnu, .ref mmv])), (mma, .inl (c_ma, 4, .inl f_64)), (mwi, .inl (c_wi, 4, .inl f_66)), (mnu, .inl (c_nu, 240, .inr (.inl (vp_updL f_74 (z_102 : Int32).toNatClampNeg 0))))] := hD
            generalize (vp_updL f_74 (z_102 : Int32).toNatClampNeg 0) = f_103 at hP hD
            have hP : va_P (dC, dI) vwCl [(o0, .inr (8, [.int x_th, .ref mwo, .ref mim, .ref mhi, .ref mlu, .ref mtp, .int x_td, .ref mfv, .int x_sz, .int x_at, .int x_fr, .int x_to, .int x_va, .int x_fk, .int x_fp, .ref mfr, .ref mwt, .int x_wt, .int x_op, .int x_jo, .ref mfg, .ref mpl, .long x_dr, .ref mtm, .ref mfa, .ref mqu, .ref mmo, .ref mwy, .ref mwn, .ref mma, .ref mwi, .ref mnu, .ref mmv])), (mma, .inl (c_ma, 4, .inl f_64)), (mwi, .inl (c_wi, 4, .inl f_66)), (mnu, .inl (c_nu, 240, .inr (.inl f_103)))] H := hP
            have hD : va_D A [(o0, .inr (8, [.int x_th, .ref mwo, .ref mim, .ref mhi, .ref mlu, .ref mtp, .int x_td, .ref mfv, .int x_sz, .int x_at, .int x_fr, .int x_to, .int x_va, .int x_fk, .int x_fp, .ref mfr, .ref mwt, .int x_wt, .int x_op, .int x_jo, .ref mfg, .ref mpl, .long x_dr, .ref mtm, .ref mfa, .ref mqu, .ref mmo, .ref mwy, .ref mwn, .ref mma, .ref mwi, .ref mnu, .ref mmv])), (mma, .inl (c_ma, 4, .inl f_64)), (mwi, .inl (c_wi, 4, .inl f_66)), (mnu, .inl (c_nu, 240, .inr (.inl f_103)))] := hD
            obtain ⟨z_104, e_z_104⟩ : ∃ y : Int32, y = y_73 + 1 := ⟨_, rfl⟩
            refine lv_iinc (v := z_104) (lv' := [(4, .int z_104), (0, .ref o0), (1, .int a1), (2, .int a2), (3, .int a3)]) hx hb dX10_row_72 hl (k := 0) rfl (by rw [e_z_104]; rfl) (by decide) rfl (fun ls hl => ?_)
            obtain ⟨q_z_104, b_z_104⟩ := ti_add (lo := 1) (hi := 60) e_z_104 rfl (by decide : (1 : Int32).toInt = 1) b_y_73 (by decide : (1 : Int) ≤ (1 : Int32).toInt ∧ (1 : Int32).toInt ≤ 1) (by decide)
            refine lv_goto (tgt := 52) hx hb dX10_row_75 (by decide) ?_
            exact ih_52_99 (z_104, f_103) _ _ _ ⟨(show (0 : Int) ≤ z_104.toInt ∧ z_104.toInt ≤ 60 from (rg_w b_z_104 (by decide) (by decide))), hP, hD, hS, lv_sub hl [0, 1, 2, 3, 4] rfl⟩ (show (60 - z_104.toInt).toNat < (60 - y_73.toInt).toNat by omega)
        ·
          have n_c_63 : (a3.toInt : Int) < 0 := c_nge rfl (by decide) c_63
          have b_a3 : (-2147483648 : Int) ≤ a3.toInt ∧ a3.toInt ≤ -1 := r_lt1 b_a3 (by decide : (0 : Int) ≤ (0 : Int32).toInt ∧ (0 : Int32).toInt ≤ 0) n_c_63 (by decide)
          refine lv_bipush (v := (-3)) hx hb dX10_row_32 (by decide) ?_
          have hP9 := hP.sub (ws' := [(o0, .inr (8, [.int x_th, .ref mwo, .ref mim, .ref mhi, .ref mlu, .ref mtp, .int x_td, .ref mfv, .int x_sz, .int x_at, .int x_fr, .int x_to, .int x_va, .int x_fk, .int x_fp, .ref mfr, .ref mwt, .int x_wt, .int x_op, .int x_jo, .ref mfg, .ref mpl, .long x_dr, .ref mtm, .ref mfa, .ref mqu, .ref mmo, .ref mwy, .ref mwn, .ref mma, .ref mwi, .ref mnu, .ref mmv])), (mma, .inl (c_ma, 4, .inl w_ma)), (mwi, .inl (c_wi, 4, .inl w_wi)), (mnu, .inl (c_nu, 240, .inr (.inl w_nu)))]) [0, 1, 2, 3] rfl
          have hD9 := hD.sub (ws' := [(o0, .inr (8, [.int x_th, .ref mwo, .ref mim, .ref mhi, .ref mlu, .ref mtp, .int x_td, .ref mfv, .int x_sz, .int x_at, .int x_fr, .int x_to, .int x_va, .int x_fk, .int x_fp, .ref mfr, .ref mwt, .int x_wt, .int x_op, .int x_jo, .ref mfg, .ref mpl, .long x_dr, .ref mtm, .ref mfa, .ref mqu, .ref mmo, .ref mwy, .ref mwn, .ref mma, .ref mwi, .ref mnu, .ref mmv])), (mma, .inl (c_ma, 4, .inl w_ma)), (mwi, .inl (c_wi, 4, .inl w_wi)), (mnu, .inl (c_nu, 240, .inr (.inl w_nu)))]) [0, 1, 2, 3] (by decide) rfl
          have hK9 := hK.sub (tys' := [(c_ma, .int), (c_wi, .int), (c_nu, .long)]) [0, 1, 2] rfl
          exact W.iret (v := (-3)) hx hb hr (fun t ht hW => ⟨⟨(-3), (), rfl, (rg_w (by decide : (-3 : Int) ≤ ((-3) : Int32).toInt ∧ ((-3) : Int32).toInt ≤ -3) (by decide) (by decide)), w_ma, w_wi, w_nu, ha_mma, ha_mwi, (gr_no (by omega) hgR9), by rw [ht]; exact hP9, va_K.moved hW.alike hK9, hD9⟩, hS.F ht⟩) hS.2.2 dX10_row_34
      ·
        have n_c_62 : (60 : Int) < a3.toInt := c_nle rfl (by decide) c_62
        have b_a3 : (61 : Int) ≤ a3.toInt ∧ a3.toInt ≤ 2147483647 := r_lt2 (by decide : (60 : Int) ≤ (60 : Int32).toInt ∧ (60 : Int32).toInt ≤ 60) (ti_rng a3) n_c_62 (by decide)
        refine lv_bipush (v := (-2)) hx hb dX10_row_25 (by decide) ?_
        have hP9 := hP.sub (ws' := [(o0, .inr (8, [.int x_th, .ref mwo, .ref mim, .ref mhi, .ref mlu, .ref mtp, .int x_td, .ref mfv, .int x_sz, .int x_at, .int x_fr, .int x_to, .int x_va, .int x_fk, .int x_fp, .ref mfr, .ref mwt, .int x_wt, .int x_op, .int x_jo, .ref mfg, .ref mpl, .long x_dr, .ref mtm, .ref mfa, .ref mqu, .ref mmo, .ref mwy, .ref mwn, .ref mma, .ref mwi, .ref mnu, .ref mmv])), (mma, .inl (c_ma, 4, .inl w_ma)), (mwi, .inl (c_wi, 4, .inl w_wi)), (mnu, .inl (c_nu, 240, .inr (.inl w_nu)))]) [0, 1, 2, 3] rfl
        have hD9 := hD.sub (ws' := [(o0, .inr (8, [.int x_th, .ref mwo, .ref mim, .ref mhi, .ref mlu, .ref mtp, .int x_td, .ref mfv, .int x_sz, .int x_at, .int x_fr, .int x_to, .int x_va, .int x_fk, .int x_fp, .ref mfr, .ref mwt, .int x_wt, .int x_op, .int x_jo, .ref mfg, .ref mpl, .long x_dr, .ref mtm, .ref mfa, .ref mqu, .ref mmo, .ref mwy, .ref mwn, .ref mma, .ref mwi, .ref mnu, .ref mmv])), (mma, .inl (c_ma, 4, .inl w_ma)), (mwi, .inl (c_wi, 4, .inl w_wi)), (mnu, .inl (c_nu, 240, .inr (.inl w_nu)))]) [0, 1, 2, 3] (by decide) rfl
        have hK9 := hK.sub (tys' := [(c_ma, .int), (c_wi, .int), (c_nu, .long)]) [0, 1, 2] rfl
        exact W.iret (v := (-2)) hx hb hr (fun t ht hW => ⟨⟨(-2), (), rfl, (rg_w (by decide : (-2 : Int) ≤ ((-2) : Int32).toInt ∧ ((-2) : Int32).toInt ≤ -2) (by decide) (by decide)), w_ma, w_wi, w_nu, ha_mma, ha_mwi, (gr_no (by omega) hgR9), by rw [ht]; exact hP9, va_K.moved hW.alike hK9, hD9⟩, hS.F ht⟩) hS.2.2 dX10_row_27
def uX9_pasteF : List Cond := List.cons (.code yX9_paste cX9_paste 8 (some .int)) (HAppend.hAppend ([.methodLink RX9 206 yX9_hasSlot, .instanceMethod yX9_hasSlot, .selects RX9 yX9_hasSlot yX9_hasSlot, .initialized RX9, .fieldLink RX9 50 "LuckyTicket" "slots" "[LLuckyTicket$Row;", .methodLink RX9 270 yX3_stands, .instanceMethod yX3_stands, .selects RX3 yX3_stands yX3_stands, .initialized RX3, .methodLink RX9 343 yX3_hasStretch, .instanceMethod yX3_hasStretch, .selects RX3 yX3_hasStretch yX3_hasStretch, .methodLink RX9 353 yX3_take, .instanceMethod yX3_take, .selects RX3 yX3_take yX3_take] : List Cond) (HAppend.hAppend uX9_hasSlot2 (HAppend.hAppend uX3_stands2 (HAppend.hAppend uX3_hasStretch2 (HAppend.hAppend uX3_takeS (HAppend.hAppend uX3_take (HAppend.hAppend wsX90 wsX30)))))))
theorem iX9_pasteF_X9 : ∀ w ∈ wsX90, w ∈ uX9_pasteF := fun _ h => (List.mem_cons_of_mem _ (List.mem_append_right _ (List.mem_append_right _ (List.mem_append_right _ (List.mem_append_right _ (List.mem_append_right _ (List.mem_append_right _ (List.mem_append_left _ h))))))))
theorem iX9_pasteF_X3 : ∀ w ∈ wsX30, w ∈ uX9_pasteF := fun _ h => (List.mem_cons_of_mem _ (List.mem_append_right _ (List.mem_append_right _ (List.mem_append_right _ (List.mem_append_right _ (List.mem_append_right _ (List.mem_append_right _ (List.mem_append_right _ h))))))))
theorem guX9_pasteF : GU uX9_pasteF := gu_cons (gu_app (by decide +kernel) (gu_ap guX9_hasSlot2 (gu_ap guX3_stands2 (gu_ap guX3_hasStretch2 (gu_ap guX3_takeS (gu_ap guX3_take (gu_ap gws_X9 gws_X3)))))))
theorem gX9_pasteF__X9_hasSlot2_V206 : GoodIn uX9_pasteF (wsV RX9 206 RX9 yX9_hasSlot uX9_hasSlot2) := gin_V (List.mem_of_getElem? (i := 1) rfl) (List.mem_of_getElem? (i := 2) rfl) (List.mem_of_getElem? (i := 3) rfl) (List.mem_of_getElem? (i := 4) rfl) (fun _ h => (List.mem_cons_of_mem _ (List.mem_append_right _ (List.mem_append_left _ h)))) guX9_hasSlot2
theorem gX9_pasteF__X3_stands2_V270 : GoodIn uX9_pasteF (wsV RX9 270 RX3 yX3_stands uX3_stands2) := gin_V (List.mem_of_getElem? (i := 6) rfl) (List.mem_of_getElem? (i := 7) rfl) (List.mem_of_getElem? (i := 8) rfl) (List.mem_of_getElem? (i := 9) rfl) (fun _ h => (List.mem_cons_of_mem _ (List.mem_append_right _ (List.mem_append_right _ (List.mem_append_left _ h))))) guX3_stands2
theorem gX9_pasteF__X3_hasStretch2_V343 : GoodIn uX9_pasteF (wsV RX9 343 RX3 yX3_hasStretch uX3_hasStretch2) := gin_V (List.mem_of_getElem? (i := 10) rfl) (List.mem_of_getElem? (i := 11) rfl) (List.mem_of_getElem? (i := 12) rfl) (List.mem_of_getElem? (i := 9) rfl) (fun _ h => (List.mem_cons_of_mem _ (List.mem_append_right _ (List.mem_append_right _ (List.mem_append_right _ (List.mem_append_left _ h)))))) guX3_hasStretch2
theorem gX9_pasteF__X3_takeS_V353 : GoodIn uX9_pasteF (wsV RX9 353 RX3 yX3_take uX3_takeS) := gin_V (List.mem_of_getElem? (i := 13) rfl) (List.mem_of_getElem? (i := 14) rfl) (List.mem_of_getElem? (i := 15) rfl) (List.mem_of_getElem? (i := 9) rfl) (fun _ h => (List.mem_cons_of_mem _ (List.mem_append_right _ (List.mem_append_right _ (List.mem_append_right _ (List.mem_append_right _ (List.mem_append_left _ h))))))) guX3_takeS
theorem gX9_pasteF__X3_take_V353 : GoodIn uX9_pasteF (wsV RX9 353 RX3 yX3_take uX3_take) := gin_V (List.mem_of_getElem? (i := 13) rfl) (List.mem_of_getElem? (i := 14) rfl) (List.mem_of_getElem? (i := 15) rfl) (List.mem_of_getElem? (i := 9) rfl) (fun _ h => (List.mem_cons_of_mem _ (List.mem_append_right _ (List.mem_append_right _ (List.mem_append_right _ (List.mem_append_right _ (List.mem_append_right _ (List.mem_append_left _ h)))))))) guX3_take
set_option maxHeartbeats 4000000 in
set_option maxRecDepth 100000 in
theorem kX9_pasteF (l : Launch) (dC : Nat → ClassId) (dI : Nat → Nat → Nat) (h0 : Nat) (tp : Nat) (sc : Nat) (rd : Nat) (cu : Nat) (im : Nat) (ig : Nat) (sl : Nat) (se : Nat) (sm : Nat) (fc : Nat) (cS : ClassId) (s0 : Nat) (s1 : Nat) (s2 : Nat) (s3 : Nat) (n0 : Nat) (n1 : Nat) (n2 : Nat) (n3 : Nat) (wd0 : Int32) (wd1 : Int32) (wd2 : Int32) (wd3 : Int32) (rz0 : Int32) (rz1 : Int32) (rz2 : Int32) (rz3 : Int32) (cJ0 : ClassId) (cJ1 : ClassId) (cJ2 : ClassId) (cJ3 : ClassId) (g0 : Nat → Int64) (g1 : Nat → Int64) (g2 : Nat → Int64) (g3 : Nat → Int64) (gh : Nat → Int32) (a1 : Int32) (a2 : Int32) (a3 : Int32) (a4 : Int32) (a5 : Int32) (sz : Nat) (b_wd0 : (-1 : Int) ≤ wd0.toInt ∧ wd0.toInt ≤ 3) (b_wd1 : (-1 : Int) ≤ wd1.toInt ∧ wd1.toInt ≤ 3) (b_wd2 : (-1 : Int) ≤ wd2.toInt ∧ wd2.toInt ≤ 3) (b_wd3 : (-1 : Int) ≤ wd3.toInt ∧ wd3.toInt ≤ 3) (b_rz0 : (0 : Int) ≤ rz0.toInt ∧ rz0.toInt ≤ 60) (b_rz1 : (0 : Int) ≤ rz1.toInt ∧ rz1.toInt ≤ 60) (b_rz2 : (0 : Int) ≤ rz2.toInt ∧ rz2.toInt ≤ 60) (b_rz3 : (0 : Int) ≤ rz3.toInt ∧ rz3.toInt ≤ 60) (hg9_0 : RG gh 0 wd0 rz0) (hg9_1 : RG gh 1 wd1 rz1) (hg9_2 : RG gh 2 wd2 rz2) (hg9_3 : RG gh 3 wd3 rz3) : Met l yX9_paste uX9_pasteF ({ frames := 2, cells := 0, slots := 0, locals := 88 }) (va_Pc [.ref h0, .int a1, .int a2, .int a3, .int a4, .int a5] (hw (dC, dI) vwCl [(h0, .inr (7, [.ref tp, .ref sc, .ref rd, .ref cu, .ref im, .ref ig, .ref sl, .ref se, .ref sm, .ref fc])), (sl, .inl (cS, 4, .inr (.inr (.inr (.inr (sf4 s0 s1 s2 s3)))))), (s0, .inr (2, [.int wd0, .int rz0, .ref n0])), (s1, .inr (2, [.int wd1, .int rz1, .ref n1])), (s2, .inr (2, [.int wd2, .int rz2, .ref n2])), (s3, .inr (2, [.int wd3, .int rz3, .ref n3])), (n0, .inl (cJ0, 60, .inr (.inl g0))), (n1, .inl (cJ1, 60, .inr (.inl g1))), (n2, .inl (cJ2, 60, .inr (.inl g2))), (n3, .inl (cJ3, 60, .inr (.inl g3)))] [(cS, .object RX3), (cJ0, .long), (cJ1, .long), (cJ2, .long), (cJ3, .long)] sz)) (va_Qi (fun (r : Int32) (_ : Unit) => ((-8 : Int) ≤ r.toInt ∧ r.toInt ≤ 0) ∧ (r = psA gh a1 a2 a3 a4 a5)) (fun (_ : Unit) t => ∃ (o0_ : Nat → Int64) (o1_ : Nat → Int64) (o2_ : Nat → Int64) (o3_ : Nat → Int64), va_P (dC, dI) vwCl [(h0, .inr (7, [.ref tp, .ref sc, .ref rd, .ref cu, .ref im, .ref ig, .ref sl, .ref se, .ref sm, .ref fc])), (sl, .inl (cS, 4, .inr (.inr (.inr (.inr (sf4 s0 s1 s2 s3)))))), (s0, .inr (2, [.int wd0, .int rz0, .ref n0])), (s1, .inr (2, [.int wd1, .int rz1, .ref n1])), (s2, .inr (2, [.int wd2, .int rz2, .ref n2])), (s3, .inr (2, [.int wd3, .int rz3, .ref n3])), (n0, .inl (cJ0, 60, .inr (.inl o0_))), (n1, .inl (cJ1, 60, .inr (.inl o1_))), (n2, .inl (cJ2, 60, .inr (.inl o2_))), (n3, .inl (cJ3, 60, .inr (.inl o3_)))] t.heap ∧ va_K (dC, dI) vwCl [(cS, .object RX3), (cJ0, .long), (cJ1, .long), (cJ2, .long), (cJ3, .long)] t ∧ va_D (va_A [(h0, .inr (7, [.ref tp, .ref sc, .ref rd, .ref cu, .ref im, .ref ig, .ref sl, .ref se, .ref sm, .ref fc])), (sl, .inl (cS, 4, .inr (.inr (.inr (.inr (sf4 s0 s1 s2 s3)))))), (s0, .inr (2, [.int wd0, .int rz0, .ref n0])), (s1, .inr (2, [.int wd1, .int rz1, .ref n1])), (s2, .inr (2, [.int wd2, .int rz2, .ref n2])), (s3, .inr (2, [.int wd3, .int rz3, .ref n3])), (n0, .inl (cJ0, 60, .inr (.inl g0))), (n1, .inl (cJ1, 60, .inr (.inl g1))), (n2, .inl (cJ2, 60, .inr (.inl g2))), (n3, .inl (cJ3, 60, .inr (.inl g3)))] sz) [(h0, .inr (7, [.ref tp, .ref sc, .ref rd, .ref cu, .ref im, .ref ig, .ref sl, .ref se, .ref sm, .ref fc])), (sl, .inl (cS, 4, .inr (.inr (.inr (.inr (sf4 s0 s1 s2 s3)))))), (s0, .inr (2, [.int wd0, .int rz0, .ref n0])), (s1, .inr (2, [.int wd1, .int rz1, .ref n1])), (s2, .inr (2, [.int wd2, .int rz2, .ref n2])), (s3, .inr (2, [.int wd3, .int rz3, .ref n3])), (n0, .inl (cJ0, 60, .inr (.inl o0_))), (n1, .inl (cJ1, 60, .inr (.inl o1_))), (n2, .inl (cJ2, 60, .inr (.inl o2_))), (n3, .inl (cJ3, 60, .inr (.inl o3_)))]) (va_A [(h0, .inr (7, [.ref tp, .ref sc, .ref rd, .ref cu, .ref im, .ref ig, .ref sl, .ref se, .ref sm, .ref fc])), (sl, .inl (cS, 4, .inr (.inr (.inr (.inr (sf4 s0 s1 s2 s3)))))), (s0, .inr (2, [.int wd0, .int rz0, .ref n0])), (s1, .inr (2, [.int wd1, .int rz1, .ref n1])), (s2, .inr (2, [.int wd2, .int rz2, .ref n2])), (s3, .inr (2, [.int wd3, .int rz3, .ref n3])), (n0, .inl (cJ0, 60, .inr (.inl g0))), (n1, .inl (cJ1, 60, .inr (.inl g1))), (n2, .inl (cJ2, 60, .inr (.inl g2))), (n3, .inl (cJ3, 60, .inr (.inl g3)))] sz)) 0 0 (va_A [(h0, .inr (7, [.ref tp, .ref sc, .ref rd, .ref cu, .ref im, .ref ig, .ref sl, .ref se, .ref sm, .ref fc])), (sl, .inl (cS, 4, .inr (.inr (.inr (.inr (sf4 s0 s1 s2 s3)))))), (s0, .inr (2, [.int wd0, .int rz0, .ref n0])), (s1, .inr (2, [.int wd1, .int rz1, .ref n1])), (s2, .inr (2, [.int wd2, .int rz2, .ref n2])), (s3, .inr (2, [.int wd3, .int rz3, .ref n3])), (n0, .inl (cJ0, 60, .inr (.inl g0))), (n1, .inl (cJ1, 60, .inr (.inl g1))), (n2, .inl (cJ2, 60, .inr (.inl g2))), (n3, .inl (cJ3, 60, .inr (.inl g3)))] sz) := by
  refine Met.ofW (cc := cX9_paste) (maxL := 8) (ret := (some .int)) pn_X9 rfl ?_
  intro p e s m args below meth c s₁ B hml hv
  obtain ⟨rfl, hsz, hP, hK, hD0, hN⟩ := hv
  have hx := B.exec
  have hb := B.bytes
  have hr := B.returns
  have hts := atoms_spec (ws := uX9_pasteF) B.pre
  have hown : s.vm.findClass RX9 = some m.cls := hown_of B.named rfl
  have hlocks := B.notSynchronized
  subst hsz
  have hD := hD0.self (sz := s.heap.size)
  generalize hAe : va_A [(h0, .inr (7, [.ref tp, .ref sc, .ref rd, .ref cu, .ref im, .ref ig, .ref sl, .ref se, .ref sm, .ref fc])), (sl, .inl (cS, 4, .inr (.inr (.inr (.inr (sf4 s0 s1 s2 s3)))))), (s0, .inr (2, [.int wd0, .int rz0, .ref n0])), (s1, .inr (2, [.int wd1, .int rz1, .ref n1])), (s2, .inr (2, [.int wd2, .int rz2, .ref n2])), (s3, .inr (2, [.int wd3, .int rz3, .ref n3])), (n0, .inl (cJ0, 60, .inr (.inl g0))), (n1, .inl (cJ1, 60, .inr (.inl g1))), (n2, .inl (cJ2, 60, .inr (.inl g2))), (n3, .inl (cJ3, 60, .inr (.inl g3)))] s.heap.size = A at hD ⊢
  have hA : ∀ q : Nat, s.heap.size ≤ q → A q := fun q h => by rw [← hAe]; exact Or.inr h
  have hS : va_S A s.heap s.heap [] := va_S.rf
  have hP : va_P (dC, dI) vwCl [(h0, .inr (7, [.ref tp, .ref sc, .ref rd, .ref cu, .ref im, .ref ig, .ref sl, .ref se, .ref sm, .ref fc])), (sl, .inl (cS, 4, .inr (.inr (.inr (.inr (sf4 s0 s1 s2 s3)))))), (s0, .inr (2, [.int wd0, .int rz0, .ref n0])), (s1, .inr (2, [.int wd1, .int rz1, .ref n1])), (s2, .inr (2, [.int wd2, .int rz2, .ref n2])), (s3, .inr (2, [.int wd3, .int rz3, .ref n3])), (n0, .inl (cJ0, 60, .inr (.inl g0))), (n1, .inl (cJ1, 60, .inr (.inl g1))), (n2, .inl (cJ2, 60, .inr (.inl g2))), (n3, .inl (cJ3, 60, .inr (.inl g3)))] s.heap := hP
  have hl := lv_entry ([.ref h0, .int a1, .int a2, .int a3, .int a4, .int a5]) (n := 8) (Nat.le_of_ble_eq_true rfl)
  rw [lg_entry_eq]
  generalize (lg_sl ([.ref h0, .int a1, .int a2, .int a3, .int a4, .int a5]) ++ List.replicate (8 - (lg_sl ([.ref h0, .int a1, .int a2, .int a3, .int a4, .int a5])).length) Slot.unset).toArray = ls at hl ⊢
  have hl : lv_has ls 8 [(0, .ref h0), (1, .int a1), (2, .int a2), (3, .int a3), (4, .int a4), (5, .int a5)] := hl
  refine lv_aload_n hx hb dX9_paste_0 rfl (lv_at hl 0 rfl) ?_
  refine lv_iload_n hx hb dX9_paste_1 rfl (lv_at hl 1 rfl) ?_
  refine vp_callSi (W.runV (As := [.int a1]) (rest := []) ⟨hx, hb, hml, hown, hts⟩ (kX9_hasSlot2 l dC dI h0 tp sc rd cu im ig sl se sm fc cS s0 s1 s2 s3 a1 ) (cwV 1 hts gX9_pasteF__X9_hasSlot2_V206 rfl rfl rfl hd_yX9_hasSlot ⟨lel 2 2 rfl, lel 43 88 rfl⟩) ⟨pw_fb, rcv_X9 hK hP (q0 := 0) rfl, (pw_use hP hK hN [0, 1] rfl [0] rfl)⟩ rfl rfl hl.1 rfl (lv_room (Nat.le_of_ble_eq_true rfl)) dX9_paste_2 ⟨lel 0 0 rfl, lel 0 0 rfl⟩) (fun r_334 h_r_334 => ?_)
  obtain ⟨b_r_334, nz_r_334, zz_r_334⟩ := h_r_334
  have b_r_334 : (0 : Int) ≤ r_334.toInt ∧ r_334.toInt ≤ 1 := b_r_334
  refine lv_if_eq (tgt := 16) hx hb dX9_paste_5 (by decide) (fun c_335 => ?_) (fun c_335 => ?_)
  ·
    have n_c_335 : (r_334.toInt : Int) = 0 := c_eq rfl (by decide) c_335
    have b_r_334 : (0 : Int) ≤ r_334.toInt ∧ r_334.toInt ≤ 0 := r_eq1 b_r_334 (by decide : (0 : Int) ≤ (0 : Int32).toInt ∧ (0 : Int32).toInt ≤ 0) n_c_335 (by decide)
    have g_336 := zz_r_334 c_335
    refine lv_bipush (v := (-2)) hx hb dX9_paste_16 (by decide) ?_
    have hP9 := hP.sub (ws' := [(h0, .inr (7, [.ref tp, .ref sc, .ref rd, .ref cu, .ref im, .ref ig, .ref sl, .ref se, .ref sm, .ref fc])), (sl, .inl (cS, 4, .inr (.inr (.inr (.inr (sf4 s0 s1 s2 s3)))))), (s0, .inr (2, [.int wd0, .int rz0, .ref n0])), (s1, .inr (2, [.int wd1, .int rz1, .ref n1])), (s2, .inr (2, [.int wd2, .int rz2, .ref n2])), (s3, .inr (2, [.int wd3, .int rz3, .ref n3])), (n0, .inl (cJ0, 60, .inr (.inl g0))), (n1, .inl (cJ1, 60, .inr (.inl g1))), (n2, .inl (cJ2, 60, .inr (.inl g2))), (n3, .inl (cJ3, 60, .inr (.inl g3)))]) [0, 1, 2, 3, 4, 5, 6, 7, 8, 9] rfl
    have hD9 := hD.sub (ws' := [(h0, .inr (7, [.ref tp, .ref sc, .ref rd, .ref cu, .ref im, .ref ig, .ref sl, .ref se, .ref sm, .ref fc])), (sl, .inl (cS, 4, .inr (.inr (.inr (.inr (sf4 s0 s1 s2 s3)))))), (s0, .inr (2, [.int wd0, .int rz0, .ref n0])), (s1, .inr (2, [.int wd1, .int rz1, .ref n1])), (s2, .inr (2, [.int wd2, .int rz2, .ref n2])), (s3, .inr (2, [.int wd3, .int rz3, .ref n3])), (n0, .inl (cJ0, 60, .inr (.inl g0))), (n1, .inl (cJ1, 60, .inr (.inl g1))), (n2, .inl (cJ2, 60, .inr (.inl g2))), (n3, .inl (cJ3, 60, .inr (.inl g3)))]) [0, 1, 2, 3, 4, 5, 6, 7, 8, 9] (by decide) rfl
    have hK9 := hK.sub (tys' := [(cS, .object RX3), (cJ0, .long), (cJ1, .long), (cJ2, .long), (cJ3, .long)]) [0, 1, 2, 3, 4] rfl
    exact W.iret (v := (-2)) hx hb hr (fun t ht hW => ⟨⟨(-2), (), rfl, ⟨(rg_w (by decide : (-2 : Int) ≤ ((-2) : Int32).toInt ∧ ((-2) : Int32).toInt ≤ -2) (by decide) (by decide)), (ps_2 (by omega))⟩, g0, g1, g2, g3, by rw [ht]; exact hP9, va_K.moved hW.alike hK9, hD9⟩, hS.F ht⟩) hS.2.2 dX9_paste_18
  ·
    have n_c_335 : (r_334.toInt : Int) ≠ 0 := c_ne rfl (by decide) c_335
    have b_r_334 : (1 : Int) ≤ r_334.toInt ∧ r_334.toInt ≤ 1 := r_ne1 b_r_334 (by decide : (0 : Int) ≤ (0 : Int32).toInt ∧ (0 : Int32).toInt ≤ 0) n_c_335 (by decide)
    obtain ⟨b_a1, g_337⟩ := nz_r_334 c_335
    refine lv_aload_n hx hb dX9_paste_8 rfl (lv_at hl 0 rfl) ?_
    refine lv_iload_n hx hb dX9_paste_9 rfl (lv_at hl 3 rfl) ?_
    refine vp_callSi (W.runV (As := [.int a3]) (rest := []) ⟨hx, hb, hml, hown, hts⟩ (kX9_hasSlot2 l dC dI h0 tp sc rd cu im ig sl se sm fc cS s0 s1 s2 s3 a3 ) (cwV 1 hts gX9_pasteF__X9_hasSlot2_V206 rfl rfl rfl hd_yX9_hasSlot ⟨lel 2 2 rfl, lel 43 88 rfl⟩) ⟨pw_fb, rcv_X9 hK hP (q0 := 0) rfl, (pw_use hP hK hN [0, 1] rfl [0] rfl)⟩ rfl rfl hl.1 rfl (lv_room (Nat.le_of_ble_eq_true rfl)) dX9_paste_10 ⟨lel 0 0 rfl, lel 0 0 rfl⟩) (fun r_338 h_r_338 => ?_)
    obtain ⟨b_r_338, nz_r_338, zz_r_338⟩ := h_r_338
    have b_r_338 : (0 : Int) ≤ r_338.toInt ∧ r_338.toInt ≤ 1 := b_r_338
    refine lv_if_ne (tgt := 19) hx hb dX9_paste_13 (by decide) (fun c_339 => ?_) (fun c_339 => ?_)
    ·
      have n_c_339 : (r_338.toInt : Int) ≠ 0 := c_ne rfl (by decide) c_339
      have b_r_338 : (1 : Int) ≤ r_338.toInt ∧ r_338.toInt ≤ 1 := r_ne1 b_r_338 (by decide : (0 : Int) ≤ (0 : Int32).toInt ∧ (0 : Int32).toInt ≤ 0) n_c_339 (by decide)
      obtain ⟨b_a3, g_340⟩ := nz_r_338 c_339
      refine lv_aload_n hx hb dX9_paste_19 rfl (lv_at hl 0 rfl) ?_
      refine va_get (D := (dC, dI)) (ci := 7) (v := .ref sl) (C := RX9) (T := TX9) (N := 10) hx hb hts iX9_pasteF_X9 hown hK hP 0 rfl rfl 6 (by decide) (hts (.fieldLink RX9 50 "LuckyTicket" "slots" "[LLuckyTicket$Row;") (List.mem_of_getElem? (i := 5) rfl)) (fun _ h9 => h9) rfl dX9_paste_20 ?_
      refine lv_iload_n hx hb dX9_paste_23 rfl (lv_at hl 1 rfl) ?_
      rcases (show a1.toInt = 0 ∨ a1.toInt = 1 ∨ a1.toInt = 2 ∨ a1.toInt = 3 by omega) with h_341 | h_341 | h_341 | h_341
      ·
        obtain rfl : a1 = 0 := Int32.toInt_inj.mp (h_341.trans (by decide))
        refine va_aldq hx hb hK hP 1 0 rfl rfl (vp_in_b (by decide : (0 : Int) ≤ (0 : Int32).toInt ∧ (0 : Int32).toInt ≤ 0) (by decide) (by decide)) dX9_paste_24 ?_
        refine W.eq (g2 := F0 m 25 ls (.ref s0 :: [])) (congrArg (fun v => F0 m 25 ls (va_rf v :: [])) (sf4_0 s0 s1 s2 s3)) ?_
        refine lv_astore (lv' := [(6, .ref s0), (0, .ref h0), (1, .int 0), (2, .int a2), (3, .int a3), (4, .int a4), (5, .int a5)]) hx hb dX9_paste_25 hl (by decide) rfl (fun ls hl => ?_)
        refine lv_aload_n hx hb dX9_paste_27 rfl (lv_at hl 1 rfl) ?_
        refine va_get (D := (dC, dI)) (ci := 7) (v := .ref sl) (C := RX9) (T := TX9) (N := 10) hx hb hts iX9_pasteF_X9 hown hK hP 0 rfl rfl 6 (by decide) (hts (.fieldLink RX9 50 "LuckyTicket" "slots" "[LLuckyTicket$Row;") (List.mem_of_getElem? (i := 5) rfl)) (fun _ h9 => h9) rfl dX9_paste_28 ?_
        refine lv_iload_n hx hb dX9_paste_31 rfl (lv_at hl 4 rfl) ?_
        rcases (show a3.toInt = 0 ∨ a3.toInt = 1 ∨ a3.toInt = 2 ∨ a3.toInt = 3 by omega) with h_342 | h_342 | h_342 | h_342
        ·
          obtain rfl : a3 = 0 := Int32.toInt_inj.mp (h_342.trans (by decide))
          refine va_aldq hx hb hK hP 1 0 rfl rfl (vp_in_b (by decide : (0 : Int) ≤ (0 : Int32).toInt ∧ (0 : Int32).toInt ≤ 0) (by decide) (by decide)) dX9_paste_32 ?_
          refine W.eq (g2 := F0 m 33 ls (.ref s0 :: [])) (congrArg (fun v => F0 m 33 ls (va_rf v :: [])) (sf4_0 s0 s1 s2 s3)) ?_
          refine lv_astore (lv' := [(7, .ref s0), (6, .ref s0), (0, .ref h0), (1, .int 0), (2, .int a2), (3, .int 0), (4, .int a4), (5, .int a5)]) hx hb dX9_paste_33 hl (by decide) rfl (fun ls hl => ?_)
          refine lv_aload hx hb dX9_paste_35 (lv_at hl 1 rfl) ?_
          refine vp_callSi (W.runV (As := []) (rest := []) ⟨hx, hb, hml, hown, hts⟩ (kX3_stands2 l dC dI s0 wd0 rz0 n0 b_wd0 b_rz0) (cwV 0 hts gX9_pasteF__X3_stands2_V270 rfl rfl rfl hd_yX3_stands ⟨lel 1 2 rfl, lel 20 88 rfl⟩) ⟨pw_fb, rcv_X3 hK hP (q0 := 2) rfl, (pw_use hP hK hN [2] rfl [] rfl)⟩ rfl rfl hl.1 rfl (lv_room (Nat.le_of_ble_eq_true rfl)) dX9_paste_37 ⟨lel 0 0 rfl, lel 0 0 rfl⟩) (fun r_343 h_r_343 => ?_)
          obtain ⟨b_r_343, nz_r_343, zz_r_343⟩ := h_r_343
          have b_r_343 : (0 : Int) ≤ r_343.toInt ∧ r_343.toInt ≤ 1 := b_r_343
          refine lv_if_eq (tgt := 51) hx hb dX9_paste_40 (by decide) (fun c_344 => ?_) (fun c_344 => ?_)
          ·
            have n_c_344 : (r_343.toInt : Int) = 0 := c_eq rfl (by decide) c_344
            have b_r_343 : (0 : Int) ≤ r_343.toInt ∧ r_343.toInt ≤ 0 := r_eq1 b_r_343 (by decide : (0 : Int) ≤ (0 : Int32).toInt ∧ (0 : Int32).toInt ≤ 0) n_c_344 (by decide)
            have g_345 := zz_r_343 c_344
            refine lv_bipush (v := (-6)) hx hb dX9_paste_51 (by decide) ?_
            have hP9 := hP.sub (ws' := [(h0, .inr (7, [.ref tp, .ref sc, .ref rd, .ref cu, .ref im, .ref ig, .ref sl, .ref se, .ref sm, .ref fc])), (sl, .inl (cS, 4, .inr (.inr (.inr (.inr (sf4 s0 s1 s2 s3)))))), (s0, .inr (2, [.int wd0, .int rz0, .ref n0])), (s1, .inr (2, [.int wd1, .int rz1, .ref n1])), (s2, .inr (2, [.int wd2, .int rz2, .ref n2])), (s3, .inr (2, [.int wd3, .int rz3, .ref n3])), (n0, .inl (cJ0, 60, .inr (.inl g0))), (n1, .inl (cJ1, 60, .inr (.inl g1))), (n2, .inl (cJ2, 60, .inr (.inl g2))), (n3, .inl (cJ3, 60, .inr (.inl g3)))]) [0, 1, 2, 3, 4, 5, 6, 7, 8, 9] rfl
            have hD9 := hD.sub (ws' := [(h0, .inr (7, [.ref tp, .ref sc, .ref rd, .ref cu, .ref im, .ref ig, .ref sl, .ref se, .ref sm, .ref fc])), (sl, .inl (cS, 4, .inr (.inr (.inr (.inr (sf4 s0 s1 s2 s3)))))), (s0, .inr (2, [.int wd0, .int rz0, .ref n0])), (s1, .inr (2, [.int wd1, .int rz1, .ref n1])), (s2, .inr (2, [.int wd2, .int rz2, .ref n2])), (s3, .inr (2, [.int wd3, .int rz3, .ref n3])), (n0, .inl (cJ0, 60, .inr (.inl g0))), (n1, .inl (cJ1, 60, .inr (.inl g1))), (n2, .inl (cJ2, 60, .inr (.inl g2))), (n3, .inl (cJ3, 60, .inr (.inl g3)))]) [0, 1, 2, 3, 4, 5, 6, 7, 8, 9] (by decide) rfl
            have hK9 := hK.sub (tys' := [(cS, .object RX3), (cJ0, .long), (cJ1, .long), (cJ2, .long), (cJ3, .long)]) [0, 1, 2, 3, 4] rfl
            exact W.iret (v := (-6)) hx hb hr (fun t ht hW => ⟨⟨(-6), (), rfl, ⟨(rg_w (by decide : (-6 : Int) ≤ ((-6) : Int32).toInt ∧ ((-6) : Int32).toInt ≤ -6) (by decide) (by decide)), (ps_6 (j := 0) (t := 0) (by decide) (by decide) (by decide) (by have q0 := hg9_0; unfold RG at q0; omega))⟩, g0, g1, g2, g3, by rw [ht]; exact hP9, va_K.moved hW.alike hK9, hD9⟩, hS.F ht⟩) hS.2.2 dX9_paste_53
          ·
            have n_c_344 : (r_343.toInt : Int) ≠ 0 := c_ne rfl (by decide) c_344
            have b_r_343 : (1 : Int) ≤ r_343.toInt ∧ r_343.toInt ≤ 1 := r_ne1 b_r_343 (by decide : (0 : Int) ≤ (0 : Int32).toInt ∧ (0 : Int32).toInt ≤ 0) n_c_344 (by decide)
            obtain ⟨b_wd0, g_346⟩ := nz_r_343 c_344
            refine lv_aload hx hb dX9_paste_43 (lv_at hl 0 rfl) ?_
            refine vp_callSi (W.runV (As := []) (rest := []) ⟨hx, hb, hml, hown, hts⟩ (kX3_stands2 l dC dI s0 wd0 rz0 n0 (rg_w b_wd0 (by decide) (by decide)) b_rz0) (cwV 0 hts gX9_pasteF__X3_stands2_V270 rfl rfl rfl hd_yX3_stands ⟨lel 1 2 rfl, lel 20 88 rfl⟩) ⟨pw_fb, rcv_X3 hK hP (q0 := 2) rfl, (pw_use hP hK hN [2] rfl [] rfl)⟩ rfl rfl hl.1 rfl (lv_room (Nat.le_of_ble_eq_true rfl)) dX9_paste_45 ⟨lel 0 0 rfl, lel 0 0 rfl⟩) (fun r_347 h_r_347 => ?_)
            obtain ⟨b_r_347, nz_r_347, zz_r_347⟩ := h_r_347
            have b_r_347 : (0 : Int) ≤ r_347.toInt ∧ r_347.toInt ≤ 1 := b_r_347
            refine lv_if_ne (tgt := 54) hx hb dX9_paste_48 (by decide) (fun c_348 => ?_) (fun c_348 => ?_)
            ·
              have n_c_348 : (r_347.toInt : Int) ≠ 0 := c_ne rfl (by decide) c_348
              have b_r_347 : (1 : Int) ≤ r_347.toInt ∧ r_347.toInt ≤ 1 := r_ne1 b_r_347 (by decide : (0 : Int) ≤ (0 : Int32).toInt ∧ (0 : Int32).toInt ≤ 0) n_c_348 (by decide)
              obtain ⟨b_wd0, g_349⟩ := nz_r_347 c_348
              refine lv_aload hx hb dX9_paste_54 (lv_at hl 1 rfl) ?_
              refine va_getN (own := RX9) (index := 350) (ref := RX3) (host := RX9) (D := (dC, dI)) (ci := 2) (v := .int wd0) (C := RX3) (T := TX3) (N := 3) hx hb hts iX9_pasteF_X3 hown hK hP 2 rfl rfl 0 (by decide) (va_Nw.use rfl (hN _ (List.mem_of_getElem? (i := 21) rfl))) (fun _ h9 => h9) rfl dX9_paste_56 ?_
              refine lv_aload hx hb dX9_paste_59 (lv_at hl 0 rfl) ?_
              refine va_getN (own := RX9) (index := 350) (ref := RX3) (host := RX9) (D := (dC, dI)) (ci := 2) (v := .int wd0) (C := RX3) (T := TX3) (N := 3) hx hb hts iX9_pasteF_X3 hown hK hP 2 rfl rfl 0 (by decide) (va_Nw.use rfl (hN _ (List.mem_of_getElem? (i := 21) rfl))) (fun _ h9 => h9) rfl dX9_paste_61 ?_
              refine lv_icmp_eq (tgt := 70) hx hb dX9_paste_64 (by decide) (fun c_350 => ?_) (fun c_350 => ?_)
              ·
                have n_c_350 : (wd0.toInt : Int) = wd0.toInt := c_eq rfl rfl c_350
                refine lv_aload hx hb dX9_paste_70 (lv_at hl 1 rfl) ?_
                refine lv_iload_n hx hb dX9_paste_72 rfl (lv_at hl 4 rfl) ?_
                refine lv_iload hx hb dX9_paste_73 (lv_at hl 7 rfl) ?_
                refine vp_callSi (W.runV (As := [.int a2, .int a5]) (rest := []) ⟨hx, hb, hml, hown, hts⟩ (kX3_hasStretch2 l dC dI s0 wd0 rz0 n0 a2 a5 (rg_w b_wd0 (by decide) (by decide)) b_rz0) (cwV 2 hts gX9_pasteF__X3_hasStretch2_V343 rfl rfl rfl hd_yX3_hasStretch ⟨lel 1 2 rfl, lel 22 88 rfl⟩) ⟨pw_fb, rcv_X3 hK hP (q0 := 2) rfl, (pw_use hP hK hN [2] rfl [] rfl)⟩ rfl rfl hl.1 rfl (lv_room (Nat.le_of_ble_eq_true rfl)) dX9_paste_75 ⟨lel 0 0 rfl, lel 0 0 rfl⟩) (fun r_351 h_r_351 => ?_)
                obtain ⟨b_r_351, nz_r_351, zz_r_351⟩ := h_r_351
                have b_r_351 : (0 : Int) ≤ r_351.toInt ∧ r_351.toInt ≤ 1 := b_r_351
                refine lv_if_eq (tgt := 93) hx hb dX9_paste_78 (by decide) (fun c_352 => ?_) (fun c_352 => ?_)
                ·
                  have n_c_352 : (r_351.toInt : Int) = 0 := c_eq rfl (by decide) c_352
                  have b_r_351 : (0 : Int) ≤ r_351.toInt ∧ r_351.toInt ≤ 0 := r_eq1 b_r_351 (by decide : (0 : Int) ≤ (0 : Int32).toInt ∧ (0 : Int32).toInt ≤ 0) n_c_352 (by decide)
                  have g_353 := zz_r_351 c_352
                  refine lv_bipush (v := (-7)) hx hb dX9_paste_93 (by decide) ?_
                  have hP9 := hP.sub (ws' := [(h0, .inr (7, [.ref tp, .ref sc, .ref rd, .ref cu, .ref im, .ref ig, .ref sl, .ref se, .ref sm, .ref fc])), (sl, .inl (cS, 4, .inr (.inr (.inr (.inr (sf4 s0 s1 s2 s3)))))), (s0, .inr (2, [.int wd0, .int rz0, .ref n0])), (s1, .inr (2, [.int wd1, .int rz1, .ref n1])), (s2, .inr (2, [.int wd2, .int rz2, .ref n2])), (s3, .inr (2, [.int wd3, .int rz3, .ref n3])), (n0, .inl (cJ0, 60, .inr (.inl g0))), (n1, .inl (cJ1, 60, .inr (.inl g1))), (n2, .inl (cJ2, 60, .inr (.inl g2))), (n3, .inl (cJ3, 60, .inr (.inl g3)))]) [0, 1, 2, 3, 4, 5, 6, 7, 8, 9] rfl
                  have hD9 := hD.sub (ws' := [(h0, .inr (7, [.ref tp, .ref sc, .ref rd, .ref cu, .ref im, .ref ig, .ref sl, .ref se, .ref sm, .ref fc])), (sl, .inl (cS, 4, .inr (.inr (.inr (.inr (sf4 s0 s1 s2 s3)))))), (s0, .inr (2, [.int wd0, .int rz0, .ref n0])), (s1, .inr (2, [.int wd1, .int rz1, .ref n1])), (s2, .inr (2, [.int wd2, .int rz2, .ref n2])), (s3, .inr (2, [.int wd3, .int rz3, .ref n3])), (n0, .inl (cJ0, 60, .inr (.inl g0))), (n1, .inl (cJ1, 60, .inr (.inl g1))), (n2, .inl (cJ2, 60, .inr (.inl g2))), (n3, .inl (cJ3, 60, .inr (.inl g3)))]) [0, 1, 2, 3, 4, 5, 6, 7, 8, 9] (by decide) rfl
                  have hK9 := hK.sub (tys' := [(cS, .object RX3), (cJ0, .long), (cJ1, .long), (cJ2, .long), (cJ3, .long)]) [0, 1, 2, 3, 4] rfl
                  exact W.iret (v := (-7)) hx hb hr (fun t ht hW => ⟨⟨(-7), (), rfl, ⟨(rg_w (by decide : (-7 : Int) ≤ ((-7) : Int32).toInt ∧ ((-7) : Int32).toInt ≤ -7) (by decide) (by decide)), (ps_7 (j := 0) (t := 0) (by decide) (by decide) (by decide) (by have q0 := hg9_0; unfold RG at q0; omega) (by have q0 := hg9_0; unfold RG at q0; omega) (by have q0 := hg9_0; unfold RG at q0; omega))⟩, g0, g1, g2, g3, by rw [ht]; exact hP9, va_K.moved hW.alike hK9, hD9⟩, hS.F ht⟩) hS.2.2 dX9_paste_95
                ·
                  have n_c_352 : (r_351.toInt : Int) ≠ 0 := c_ne rfl (by decide) c_352
                  have b_r_351 : (1 : Int) ≤ r_351.toInt ∧ r_351.toInt ≤ 1 := r_ne1 b_r_351 (by decide : (0 : Int) ≤ (0 : Int32).toInt ∧ (0 : Int32).toInt ≤ 0) n_c_352 (by decide)
                  obtain ⟨b_a2, b_a5, g_354⟩ := nz_r_351 c_352
                  refine lv_aload hx hb dX9_paste_81 (lv_at hl 0 rfl) ?_
                  refine lv_iload hx hb dX9_paste_83 (lv_at hl 6 rfl) ?_
                  refine lv_iload hx hb dX9_paste_85 (lv_at hl 7 rfl) ?_
                  refine vp_callSi (W.runV (As := [.int a4, .int a5]) (rest := []) ⟨hx, hb, hml, hown, hts⟩ (kX3_hasStretch2 l dC dI s0 wd0 rz0 n0 a4 a5 (rg_w b_wd0 (by decide) (by decide)) b_rz0) (cwV 2 hts gX9_pasteF__X3_hasStretch2_V343 rfl rfl rfl hd_yX3_hasStretch ⟨lel 1 2 rfl, lel 22 88 rfl⟩) ⟨pw_fb, rcv_X3 hK hP (q0 := 2) rfl, (pw_use hP hK hN [2] rfl [] rfl)⟩ rfl rfl hl.1 rfl (lv_room (Nat.le_of_ble_eq_true rfl)) dX9_paste_87 ⟨lel 0 0 rfl, lel 0 0 rfl⟩) (fun r_355 h_r_355 => ?_)
                  obtain ⟨b_r_355, nz_r_355, zz_r_355⟩ := h_r_355
                  have b_r_355 : (0 : Int) ≤ r_355.toInt ∧ r_355.toInt ≤ 1 := b_r_355
                  refine lv_if_ne (tgt := 96) hx hb dX9_paste_90 (by decide) (fun c_356 => ?_) (fun c_356 => ?_)
                  ·
                    have n_c_356 : (r_355.toInt : Int) ≠ 0 := c_ne rfl (by decide) c_356
                    have b_r_355 : (1 : Int) ≤ r_355.toInt ∧ r_355.toInt ≤ 1 := r_ne1 b_r_355 (by decide : (0 : Int) ≤ (0 : Int32).toInt ∧ (0 : Int32).toInt ≤ 0) n_c_356 (by decide)
                    obtain ⟨b_a4, b_a5, g_357⟩ := nz_r_355 c_356
                    refine lv_aload hx hb dX9_paste_96 (lv_at hl 0 rfl) ?_
                    refine lv_iload hx hb dX9_paste_98 (lv_at hl 6 rfl) ?_
                    refine lv_aload hx hb dX9_paste_100 (lv_at hl 1 rfl) ?_
                    refine lv_iload_n hx hb dX9_paste_102 rfl (lv_at hl 4 rfl) ?_
                    refine lv_iload hx hb dX9_paste_103 (lv_at hl 7 rfl) ?_
                    have hFc := va_free (wc := [(s0, .inr (2, [.int wd0, .int rz0, .ref n0])), (n0, .inl (cJ0, 60, .inr (.inl g0)))]) hD hS hA [2, 6] rfl
                    refine va_callv (va_runV (As := [.int a4, .ref s0, .int a2, .int a5]) (rest := []) ⟨hx, hb, hml, hown, hts⟩ (kX3_takeS l dC dI s0 wd0 rz0 n0 cJ0 g0 a4 a2 a5 (s.heap.size) (rg_w b_wd0 (by decide) (by decide)) b_rz0) (cwV 4 hts gX9_pasteF__X3_takeS_V353 rfl rfl rfl hd_yX3_take ⟨lel 2 2 rfl, lel 88 88 rfl⟩) ⟨hw_fb, rcv_X3 hK hP (q0 := 2) rfl, (hw_use hP hD hK hN [2, 6] rfl (by decide) rfl [1] rfl)⟩ rfl rfl hl.1 rfl (lv_room (Nat.le_of_ble_eq_true rfl)) dX9_paste_105 ⟨lel 0 0 rfl, lel 0 0 rfl⟩) hS (fun q _ h => hFc q h) hFc (fun u_359 t H1 locs ht hvm hw_r_358 hB hz1 hk1 hS => ?_)
                    obtain ⟨o0_360, hP1, hK1, hD1⟩ := hB
                    rw [ht] at hP1
                    have hK1 := va_K.moved hvm.symm hK1
                    obtain ⟨hP, hD⟩ := va_join (wr := [(h0, .inr (7, [.ref tp, .ref sc, .ref rd, .ref cu, .ref im, .ref ig, .ref sl, .ref se, .ref sm, .ref fc])), (sl, .inl (cS, 4, .inr (.inr (.inr (.inr (sf4 s0 s1 s2 s3)))))), (s1, .inr (2, [.int wd1, .int rz1, .ref n1])), (s2, .inr (2, [.int wd2, .int rz2, .ref n2])), (s3, .inr (2, [.int wd3, .int rz3, .ref n3])), (n1, .inl (cJ1, 60, .inr (.inl g1))), (n2, .inl (cJ2, 60, .inr (.inl g2))), (n3, .inl (cJ3, 60, .inr (.inl g3)))]) (w1 := [(s0, .inr (2, [.int wd0, .int rz0, .ref n0])), (n0, .inl (cJ0, 60, .inr (.inl o0_360)))]) hP hD [2, 6] [0, 1, 3, 4, 5, 7, 8, 9] rfl rfl (by decide) (by decide) hk1 hFc hP1 hD1
                    have hK := (hK.sub (tys' := [(cS, .object RX3), (cJ1, .long), (cJ2, .long), (cJ3, .long)]) [0, 2, 3, 4] rfl).app hK1
                    generalize H1 = H at hP hS ⊢
                    have hP := hP.sub (ws' := [(h0, .inr (7, [.ref tp, .ref sc, .ref rd, .ref cu, .ref im, .ref ig, .ref sl, .ref se, .ref sm, .ref fc])), (sl, .inl (cS, 4, .inr (.inr (.inr (.inr (sf4 s0 s1 s2 s3)))))), (s0, .inr (2, [.int wd0, .int rz0, .ref n0])), (s1, .inr (2, [.int wd1, .int rz1, .ref n1])), (s2, .inr (2, [.int wd2, .int rz2, .ref n2])), (s3, .inr (2, [.int wd3, .int rz3, .ref n3])), (n0, .inl (cJ0, 60, .inr (.inl o0_360))), (n1, .inl (cJ1, 60, .inr (.inl g1))), (n2, .inl (cJ2, 60, .inr (.inl g2))), (n3, .inl (cJ3, 60, .inr (.inl g3)))]) [0, 1, 8, 2, 3, 4, 9, 5, 6, 7] rfl
                    have hD := hD.sub (ws' := [(h0, .inr (7, [.ref tp, .ref sc, .ref rd, .ref cu, .ref im, .ref ig, .ref sl, .ref se, .ref sm, .ref fc])), (sl, .inl (cS, 4, .inr (.inr (.inr (.inr (sf4 s0 s1 s2 s3)))))), (s0, .inr (2, [.int wd0, .int rz0, .ref n0])), (s1, .inr (2, [.int wd1, .int rz1, .ref n1])), (s2, .inr (2, [.int wd2, .int rz2, .ref n2])), (s3, .inr (2, [.int wd3, .int rz3, .ref n3])), (n0, .inl (cJ0, 60, .inr (.inl o0_360))), (n1, .inl (cJ1, 60, .inr (.inl g1))), (n2, .inl (cJ2, 60, .inr (.inl g2))), (n3, .inl (cJ3, 60, .inr (.inl g3)))]) [0, 1, 8, 2, 3, 4, 9, 5, 6, 7] (by decide) rfl
                    have hK := hK.sub (tys' := [(cS, .object RX3), (cJ0, .long), (cJ1, .long), (cJ2, .long), (cJ3, .long)]) [0, 4, 1, 2, 3] rfl
                    have hP : va_P (dC, dI) vwCl [(h0, .inr (7, [.ref tp, .ref sc, .ref rd, .ref cu, .ref im, .ref ig, .ref sl, .ref se, .ref sm, .ref fc])), (sl, .inl (cS, 4, .inr (.inr (.inr (.inr (sf4 s0 s1 s2 s3)))))), (s0, .inr (2, [.int wd0, .int rz0, .ref n0])), (s1, .inr (2, [.int wd1, .int rz1, .ref n1])), (s2, .inr (2, [.int wd2, .int rz2, .ref n2])), (s3, .inr (2, [.int wd3, .int rz3, .ref n3])), (n0, .inl (cJ0, 60, .inr (.inl o0_360))), (n1, .inl (cJ1, 60, .inr (.inl g1))), (n2, .inl (cJ2, 60, .inr (.inl g2))), (n3, .inl (cJ3, 60, .inr (.inl g3)))] H := hP
                    have hD : va_D A [(h0, .inr (7, [.ref tp, .ref sc, .ref rd, .ref cu, .ref im, .ref ig, .ref sl, .ref se, .ref sm, .ref fc])), (sl, .inl (cS, 4, .inr (.inr (.inr (.inr (sf4 s0 s1 s2 s3)))))), (s0, .inr (2, [.int wd0, .int rz0, .ref n0])), (s1, .inr (2, [.int wd1, .int rz1, .ref n1])), (s2, .inr (2, [.int wd2, .int rz2, .ref n2])), (s3, .inr (2, [.int wd3, .int rz3, .ref n3])), (n0, .inl (cJ0, 60, .inr (.inl o0_360))), (n1, .inl (cJ1, 60, .inr (.inl g1))), (n2, .inl (cJ2, 60, .inr (.inl g2))), (n3, .inl (cJ3, 60, .inr (.inl g3)))] := hD
                    have hK : va_K (dC, dI) vwCl [(cS, .object RX3), (cJ0, .long), (cJ1, .long), (cJ2, .long), (cJ3, .long)] s := hK
                    refine lv_iconst (v := 0) hx hb dX9_paste_108 (by decide) ?_
                    have hP9 := hP.sub (ws' := [(h0, .inr (7, [.ref tp, .ref sc, .ref rd, .ref cu, .ref im, .ref ig, .ref sl, .ref se, .ref sm, .ref fc])), (sl, .inl (cS, 4, .inr (.inr (.inr (.inr (sf4 s0 s1 s2 s3)))))), (s0, .inr (2, [.int wd0, .int rz0, .ref n0])), (s1, .inr (2, [.int wd1, .int rz1, .ref n1])), (s2, .inr (2, [.int wd2, .int rz2, .ref n2])), (s3, .inr (2, [.int wd3, .int rz3, .ref n3])), (n0, .inl (cJ0, 60, .inr (.inl o0_360))), (n1, .inl (cJ1, 60, .inr (.inl g1))), (n2, .inl (cJ2, 60, .inr (.inl g2))), (n3, .inl (cJ3, 60, .inr (.inl g3)))]) [0, 1, 2, 3, 4, 5, 6, 7, 8, 9] rfl
                    have hD9 := hD.sub (ws' := [(h0, .inr (7, [.ref tp, .ref sc, .ref rd, .ref cu, .ref im, .ref ig, .ref sl, .ref se, .ref sm, .ref fc])), (sl, .inl (cS, 4, .inr (.inr (.inr (.inr (sf4 s0 s1 s2 s3)))))), (s0, .inr (2, [.int wd0, .int rz0, .ref n0])), (s1, .inr (2, [.int wd1, .int rz1, .ref n1])), (s2, .inr (2, [.int wd2, .int rz2, .ref n2])), (s3, .inr (2, [.int wd3, .int rz3, .ref n3])), (n0, .inl (cJ0, 60, .inr (.inl o0_360))), (n1, .inl (cJ1, 60, .inr (.inl g1))), (n2, .inl (cJ2, 60, .inr (.inl g2))), (n3, .inl (cJ3, 60, .inr (.inl g3)))]) [0, 1, 2, 3, 4, 5, 6, 7, 8, 9] (by decide) rfl
                    have hK9 := hK.sub (tys' := [(cS, .object RX3), (cJ0, .long), (cJ1, .long), (cJ2, .long), (cJ3, .long)]) [0, 1, 2, 3, 4] rfl
                    exact W.iret (v := 0) hx hb hr (fun t ht hW => ⟨⟨0, (), rfl, ⟨(rg_w (by decide : (0 : Int) ≤ (0 : Int32).toInt ∧ (0 : Int32).toInt ≤ 0) (by decide) (by decide)), (ps_0 (j := 0) (t := 0) (by decide) (by decide) (by decide) (by have q0 := hg9_0; unfold RG at q0; omega) (by have q0 := hg9_0; unfold RG at q0; omega) (by have q0 := hg9_0; unfold RG at q0; omega))⟩, o0_360, g1, g2, g3, by rw [ht]; exact hP9, va_K.moved hW.alike hK9, hD9⟩, hS.F ht⟩) hS.2.2 dX9_paste_109
                  ·
                    have n_c_356 : (r_355.toInt : Int) = 0 := c_eq rfl (by decide) c_356
                    have b_r_355 : (0 : Int) ≤ r_355.toInt ∧ r_355.toInt ≤ 0 := r_eq1 b_r_355 (by decide : (0 : Int) ≤ (0 : Int32).toInt ∧ (0 : Int32).toInt ≤ 0) n_c_356 (by decide)
                    have g_361 := zz_r_355 c_356
                    refine lv_bipush (v := (-7)) hx hb dX9_paste_93 (by decide) ?_
                    have hP9 := hP.sub (ws' := [(h0, .inr (7, [.ref tp, .ref sc, .ref rd, .ref cu, .ref im, .ref ig, .ref sl, .ref se, .ref sm, .ref fc])), (sl, .inl (cS, 4, .inr (.inr (.inr (.inr (sf4 s0 s1 s2 s3)))))), (s0, .inr (2, [.int wd0, .int rz0, .ref n0])), (s1, .inr (2, [.int wd1, .int rz1, .ref n1])), (s2, .inr (2, [.int wd2, .int rz2, .ref n2])), (s3, .inr (2, [.int wd3, .int rz3, .ref n3])), (n0, .inl (cJ0, 60, .inr (.inl g0))), (n1, .inl (cJ1, 60, .inr (.inl g1))), (n2, .inl (cJ2, 60, .inr (.inl g2))), (n3, .inl (cJ3, 60, .inr (.inl g3)))]) [0, 1, 2, 3, 4, 5, 6, 7, 8, 9] rfl
                    have hD9 := hD.sub (ws' := [(h0, .inr (7, [.ref tp, .ref sc, .ref rd, .ref cu, .ref im, .ref ig, .ref sl, .ref se, .ref sm, .ref fc])), (sl, .inl (cS, 4, .inr (.inr (.inr (.inr (sf4 s0 s1 s2 s3)))))), (s0, .inr (2, [.int wd0, .int rz0, .ref n0])), (s1, .inr (2, [.int wd1, .int rz1, .ref n1])), (s2, .inr (2, [.int wd2, .int rz2, .ref n2])), (s3, .inr (2, [.int wd3, .int rz3, .ref n3])), (n0, .inl (cJ0, 60, .inr (.inl g0))), (n1, .inl (cJ1, 60, .inr (.inl g1))), (n2, .inl (cJ2, 60, .inr (.inl g2))), (n3, .inl (cJ3, 60, .inr (.inl g3)))]) [0, 1, 2, 3, 4, 5, 6, 7, 8, 9] (by decide) rfl
                    have hK9 := hK.sub (tys' := [(cS, .object RX3), (cJ0, .long), (cJ1, .long), (cJ2, .long), (cJ3, .long)]) [0, 1, 2, 3, 4] rfl
                    exact W.iret (v := (-7)) hx hb hr (fun t ht hW => ⟨⟨(-7), (), rfl, ⟨(rg_w (by decide : (-7 : Int) ≤ ((-7) : Int32).toInt ∧ ((-7) : Int32).toInt ≤ -7) (by decide) (by decide)), (ps_7 (j := 0) (t := 0) (by decide) (by decide) (by decide) (by have q0 := hg9_0; unfold RG at q0; omega) (by have q0 := hg9_0; unfold RG at q0; omega) (by have q0 := hg9_0; unfold RG at q0; omega))⟩, g0, g1, g2, g3, by rw [ht]; exact hP9, va_K.moved hW.alike hK9, hD9⟩, hS.F ht⟩) hS.2.2 dX9_paste_95
              ·
                have n_c_350 : (wd0.toInt : Int) ≠ wd0.toInt := c_ne rfl rfl c_350
                refine lv_bipush (v := (-8)) hx hb dX9_paste_67 (by decide) ?_
                have hP9 := hP.sub (ws' := [(h0, .inr (7, [.ref tp, .ref sc, .ref rd, .ref cu, .ref im, .ref ig, .ref sl, .ref se, .ref sm, .ref fc])), (sl, .inl (cS, 4, .inr (.inr (.inr (.inr (sf4 s0 s1 s2 s3)))))), (s0, .inr (2, [.int wd0, .int rz0, .ref n0])), (s1, .inr (2, [.int wd1, .int rz1, .ref n1])), (s2, .inr (2, [.int wd2, .int rz2, .ref n2])), (s3, .inr (2, [.int wd3, .int rz3, .ref n3])), (n0, .inl (cJ0, 60, .inr (.inl g0))), (n1, .inl (cJ1, 60, .inr (.inl g1))), (n2, .inl (cJ2, 60, .inr (.inl g2))), (n3, .inl (cJ3, 60, .inr (.inl g3)))]) [0, 1, 2, 3, 4, 5, 6, 7, 8, 9] rfl
                have hD9 := hD.sub (ws' := [(h0, .inr (7, [.ref tp, .ref sc, .ref rd, .ref cu, .ref im, .ref ig, .ref sl, .ref se, .ref sm, .ref fc])), (sl, .inl (cS, 4, .inr (.inr (.inr (.inr (sf4 s0 s1 s2 s3)))))), (s0, .inr (2, [.int wd0, .int rz0, .ref n0])), (s1, .inr (2, [.int wd1, .int rz1, .ref n1])), (s2, .inr (2, [.int wd2, .int rz2, .ref n2])), (s3, .inr (2, [.int wd3, .int rz3, .ref n3])), (n0, .inl (cJ0, 60, .inr (.inl g0))), (n1, .inl (cJ1, 60, .inr (.inl g1))), (n2, .inl (cJ2, 60, .inr (.inl g2))), (n3, .inl (cJ3, 60, .inr (.inl g3)))]) [0, 1, 2, 3, 4, 5, 6, 7, 8, 9] (by decide) rfl
                have hK9 := hK.sub (tys' := [(cS, .object RX3), (cJ0, .long), (cJ1, .long), (cJ2, .long), (cJ3, .long)]) [0, 1, 2, 3, 4] rfl
                exact W.iret (v := (-8)) hx hb hr (fun t ht hW => ⟨⟨(-8), (), rfl, ⟨(rg_w (by decide : (-8 : Int) ≤ ((-8) : Int32).toInt ∧ ((-8) : Int32).toInt ≤ -8) (by decide) (by decide)), (ps_8 (j := 0) (t := 0) (by decide) (by decide) (by decide) (by have q0 := hg9_0; unfold RG at q0; omega) (by have q0 := hg9_0; unfold RG at q0; omega))⟩, g0, g1, g2, g3, by rw [ht]; exact hP9, va_K.moved hW.alike hK9, hD9⟩, hS.F ht⟩) hS.2.2 dX9_paste_69
            ·
              have n_c_348 : (r_347.toInt : Int) = 0 := c_eq rfl (by decide) c_348
              have b_r_347 : (0 : Int) ≤ r_347.toInt ∧ r_347.toInt ≤ 0 := r_eq1 b_r_347 (by decide : (0 : Int) ≤ (0 : Int32).toInt ∧ (0 : Int32).toInt ≤ 0) n_c_348 (by decide)
              have g_362 := zz_r_347 c_348
              refine lv_bipush (v := (-6)) hx hb dX9_paste_51 (by decide) ?_
              have hP9 := hP.sub (ws' := [(h0, .inr (7, [.ref tp, .ref sc, .ref rd, .ref cu, .ref im, .ref ig, .ref sl, .ref se, .ref sm, .ref fc])), (sl, .inl (cS, 4, .inr (.inr (.inr (.inr (sf4 s0 s1 s2 s3)))))), (s0, .inr (2, [.int wd0, .int rz0, .ref n0])), (s1, .inr (2, [.int wd1, .int rz1, .ref n1])), (s2, .inr (2, [.int wd2, .int rz2, .ref n2])), (s3, .inr (2, [.int wd3, .int rz3, .ref n3])), (n0, .inl (cJ0, 60, .inr (.inl g0))), (n1, .inl (cJ1, 60, .inr (.inl g1))), (n2, .inl (cJ2, 60, .inr (.inl g2))), (n3, .inl (cJ3, 60, .inr (.inl g3)))]) [0, 1, 2, 3, 4, 5, 6, 7, 8, 9] rfl
              have hD9 := hD.sub (ws' := [(h0, .inr (7, [.ref tp, .ref sc, .ref rd, .ref cu, .ref im, .ref ig, .ref sl, .ref se, .ref sm, .ref fc])), (sl, .inl (cS, 4, .inr (.inr (.inr (.inr (sf4 s0 s1 s2 s3)))))), (s0, .inr (2, [.int wd0, .int rz0, .ref n0])), (s1, .inr (2, [.int wd1, .int rz1, .ref n1])), (s2, .inr (2, [.int wd2, .int rz2, .ref n2])), (s3, .inr (2, [.int wd3, .int rz3, .ref n3])), (n0, .inl (cJ0, 60, .inr (.inl g0))), (n1, .inl (cJ1, 60, .inr (.inl g1))), (n2, .inl (cJ2, 60, .inr (.inl g2))), (n3, .inl (cJ3, 60, .inr (.inl g3)))]) [0, 1, 2, 3, 4, 5, 6, 7, 8, 9] (by decide) rfl
              have hK9 := hK.sub (tys' := [(cS, .object RX3), (cJ0, .long), (cJ1, .long), (cJ2, .long), (cJ3, .long)]) [0, 1, 2, 3, 4] rfl
              exact W.iret (v := (-6)) hx hb hr (fun t ht hW => ⟨⟨(-6), (), rfl, ⟨(rg_w (by decide : (-6 : Int) ≤ ((-6) : Int32).toInt ∧ ((-6) : Int32).toInt ≤ -6) (by decide) (by decide)), (ps_6 (j := 0) (t := 0) (by decide) (by decide) (by decide) (by have q0 := hg9_0; unfold RG at q0; omega))⟩, g0, g1, g2, g3, by rw [ht]; exact hP9, va_K.moved hW.alike hK9, hD9⟩, hS.F ht⟩) hS.2.2 dX9_paste_53
        ·
          obtain rfl : a3 = 1 := Int32.toInt_inj.mp (h_342.trans (by decide))
          refine va_aldq hx hb hK hP 1 0 rfl rfl (vp_in_b (by decide : (1 : Int) ≤ (1 : Int32).toInt ∧ (1 : Int32).toInt ≤ 1) (by decide) (by decide)) dX9_paste_32 ?_
          refine W.eq (g2 := F0 m 33 ls (.ref s1 :: [])) (congrArg (fun v => F0 m 33 ls (va_rf v :: [])) (sf4_1 s0 s1 s2 s3)) ?_
          refine lv_astore (lv' := [(7, .ref s1), (6, .ref s0), (0, .ref h0), (1, .int 0), (2, .int a2), (3, .int 1), (4, .int a4), (5, .int a5)]) hx hb dX9_paste_33 hl (by decide) rfl (fun ls hl => ?_)
          refine lv_aload hx hb dX9_paste_35 (lv_at hl 1 rfl) ?_
          refine vp_callSi (W.runV (As := []) (rest := []) ⟨hx, hb, hml, hown, hts⟩ (kX3_stands2 l dC dI s0 wd0 rz0 n0 b_wd0 b_rz0) (cwV 0 hts gX9_pasteF__X3_stands2_V270 rfl rfl rfl hd_yX3_stands ⟨lel 1 2 rfl, lel 20 88 rfl⟩) ⟨pw_fb, rcv_X3 hK hP (q0 := 2) rfl, (pw_use hP hK hN [2] rfl [] rfl)⟩ rfl rfl hl.1 rfl (lv_room (Nat.le_of_ble_eq_true rfl)) dX9_paste_37 ⟨lel 0 0 rfl, lel 0 0 rfl⟩) (fun r_363 h_r_363 => ?_)
          obtain ⟨b_r_363, nz_r_363, zz_r_363⟩ := h_r_363
          have b_r_363 : (0 : Int) ≤ r_363.toInt ∧ r_363.toInt ≤ 1 := b_r_363
          refine lv_if_eq (tgt := 51) hx hb dX9_paste_40 (by decide) (fun c_364 => ?_) (fun c_364 => ?_)
          ·
            have n_c_364 : (r_363.toInt : Int) = 0 := c_eq rfl (by decide) c_364
            have b_r_363 : (0 : Int) ≤ r_363.toInt ∧ r_363.toInt ≤ 0 := r_eq1 b_r_363 (by decide : (0 : Int) ≤ (0 : Int32).toInt ∧ (0 : Int32).toInt ≤ 0) n_c_364 (by decide)
            have g_365 := zz_r_363 c_364
            refine lv_bipush (v := (-6)) hx hb dX9_paste_51 (by decide) ?_
            have hP9 := hP.sub (ws' := [(h0, .inr (7, [.ref tp, .ref sc, .ref rd, .ref cu, .ref im, .ref ig, .ref sl, .ref se, .ref sm, .ref fc])), (sl, .inl (cS, 4, .inr (.inr (.inr (.inr (sf4 s0 s1 s2 s3)))))), (s0, .inr (2, [.int wd0, .int rz0, .ref n0])), (s1, .inr (2, [.int wd1, .int rz1, .ref n1])), (s2, .inr (2, [.int wd2, .int rz2, .ref n2])), (s3, .inr (2, [.int wd3, .int rz3, .ref n3])), (n0, .inl (cJ0, 60, .inr (.inl g0))), (n1, .inl (cJ1, 60, .inr (.inl g1))), (n2, .inl (cJ2, 60, .inr (.inl g2))), (n3, .inl (cJ3, 60, .inr (.inl g3)))]) [0, 1, 2, 3, 4, 5, 6, 7, 8, 9] rfl
            have hD9 := hD.sub (ws' := [(h0, .inr (7, [.ref tp, .ref sc, .ref rd, .ref cu, .ref im, .ref ig, .ref sl, .ref se, .ref sm, .ref fc])), (sl, .inl (cS, 4, .inr (.inr (.inr (.inr (sf4 s0 s1 s2 s3)))))), (s0, .inr (2, [.int wd0, .int rz0, .ref n0])), (s1, .inr (2, [.int wd1, .int rz1, .ref n1])), (s2, .inr (2, [.int wd2, .int rz2, .ref n2])), (s3, .inr (2, [.int wd3, .int rz3, .ref n3])), (n0, .inl (cJ0, 60, .inr (.inl g0))), (n1, .inl (cJ1, 60, .inr (.inl g1))), (n2, .inl (cJ2, 60, .inr (.inl g2))), (n3, .inl (cJ3, 60, .inr (.inl g3)))]) [0, 1, 2, 3, 4, 5, 6, 7, 8, 9] (by decide) rfl
            have hK9 := hK.sub (tys' := [(cS, .object RX3), (cJ0, .long), (cJ1, .long), (cJ2, .long), (cJ3, .long)]) [0, 1, 2, 3, 4] rfl
            exact W.iret (v := (-6)) hx hb hr (fun t ht hW => ⟨⟨(-6), (), rfl, ⟨(rg_w (by decide : (-6 : Int) ≤ ((-6) : Int32).toInt ∧ ((-6) : Int32).toInt ≤ -6) (by decide) (by decide)), (ps_6 (j := 0) (t := 1) (by decide) (by decide) (by decide) (by have q0 := hg9_0; unfold RG at q0; have q1 := hg9_1; unfold RG at q1; omega))⟩, g0, g1, g2, g3, by rw [ht]; exact hP9, va_K.moved hW.alike hK9, hD9⟩, hS.F ht⟩) hS.2.2 dX9_paste_53
          ·
            have n_c_364 : (r_363.toInt : Int) ≠ 0 := c_ne rfl (by decide) c_364
            have b_r_363 : (1 : Int) ≤ r_363.toInt ∧ r_363.toInt ≤ 1 := r_ne1 b_r_363 (by decide : (0 : Int) ≤ (0 : Int32).toInt ∧ (0 : Int32).toInt ≤ 0) n_c_364 (by decide)
            obtain ⟨b_wd0, g_366⟩ := nz_r_363 c_364
            refine lv_aload hx hb dX9_paste_43 (lv_at hl 0 rfl) ?_
            refine vp_callSi (W.runV (As := []) (rest := []) ⟨hx, hb, hml, hown, hts⟩ (kX3_stands2 l dC dI s1 wd1 rz1 n1 b_wd1 b_rz1) (cwV 0 hts gX9_pasteF__X3_stands2_V270 rfl rfl rfl hd_yX3_stands ⟨lel 1 2 rfl, lel 20 88 rfl⟩) ⟨pw_fb, rcv_X3 hK hP (q0 := 3) rfl, (pw_use hP hK hN [3] rfl [] rfl)⟩ rfl rfl hl.1 rfl (lv_room (Nat.le_of_ble_eq_true rfl)) dX9_paste_45 ⟨lel 0 0 rfl, lel 0 0 rfl⟩) (fun r_367 h_r_367 => ?_)
            obtain ⟨b_r_367, nz_r_367, zz_r_367⟩ := h_r_367
            have b_r_367 : (0 : Int) ≤ r_367.toInt ∧ r_367.toInt ≤ 1 := b_r_367
            refine lv_if_ne (tgt := 54) hx hb dX9_paste_48 (by decide) (fun c_368 => ?_) (fun c_368 => ?_)
            ·
              have n_c_368 : (r_367.toInt : Int) ≠ 0 := c_ne rfl (by decide) c_368
              have b_r_367 : (1 : Int) ≤ r_367.toInt ∧ r_367.toInt ≤ 1 := r_ne1 b_r_367 (by decide : (0 : Int) ≤ (0 : Int32).toInt ∧ (0 : Int32).toInt ≤ 0) n_c_368 (by decide)
              obtain ⟨b_wd1, g_369⟩ := nz_r_367 c_368
              refine lv_aload hx hb dX9_paste_54 (lv_at hl 1 rfl) ?_
              refine va_getN (own := RX9) (index := 350) (ref := RX3) (host := RX9) (D := (dC, dI)) (ci := 2) (v := .int wd0) (C := RX3) (T := TX3) (N := 3) hx hb hts iX9_pasteF_X3 hown hK hP 2 rfl rfl 0 (by decide) (va_Nw.use rfl (hN _ (List.mem_of_getElem? (i := 21) rfl))) (fun _ h9 => h9) rfl dX9_paste_56 ?_
              refine lv_aload hx hb dX9_paste_59 (lv_at hl 0 rfl) ?_
              refine va_getN (own := RX9) (index := 350) (ref := RX3) (host := RX9) (D := (dC, dI)) (ci := 2) (v := .int wd1) (C := RX3) (T := TX3) (N := 3) hx hb hts iX9_pasteF_X3 hown hK hP 3 rfl rfl 0 (by decide) (va_Nw.use rfl (hN _ (List.mem_of_getElem? (i := 21) rfl))) (fun _ h9 => h9) rfl dX9_paste_61 ?_
              refine lv_icmp_eq (tgt := 70) hx hb dX9_paste_64 (by decide) (fun c_370 => ?_) (fun c_370 => ?_)
              ·
                have n_c_370 : (wd0.toInt : Int) = wd1.toInt := c_eq rfl rfl c_370
                refine lv_aload hx hb dX9_paste_70 (lv_at hl 1 rfl) ?_
                refine lv_iload_n hx hb dX9_paste_72 rfl (lv_at hl 4 rfl) ?_
                refine lv_iload hx hb dX9_paste_73 (lv_at hl 7 rfl) ?_
                refine vp_callSi (W.runV (As := [.int a2, .int a5]) (rest := []) ⟨hx, hb, hml, hown, hts⟩ (kX3_hasStretch2 l dC dI s0 wd0 rz0 n0 a2 a5 (rg_w b_wd0 (by decide) (by decide)) b_rz0) (cwV 2 hts gX9_pasteF__X3_hasStretch2_V343 rfl rfl rfl hd_yX3_hasStretch ⟨lel 1 2 rfl, lel 22 88 rfl⟩) ⟨pw_fb, rcv_X3 hK hP (q0 := 2) rfl, (pw_use hP hK hN [2] rfl [] rfl)⟩ rfl rfl hl.1 rfl (lv_room (Nat.le_of_ble_eq_true rfl)) dX9_paste_75 ⟨lel 0 0 rfl, lel 0 0 rfl⟩) (fun r_371 h_r_371 => ?_)
                obtain ⟨b_r_371, nz_r_371, zz_r_371⟩ := h_r_371
                have b_r_371 : (0 : Int) ≤ r_371.toInt ∧ r_371.toInt ≤ 1 := b_r_371
                refine lv_if_eq (tgt := 93) hx hb dX9_paste_78 (by decide) (fun c_372 => ?_) (fun c_372 => ?_)
                ·
                  have n_c_372 : (r_371.toInt : Int) = 0 := c_eq rfl (by decide) c_372
                  have b_r_371 : (0 : Int) ≤ r_371.toInt ∧ r_371.toInt ≤ 0 := r_eq1 b_r_371 (by decide : (0 : Int) ≤ (0 : Int32).toInt ∧ (0 : Int32).toInt ≤ 0) n_c_372 (by decide)
                  have g_373 := zz_r_371 c_372
                  refine lv_bipush (v := (-7)) hx hb dX9_paste_93 (by decide) ?_
                  have hP9 := hP.sub (ws' := [(h0, .inr (7, [.ref tp, .ref sc, .ref rd, .ref cu, .ref im, .ref ig, .ref sl, .ref se, .ref sm, .ref fc])), (sl, .inl (cS, 4, .inr (.inr (.inr (.inr (sf4 s0 s1 s2 s3)))))), (s0, .inr (2, [.int wd0, .int rz0, .ref n0])), (s1, .inr (2, [.int wd1, .int rz1, .ref n1])), (s2, .inr (2, [.int wd2, .int rz2, .ref n2])), (s3, .inr (2, [.int wd3, .int rz3, .ref n3])), (n0, .inl (cJ0, 60, .inr (.inl g0))), (n1, .inl (cJ1, 60, .inr (.inl g1))), (n2, .inl (cJ2, 60, .inr (.inl g2))), (n3, .inl (cJ3, 60, .inr (.inl g3)))]) [0, 1, 2, 3, 4, 5, 6, 7, 8, 9] rfl
                  have hD9 := hD.sub (ws' := [(h0, .inr (7, [.ref tp, .ref sc, .ref rd, .ref cu, .ref im, .ref ig, .ref sl, .ref se, .ref sm, .ref fc])), (sl, .inl (cS, 4, .inr (.inr (.inr (.inr (sf4 s0 s1 s2 s3)))))), (s0, .inr (2, [.int wd0, .int rz0, .ref n0])), (s1, .inr (2, [.int wd1, .int rz1, .ref n1])), (s2, .inr (2, [.int wd2, .int rz2, .ref n2])), (s3, .inr (2, [.int wd3, .int rz3, .ref n3])), (n0, .inl (cJ0, 60, .inr (.inl g0))), (n1, .inl (cJ1, 60, .inr (.inl g1))), (n2, .inl (cJ2, 60, .inr (.inl g2))), (n3, .inl (cJ3, 60, .inr (.inl g3)))]) [0, 1, 2, 3, 4, 5, 6, 7, 8, 9] (by decide) rfl
                  have hK9 := hK.sub (tys' := [(cS, .object RX3), (cJ0, .long), (cJ1, .long), (cJ2, .long), (cJ3, .long)]) [0, 1, 2, 3, 4] rfl
                  exact W.iret (v := (-7)) hx hb hr (fun t ht hW => ⟨⟨(-7), (), rfl, ⟨(rg_w (by decide : (-7 : Int) ≤ ((-7) : Int32).toInt ∧ ((-7) : Int32).toInt ≤ -7) (by decide) (by decide)), (ps_7 (j := 0) (t := 1) (by decide) (by decide) (by decide) (by have q0 := hg9_0; unfold RG at q0; have q1 := hg9_1; unfold RG at q1; omega) (by have q0 := hg9_0; unfold RG at q0; have q1 := hg9_1; unfold RG at q1; omega) (by have q0 := hg9_0; unfold RG at q0; have q1 := hg9_1; unfold RG at q1; omega))⟩, g0, g1, g2, g3, by rw [ht]; exact hP9, va_K.moved hW.alike hK9, hD9⟩, hS.F ht⟩) hS.2.2 dX9_paste_95
                ·
                  have n_c_372 : (r_371.toInt : Int) ≠ 0 := c_ne rfl (by decide) c_372
                  have b_r_371 : (1 : Int) ≤ r_371.toInt ∧ r_371.toInt ≤ 1 := r_ne1 b_r_371 (by decide : (0 : Int) ≤ (0 : Int32).toInt ∧ (0 : Int32).toInt ≤ 0) n_c_372 (by decide)
                  obtain ⟨b_a2, b_a5, g_374⟩ := nz_r_371 c_372
                  refine lv_aload hx hb dX9_paste_81 (lv_at hl 0 rfl) ?_
                  refine lv_iload hx hb dX9_paste_83 (lv_at hl 6 rfl) ?_
                  refine lv_iload hx hb dX9_paste_85 (lv_at hl 7 rfl) ?_
                  refine vp_callSi (W.runV (As := [.int a4, .int a5]) (rest := []) ⟨hx, hb, hml, hown, hts⟩ (kX3_hasStretch2 l dC dI s1 wd1 rz1 n1 a4 a5 (rg_w b_wd1 (by decide) (by decide)) b_rz1) (cwV 2 hts gX9_pasteF__X3_hasStretch2_V343 rfl rfl rfl hd_yX3_hasStretch ⟨lel 1 2 rfl, lel 22 88 rfl⟩) ⟨pw_fb, rcv_X3 hK hP (q0 := 3) rfl, (pw_use hP hK hN [3] rfl [] rfl)⟩ rfl rfl hl.1 rfl (lv_room (Nat.le_of_ble_eq_true rfl)) dX9_paste_87 ⟨lel 0 0 rfl, lel 0 0 rfl⟩) (fun r_375 h_r_375 => ?_)
                  obtain ⟨b_r_375, nz_r_375, zz_r_375⟩ := h_r_375
                  have b_r_375 : (0 : Int) ≤ r_375.toInt ∧ r_375.toInt ≤ 1 := b_r_375
                  refine lv_if_ne (tgt := 96) hx hb dX9_paste_90 (by decide) (fun c_376 => ?_) (fun c_376 => ?_)
                  ·
                    have n_c_376 : (r_375.toInt : Int) ≠ 0 := c_ne rfl (by decide) c_376
                    have b_r_375 : (1 : Int) ≤ r_375.toInt ∧ r_375.toInt ≤ 1 := r_ne1 b_r_375 (by decide : (0 : Int) ≤ (0 : Int32).toInt ∧ (0 : Int32).toInt ≤ 0) n_c_376 (by decide)
                    obtain ⟨b_a4, b_a5, g_377⟩ := nz_r_375 c_376
                    refine lv_aload hx hb dX9_paste_96 (lv_at hl 0 rfl) ?_
                    refine lv_iload hx hb dX9_paste_98 (lv_at hl 6 rfl) ?_
                    refine lv_aload hx hb dX9_paste_100 (lv_at hl 1 rfl) ?_
                    refine lv_iload_n hx hb dX9_paste_102 rfl (lv_at hl 4 rfl) ?_
                    refine lv_iload hx hb dX9_paste_103 (lv_at hl 7 rfl) ?_
                    have hFc := va_free (wc := [(s1, .inr (2, [.int wd1, .int rz1, .ref n1])), (n1, .inl (cJ1, 60, .inr (.inl g1))), (s0, .inr (2, [.int wd0, .int rz0, .ref n0])), (n0, .inl (cJ0, 60, .inr (.inl g0)))]) hD hS hA [3, 7, 2, 6] rfl
                    refine va_callv (va_runV (As := [.int a4, .ref s0, .int a2, .int a5]) (rest := []) ⟨hx, hb, hml, hown, hts⟩ (kX3_take l dC dI s1 wd1 rz1 n1 cJ1 g1 s0 wd0 rz0 n0 cJ0 g0 a4 a2 a5 (s.heap.size) (rg_w b_wd1 (by decide) (by decide)) b_rz1 (rg_w b_wd0 (by decide) (by decide)) b_rz0) (cwV 4 hts gX9_pasteF__X3_take_V353 rfl rfl rfl hd_yX3_take ⟨lel 2 2 rfl, lel 88 88 rfl⟩) ⟨hw_fb, rcv_X3 hK hP (q0 := 3) rfl, (hw_use hP hD hK hN [3, 7, 2, 6] rfl (by decide) rfl [2, 1] rfl)⟩ rfl rfl hl.1 rfl (lv_room (Nat.le_of_ble_eq_true rfl)) dX9_paste_105 ⟨lel 0 0 rfl, lel 0 0 rfl⟩) hS (fun q _ h => hFc q h) hFc (fun u_379 t H1 locs ht hvm hw_r_378 hB hz1 hk1 hS => ?_)
                    obtain ⟨o0_380, hP1, hK1, hD1⟩ := hB
                    rw [ht] at hP1
                    have hK1 := va_K.moved hvm.symm hK1
                    obtain ⟨hP, hD⟩ := va_join (wr := [(h0, .inr (7, [.ref tp, .ref sc, .ref rd, .ref cu, .ref im, .ref ig, .ref sl, .ref se, .ref sm, .ref fc])), (sl, .inl (cS, 4, .inr (.inr (.inr (.inr (sf4 s0 s1 s2 s3)))))), (s2, .inr (2, [.int wd2, .int rz2, .ref n2])), (s3, .inr (2, [.int wd3, .int rz3, .ref n3])), (n2, .inl (cJ2, 60, .inr (.inl g2))), (n3, .inl (cJ3, 60, .inr (.inl g3)))]) (w1 := [(s1, .inr (2, [.int wd1, .int rz1, .ref n1])), (n1, .inl (cJ1, 60, .inr (.inl o0_380))), (s0, .inr (2, [.int wd0, .int rz0, .ref n0])), (n0, .inl (cJ0, 60, .inr (.inl g0)))]) hP hD [3, 7, 2, 6] [0, 1, 4, 5, 8, 9] rfl rfl (by decide) (by decide) hk1 hFc hP1 hD1
                    have hK := (hK.sub (tys' := [(cS, .object RX3), (cJ2, .long), (cJ3, .long)]) [0, 3, 4] rfl).app hK1
                    generalize H1 = H at hP hS ⊢
                    have hP := hP.sub (ws' := [(h0, .inr (7, [.ref tp, .ref sc, .ref rd, .ref cu, .ref im, .ref ig, .ref sl, .ref se, .ref sm, .ref fc])), (sl, .inl (cS, 4, .inr (.inr (.inr (.inr (sf4 s0 s1 s2 s3)))))), (s0, .inr (2, [.int wd0, .int rz0, .ref n0])), (s1, .inr (2, [.int wd1, .int rz1, .ref n1])), (s2, .inr (2, [.int wd2, .int rz2, .ref n2])), (s3, .inr (2, [.int wd3, .int rz3, .ref n3])), (n0, .inl (cJ0, 60, .inr (.inl g0))), (n1, .inl (cJ1, 60, .inr (.inl o0_380))), (n2, .inl (cJ2, 60, .inr (.inl g2))), (n3, .inl (cJ3, 60, .inr (.inl g3)))]) [0, 1, 8, 6, 2, 3, 9, 7, 4, 5] rfl
                    have hD := hD.sub (ws' := [(h0, .inr (7, [.ref tp, .ref sc, .ref rd, .ref cu, .ref im, .ref ig, .ref sl, .ref se, .ref sm, .ref fc])), (sl, .inl (cS, 4, .inr (.inr (.inr (.inr (sf4 s0 s1 s2 s3)))))), (s0, .inr (2, [.int wd0, .int rz0, .ref n0])), (s1, .inr (2, [.int wd1, .int rz1, .ref n1])), (s2, .inr (2, [.int wd2, .int rz2, .ref n2])), (s3, .inr (2, [.int wd3, .int rz3, .ref n3])), (n0, .inl (cJ0, 60, .inr (.inl g0))), (n1, .inl (cJ1, 60, .inr (.inl o0_380))), (n2, .inl (cJ2, 60, .inr (.inl g2))), (n3, .inl (cJ3, 60, .inr (.inl g3)))]) [0, 1, 8, 6, 2, 3, 9, 7, 4, 5] (by decide) rfl
                    have hK := hK.sub (tys' := [(cS, .object RX3), (cJ0, .long), (cJ1, .long), (cJ2, .long), (cJ3, .long)]) [0, 4, 3, 1, 2] rfl
                    have hP : va_P (dC, dI) vwCl [(h0, .inr (7, [.ref tp, .ref sc, .ref rd, .ref cu, .ref im, .ref ig, .ref sl, .ref se, .ref sm, .ref fc])), (sl, .inl (cS, 4, .inr (.inr (.inr (.inr (sf4 s0 s1 s2 s3)))))), (s0, .inr (2, [.int wd0, .int rz0, .ref n0])), (s1, .inr (2, [.int wd1, .int rz1, .ref n1])), (s2, .inr (2, [.int wd2, .int rz2, .ref n2])), (s3, .inr (2, [.int wd3, .int rz3, .ref n3])), (n0, .inl (cJ0, 60, .inr (.inl g0))), (n1, .inl (cJ1, 60, .inr (.inl o0_380))), (n2, .inl (cJ2, 60, .inr (.inl g2))), (n3, .inl (cJ3, 60, .inr (.inl g3)))] H := hP
                    have hD : va_D A [(h0, .inr (7, [.ref tp, .ref sc, .ref rd, .ref cu, .ref im, .ref ig, .ref sl, .ref se, .ref sm, .ref fc])), (sl, .inl (cS, 4, .inr (.inr (.inr (.inr (sf4 s0 s1 s2 s3)))))), (s0, .inr (2, [.int wd0, .int rz0, .ref n0])), (s1, .inr (2, [.int wd1, .int rz1, .ref n1])), (s2, .inr (2, [.int wd2, .int rz2, .ref n2])), (s3, .inr (2, [.int wd3, .int rz3, .ref n3])), (n0, .inl (cJ0, 60, .inr (.inl g0))), (n1, .inl (cJ1, 60, .inr (.inl o0_380))), (n2, .inl (cJ2, 60, .inr (.inl g2))), (n3, .inl (cJ3, 60, .inr (.inl g3)))] := hD
                    have hK : va_K (dC, dI) vwCl [(cS, .object RX3), (cJ0, .long), (cJ1, .long), (cJ2, .long), (cJ3, .long)] s := hK
                    refine lv_iconst (v := 0) hx hb dX9_paste_108 (by decide) ?_
                    have hP9 := hP.sub (ws' := [(h0, .inr (7, [.ref tp, .ref sc, .ref rd, .ref cu, .ref im, .ref ig, .ref sl, .ref se, .ref sm, .ref fc])), (sl, .inl (cS, 4, .inr (.inr (.inr (.inr (sf4 s0 s1 s2 s3)))))), (s0, .inr (2, [.int wd0, .int rz0, .ref n0])), (s1, .inr (2, [.int wd1, .int rz1, .ref n1])), (s2, .inr (2, [.int wd2, .int rz2, .ref n2])), (s3, .inr (2, [.int wd3, .int rz3, .ref n3])), (n0, .inl (cJ0, 60, .inr (.inl g0))), (n1, .inl (cJ1, 60, .inr (.inl o0_380))), (n2, .inl (cJ2, 60, .inr (.inl g2))), (n3, .inl (cJ3, 60, .inr (.inl g3)))]) [0, 1, 2, 3, 4, 5, 6, 7, 8, 9] rfl
                    have hD9 := hD.sub (ws' := [(h0, .inr (7, [.ref tp, .ref sc, .ref rd, .ref cu, .ref im, .ref ig, .ref sl, .ref se, .ref sm, .ref fc])), (sl, .inl (cS, 4, .inr (.inr (.inr (.inr (sf4 s0 s1 s2 s3)))))), (s0, .inr (2, [.int wd0, .int rz0, .ref n0])), (s1, .inr (2, [.int wd1, .int rz1, .ref n1])), (s2, .inr (2, [.int wd2, .int rz2, .ref n2])), (s3, .inr (2, [.int wd3, .int rz3, .ref n3])), (n0, .inl (cJ0, 60, .inr (.inl g0))), (n1, .inl (cJ1, 60, .inr (.inl o0_380))), (n2, .inl (cJ2, 60, .inr (.inl g2))), (n3, .inl (cJ3, 60, .inr (.inl g3)))]) [0, 1, 2, 3, 4, 5, 6, 7, 8, 9] (by decide) rfl
                    have hK9 := hK.sub (tys' := [(cS, .object RX3), (cJ0, .long), (cJ1, .long), (cJ2, .long), (cJ3, .long)]) [0, 1, 2, 3, 4] rfl
                    exact W.iret (v := 0) hx hb hr (fun t ht hW => ⟨⟨0, (), rfl, ⟨(rg_w (by decide : (0 : Int) ≤ (0 : Int32).toInt ∧ (0 : Int32).toInt ≤ 0) (by decide) (by decide)), (ps_0 (j := 0) (t := 1) (by decide) (by decide) (by decide) (by have q0 := hg9_0; unfold RG at q0; have q1 := hg9_1; unfold RG at q1; omega) (by have q0 := hg9_0; unfold RG at q0; have q1 := hg9_1; unfold RG at q1; omega) (by have q0 := hg9_0; unfold RG at q0; have q1 := hg9_1; unfold RG at q1; omega))⟩, g0, o0_380, g2, g3, by rw [ht]; exact hP9, va_K.moved hW.alike hK9, hD9⟩, hS.F ht⟩) hS.2.2 dX9_paste_109
                  ·
                    have n_c_376 : (r_375.toInt : Int) = 0 := c_eq rfl (by decide) c_376
                    have b_r_375 : (0 : Int) ≤ r_375.toInt ∧ r_375.toInt ≤ 0 := r_eq1 b_r_375 (by decide : (0 : Int) ≤ (0 : Int32).toInt ∧ (0 : Int32).toInt ≤ 0) n_c_376 (by decide)
                    have g_381 := zz_r_375 c_376
                    refine lv_bipush (v := (-7)) hx hb dX9_paste_93 (by decide) ?_
                    have hP9 := hP.sub (ws' := [(h0, .inr (7, [.ref tp, .ref sc, .ref rd, .ref cu, .ref im, .ref ig, .ref sl, .ref se, .ref sm, .ref fc])), (sl, .inl (cS, 4, .inr (.inr (.inr (.inr (sf4 s0 s1 s2 s3)))))), (s0, .inr (2, [.int wd0, .int rz0, .ref n0])), (s1, .inr (2, [.int wd1, .int rz1, .ref n1])), (s2, .inr (2, [.int wd2, .int rz2, .ref n2])), (s3, .inr (2, [.int wd3, .int rz3, .ref n3])), (n0, .inl (cJ0, 60, .inr (.inl g0))), (n1, .inl (cJ1, 60, .inr (.inl g1))), (n2, .inl (cJ2, 60, .inr (.inl g2))), (n3, .inl (cJ3, 60, .inr (.inl g3)))]) [0, 1, 2, 3, 4, 5, 6, 7, 8, 9] rfl
                    have hD9 := hD.sub (ws' := [(h0, .inr (7, [.ref tp, .ref sc, .ref rd, .ref cu, .ref im, .ref ig, .ref sl, .ref se, .ref sm, .ref fc])), (sl, .inl (cS, 4, .inr (.inr (.inr (.inr (sf4 s0 s1 s2 s3)))))), (s0, .inr (2, [.int wd0, .int rz0, .ref n0])), (s1, .inr (2, [.int wd1, .int rz1, .ref n1])), (s2, .inr (2, [.int wd2, .int rz2, .ref n2])), (s3, .inr (2, [.int wd3, .int rz3, .ref n3])), (n0, .inl (cJ0, 60, .inr (.inl g0))), (n1, .inl (cJ1, 60, .inr (.inl g1))), (n2, .inl (cJ2, 60, .inr (.inl g2))), (n3, .inl (cJ3, 60, .inr (.inl g3)))]) [0, 1, 2, 3, 4, 5, 6, 7, 8, 9] (by decide) rfl
                    have hK9 := hK.sub (tys' := [(cS, .object RX3), (cJ0, .long), (cJ1, .long), (cJ2, .long), (cJ3, .long)]) [0, 1, 2, 3, 4] rfl
                    exact W.iret (v := (-7)) hx hb hr (fun t ht hW => ⟨⟨(-7), (), rfl, ⟨(rg_w (by decide : (-7 : Int) ≤ ((-7) : Int32).toInt ∧ ((-7) : Int32).toInt ≤ -7) (by decide) (by decide)), (ps_7 (j := 0) (t := 1) (by decide) (by decide) (by decide) (by have q0 := hg9_0; unfold RG at q0; have q1 := hg9_1; unfold RG at q1; omega) (by have q0 := hg9_0; unfold RG at q0; have q1 := hg9_1; unfold RG at q1; omega) (by have q0 := hg9_0; unfold RG at q0; have q1 := hg9_1; unfold RG at q1; omega))⟩, g0, g1, g2, g3, by rw [ht]; exact hP9, va_K.moved hW.alike hK9, hD9⟩, hS.F ht⟩) hS.2.2 dX9_paste_95
              ·
                have n_c_370 : (wd0.toInt : Int) ≠ wd1.toInt := c_ne rfl rfl c_370
                refine lv_bipush (v := (-8)) hx hb dX9_paste_67 (by decide) ?_
                have hP9 := hP.sub (ws' := [(h0, .inr (7, [.ref tp, .ref sc, .ref rd, .ref cu, .ref im, .ref ig, .ref sl, .ref se, .ref sm, .ref fc])), (sl, .inl (cS, 4, .inr (.inr (.inr (.inr (sf4 s0 s1 s2 s3)))))), (s0, .inr (2, [.int wd0, .int rz0, .ref n0])), (s1, .inr (2, [.int wd1, .int rz1, .ref n1])), (s2, .inr (2, [.int wd2, .int rz2, .ref n2])), (s3, .inr (2, [.int wd3, .int rz3, .ref n3])), (n0, .inl (cJ0, 60, .inr (.inl g0))), (n1, .inl (cJ1, 60, .inr (.inl g1))), (n2, .inl (cJ2, 60, .inr (.inl g2))), (n3, .inl (cJ3, 60, .inr (.inl g3)))]) [0, 1, 2, 3, 4, 5, 6, 7, 8, 9] rfl
                have hD9 := hD.sub (ws' := [(h0, .inr (7, [.ref tp, .ref sc, .ref rd, .ref cu, .ref im, .ref ig, .ref sl, .ref se, .ref sm, .ref fc])), (sl, .inl (cS, 4, .inr (.inr (.inr (.inr (sf4 s0 s1 s2 s3)))))), (s0, .inr (2, [.int wd0, .int rz0, .ref n0])), (s1, .inr (2, [.int wd1, .int rz1, .ref n1])), (s2, .inr (2, [.int wd2, .int rz2, .ref n2])), (s3, .inr (2, [.int wd3, .int rz3, .ref n3])), (n0, .inl (cJ0, 60, .inr (.inl g0))), (n1, .inl (cJ1, 60, .inr (.inl g1))), (n2, .inl (cJ2, 60, .inr (.inl g2))), (n3, .inl (cJ3, 60, .inr (.inl g3)))]) [0, 1, 2, 3, 4, 5, 6, 7, 8, 9] (by decide) rfl
                have hK9 := hK.sub (tys' := [(cS, .object RX3), (cJ0, .long), (cJ1, .long), (cJ2, .long), (cJ3, .long)]) [0, 1, 2, 3, 4] rfl
                exact W.iret (v := (-8)) hx hb hr (fun t ht hW => ⟨⟨(-8), (), rfl, ⟨(rg_w (by decide : (-8 : Int) ≤ ((-8) : Int32).toInt ∧ ((-8) : Int32).toInt ≤ -8) (by decide) (by decide)), (ps_8 (j := 0) (t := 1) (by decide) (by decide) (by decide) (by have q0 := hg9_0; unfold RG at q0; have q1 := hg9_1; unfold RG at q1; omega) (by have q0 := hg9_0; unfold RG at q0; have q1 := hg9_1; unfold RG at q1; omega))⟩, g0, g1, g2, g3, by rw [ht]; exact hP9, va_K.moved hW.alike hK9, hD9⟩, hS.F ht⟩) hS.2.2 dX9_paste_69
            ·
              have n_c_368 : (r_367.toInt : Int) = 0 := c_eq rfl (by decide) c_368
              have b_r_367 : (0 : Int) ≤ r_367.toInt ∧ r_367.toInt ≤ 0 := r_eq1 b_r_367 (by decide : (0 : Int) ≤ (0 : Int32).toInt ∧ (0 : Int32).toInt ≤ 0) n_c_368 (by decide)
              have g_382 := zz_r_367 c_368
              refine lv_bipush (v := (-6)) hx hb dX9_paste_51 (by decide) ?_
              have hP9 := hP.sub (ws' := [(h0, .inr (7, [.ref tp, .ref sc, .ref rd, .ref cu, .ref im, .ref ig, .ref sl, .ref se, .ref sm, .ref fc])), (sl, .inl (cS, 4, .inr (.inr (.inr (.inr (sf4 s0 s1 s2 s3)))))), (s0, .inr (2, [.int wd0, .int rz0, .ref n0])), (s1, .inr (2, [.int wd1, .int rz1, .ref n1])), (s2, .inr (2, [.int wd2, .int rz2, .ref n2])), (s3, .inr (2, [.int wd3, .int rz3, .ref n3])), (n0, .inl (cJ0, 60, .inr (.inl g0))), (n1, .inl (cJ1, 60, .inr (.inl g1))), (n2, .inl (cJ2, 60, .inr (.inl g2))), (n3, .inl (cJ3, 60, .inr (.inl g3)))]) [0, 1, 2, 3, 4, 5, 6, 7, 8, 9] rfl
              have hD9 := hD.sub (ws' := [(h0, .inr (7, [.ref tp, .ref sc, .ref rd, .ref cu, .ref im, .ref ig, .ref sl, .ref se, .ref sm, .ref fc])), (sl, .inl (cS, 4, .inr (.inr (.inr (.inr (sf4 s0 s1 s2 s3)))))), (s0, .inr (2, [.int wd0, .int rz0, .ref n0])), (s1, .inr (2, [.int wd1, .int rz1, .ref n1])), (s2, .inr (2, [.int wd2, .int rz2, .ref n2])), (s3, .inr (2, [.int wd3, .int rz3, .ref n3])), (n0, .inl (cJ0, 60, .inr (.inl g0))), (n1, .inl (cJ1, 60, .inr (.inl g1))), (n2, .inl (cJ2, 60, .inr (.inl g2))), (n3, .inl (cJ3, 60, .inr (.inl g3)))]) [0, 1, 2, 3, 4, 5, 6, 7, 8, 9] (by decide) rfl
              have hK9 := hK.sub (tys' := [(cS, .object RX3), (cJ0, .long), (cJ1, .long), (cJ2, .long), (cJ3, .long)]) [0, 1, 2, 3, 4] rfl
              exact W.iret (v := (-6)) hx hb hr (fun t ht hW => ⟨⟨(-6), (), rfl, ⟨(rg_w (by decide : (-6 : Int) ≤ ((-6) : Int32).toInt ∧ ((-6) : Int32).toInt ≤ -6) (by decide) (by decide)), (ps_6 (j := 0) (t := 1) (by decide) (by decide) (by decide) (by have q0 := hg9_0; unfold RG at q0; have q1 := hg9_1; unfold RG at q1; omega))⟩, g0, g1, g2, g3, by rw [ht]; exact hP9, va_K.moved hW.alike hK9, hD9⟩, hS.F ht⟩) hS.2.2 dX9_paste_53
        ·
          obtain rfl : a3 = 2 := Int32.toInt_inj.mp (h_342.trans (by decide))
          refine va_aldq hx hb hK hP 1 0 rfl rfl (vp_in_b (by decide : (2 : Int) ≤ (2 : Int32).toInt ∧ (2 : Int32).toInt ≤ 2) (by decide) (by decide)) dX9_paste_32 ?_
          refine W.eq (g2 := F0 m 33 ls (.ref s2 :: [])) (congrArg (fun v => F0 m 33 ls (va_rf v :: [])) (sf4_2 s0 s1 s2 s3)) ?_
          refine lv_astore (lv' := [(7, .ref s2), (6, .ref s0), (0, .ref h0), (1, .int 0), (2, .int a2), (3, .int 2), (4, .int a4), (5, .int a5)]) hx hb dX9_paste_33 hl (by decide) rfl (fun ls hl => ?_)
          refine lv_aload hx hb dX9_paste_35 (lv_at hl 1 rfl) ?_
          refine vp_callSi (W.runV (As := []) (rest := []) ⟨hx, hb, hml, hown, hts⟩ (kX3_stands2 l dC dI s0 wd0 rz0 n0 b_wd0 b_rz0) (cwV 0 hts gX9_pasteF__X3_stands2_V270 rfl rfl rfl hd_yX3_stands ⟨lel 1 2 rfl, lel 20 88 rfl⟩) ⟨pw_fb, rcv_X3 hK hP (q0 := 2) rfl, (pw_use hP hK hN [2] rfl [] rfl)⟩ rfl rfl hl.1 rfl (lv_room (Nat.le_of_ble_eq_true rfl)) dX9_paste_37 ⟨lel 0 0 rfl, lel 0 0 rfl⟩) (fun r_383 h_r_383 => ?_)
          obtain ⟨b_r_383, nz_r_383, zz_r_383⟩ := h_r_383
          have b_r_383 : (0 : Int) ≤ r_383.toInt ∧ r_383.toInt ≤ 1 := b_r_383
          refine lv_if_eq (tgt := 51) hx hb dX9_paste_40 (by decide) (fun c_384 => ?_) (fun c_384 => ?_)
          ·
            have n_c_384 : (r_383.toInt : Int) = 0 := c_eq rfl (by decide) c_384
            have b_r_383 : (0 : Int) ≤ r_383.toInt ∧ r_383.toInt ≤ 0 := r_eq1 b_r_383 (by decide : (0 : Int) ≤ (0 : Int32).toInt ∧ (0 : Int32).toInt ≤ 0) n_c_384 (by decide)
            have g_385 := zz_r_383 c_384
            refine lv_bipush (v := (-6)) hx hb dX9_paste_51 (by decide) ?_
            have hP9 := hP.sub (ws' := [(h0, .inr (7, [.ref tp, .ref sc, .ref rd, .ref cu, .ref im, .ref ig, .ref sl, .ref se, .ref sm, .ref fc])), (sl, .inl (cS, 4, .inr (.inr (.inr (.inr (sf4 s0 s1 s2 s3)))))), (s0, .inr (2, [.int wd0, .int rz0, .ref n0])), (s1, .inr (2, [.int wd1, .int rz1, .ref n1])), (s2, .inr (2, [.int wd2, .int rz2, .ref n2])), (s3, .inr (2, [.int wd3, .int rz3, .ref n3])), (n0, .inl (cJ0, 60, .inr (.inl g0))), (n1, .inl (cJ1, 60, .inr (.inl g1))), (n2, .inl (cJ2, 60, .inr (.inl g2))), (n3, .inl (cJ3, 60, .inr (.inl g3)))]) [0, 1, 2, 3, 4, 5, 6, 7, 8, 9] rfl
            have hD9 := hD.sub (ws' := [(h0, .inr (7, [.ref tp, .ref sc, .ref rd, .ref cu, .ref im, .ref ig, .ref sl, .ref se, .ref sm, .ref fc])), (sl, .inl (cS, 4, .inr (.inr (.inr (.inr (sf4 s0 s1 s2 s3)))))), (s0, .inr (2, [.int wd0, .int rz0, .ref n0])), (s1, .inr (2, [.int wd1, .int rz1, .ref n1])), (s2, .inr (2, [.int wd2, .int rz2, .ref n2])), (s3, .inr (2, [.int wd3, .int rz3, .ref n3])), (n0, .inl (cJ0, 60, .inr (.inl g0))), (n1, .inl (cJ1, 60, .inr (.inl g1))), (n2, .inl (cJ2, 60, .inr (.inl g2))), (n3, .inl (cJ3, 60, .inr (.inl g3)))]) [0, 1, 2, 3, 4, 5, 6, 7, 8, 9] (by decide) rfl
            have hK9 := hK.sub (tys' := [(cS, .object RX3), (cJ0, .long), (cJ1, .long), (cJ2, .long), (cJ3, .long)]) [0, 1, 2, 3, 4] rfl
            exact W.iret (v := (-6)) hx hb hr (fun t ht hW => ⟨⟨(-6), (), rfl, ⟨(rg_w (by decide : (-6 : Int) ≤ ((-6) : Int32).toInt ∧ ((-6) : Int32).toInt ≤ -6) (by decide) (by decide)), (ps_6 (j := 0) (t := 2) (by decide) (by decide) (by decide) (by have q0 := hg9_0; unfold RG at q0; have q2 := hg9_2; unfold RG at q2; omega))⟩, g0, g1, g2, g3, by rw [ht]; exact hP9, va_K.moved hW.alike hK9, hD9⟩, hS.F ht⟩) hS.2.2 dX9_paste_53
          ·
            have n_c_384 : (r_383.toInt : Int) ≠ 0 := c_ne rfl (by decide) c_384
            have b_r_383 : (1 : Int) ≤ r_383.toInt ∧ r_383.toInt ≤ 1 := r_ne1 b_r_383 (by decide : (0 : Int) ≤ (0 : Int32).toInt ∧ (0 : Int32).toInt ≤ 0) n_c_384 (by decide)
            obtain ⟨b_wd0, g_386⟩ := nz_r_383 c_384
            refine lv_aload hx hb dX9_paste_43 (lv_at hl 0 rfl) ?_
            refine vp_callSi (W.runV (As := []) (rest := []) ⟨hx, hb, hml, hown, hts⟩ (kX3_stands2 l dC dI s2 wd2 rz2 n2 b_wd2 b_rz2) (cwV 0 hts gX9_pasteF__X3_stands2_V270 rfl rfl rfl hd_yX3_stands ⟨lel 1 2 rfl, lel 20 88 rfl⟩) ⟨pw_fb, rcv_X3 hK hP (q0 := 4) rfl, (pw_use hP hK hN [4] rfl [] rfl)⟩ rfl rfl hl.1 rfl (lv_room (Nat.le_of_ble_eq_true rfl)) dX9_paste_45 ⟨lel 0 0 rfl, lel 0 0 rfl⟩) (fun r_387 h_r_387 => ?_)
            obtain ⟨b_r_387, nz_r_387, zz_r_387⟩ := h_r_387
            have b_r_387 : (0 : Int) ≤ r_387.toInt ∧ r_387.toInt ≤ 1 := b_r_387
            refine lv_if_ne (tgt := 54) hx hb dX9_paste_48 (by decide) (fun c_388 => ?_) (fun c_388 => ?_)
            ·
              have n_c_388 : (r_387.toInt : Int) ≠ 0 := c_ne rfl (by decide) c_388
              have b_r_387 : (1 : Int) ≤ r_387.toInt ∧ r_387.toInt ≤ 1 := r_ne1 b_r_387 (by decide : (0 : Int) ≤ (0 : Int32).toInt ∧ (0 : Int32).toInt ≤ 0) n_c_388 (by decide)
              obtain ⟨b_wd2, g_389⟩ := nz_r_387 c_388
              refine lv_aload hx hb dX9_paste_54 (lv_at hl 1 rfl) ?_
              refine va_getN (own := RX9) (index := 350) (ref := RX3) (host := RX9) (D := (dC, dI)) (ci := 2) (v := .int wd0) (C := RX3) (T := TX3) (N := 3) hx hb hts iX9_pasteF_X3 hown hK hP 2 rfl rfl 0 (by decide) (va_Nw.use rfl (hN _ (List.mem_of_getElem? (i := 21) rfl))) (fun _ h9 => h9) rfl dX9_paste_56 ?_
              refine lv_aload hx hb dX9_paste_59 (lv_at hl 0 rfl) ?_
              refine va_getN (own := RX9) (index := 350) (ref := RX3) (host := RX9) (D := (dC, dI)) (ci := 2) (v := .int wd2) (C := RX3) (T := TX3) (N := 3) hx hb hts iX9_pasteF_X3 hown hK hP 4 rfl rfl 0 (by decide) (va_Nw.use rfl (hN _ (List.mem_of_getElem? (i := 21) rfl))) (fun _ h9 => h9) rfl dX9_paste_61 ?_
              refine lv_icmp_eq (tgt := 70) hx hb dX9_paste_64 (by decide) (fun c_390 => ?_) (fun c_390 => ?_)
              ·
                have n_c_390 : (wd0.toInt : Int) = wd2.toInt := c_eq rfl rfl c_390
                refine lv_aload hx hb dX9_paste_70 (lv_at hl 1 rfl) ?_
                refine lv_iload_n hx hb dX9_paste_72 rfl (lv_at hl 4 rfl) ?_
                refine lv_iload hx hb dX9_paste_73 (lv_at hl 7 rfl) ?_
                refine vp_callSi (W.runV (As := [.int a2, .int a5]) (rest := []) ⟨hx, hb, hml, hown, hts⟩ (kX3_hasStretch2 l dC dI s0 wd0 rz0 n0 a2 a5 (rg_w b_wd0 (by decide) (by decide)) b_rz0) (cwV 2 hts gX9_pasteF__X3_hasStretch2_V343 rfl rfl rfl hd_yX3_hasStretch ⟨lel 1 2 rfl, lel 22 88 rfl⟩) ⟨pw_fb, rcv_X3 hK hP (q0 := 2) rfl, (pw_use hP hK hN [2] rfl [] rfl)⟩ rfl rfl hl.1 rfl (lv_room (Nat.le_of_ble_eq_true rfl)) dX9_paste_75 ⟨lel 0 0 rfl, lel 0 0 rfl⟩) (fun r_391 h_r_391 => ?_)
                obtain ⟨b_r_391, nz_r_391, zz_r_391⟩ := h_r_391
                have b_r_391 : (0 : Int) ≤ r_391.toInt ∧ r_391.toInt ≤ 1 := b_r_391
                refine lv_if_eq (tgt := 93) hx hb dX9_paste_78 (by decide) (fun c_392 => ?_) (fun c_392 => ?_)
                ·
                  have n_c_392 : (r_391.toInt : Int) = 0 := c_eq rfl (by decide) c_392
                  have b_r_391 : (0 : Int) ≤ r_391.toInt ∧ r_391.toInt ≤ 0 := r_eq1 b_r_391 (by decide : (0 : Int) ≤ (0 : Int32).toInt ∧ (0 : Int32).toInt ≤ 0) n_c_392 (by decide)
                  have g_393 := zz_r_391 c_392
                  refine lv_bipush (v := (-7)) hx hb dX9_paste_93 (by decide) ?_
                  have hP9 := hP.sub (ws' := [(h0, .inr (7, [.ref tp, .ref sc, .ref rd, .ref cu, .ref im, .ref ig, .ref sl, .ref se, .ref sm, .ref fc])), (sl, .inl (cS, 4, .inr (.inr (.inr (.inr (sf4 s0 s1 s2 s3)))))), (s0, .inr (2, [.int wd0, .int rz0, .ref n0])), (s1, .inr (2, [.int wd1, .int rz1, .ref n1])), (s2, .inr (2, [.int wd2, .int rz2, .ref n2])), (s3, .inr (2, [.int wd3, .int rz3, .ref n3])), (n0, .inl (cJ0, 60, .inr (.inl g0))), (n1, .inl (cJ1, 60, .inr (.inl g1))), (n2, .inl (cJ2, 60, .inr (.inl g2))), (n3, .inl (cJ3, 60, .inr (.inl g3)))]) [0, 1, 2, 3, 4, 5, 6, 7, 8, 9] rfl
                  have hD9 := hD.sub (ws' := [(h0, .inr (7, [.ref tp, .ref sc, .ref rd, .ref cu, .ref im, .ref ig, .ref sl, .ref se, .ref sm, .ref fc])), (sl, .inl (cS, 4, .inr (.inr (.inr (.inr (sf4 s0 s1 s2 s3)))))), (s0, .inr (2, [.int wd0, .int rz0, .ref n0])), (s1, .inr (2, [.int wd1, .int rz1, .ref n1])), (s2, .inr (2, [.int wd2, .int rz2, .ref n2])), (s3, .inr (2, [.int wd3, .int rz3, .ref n3])), (n0, .inl (cJ0, 60, .inr (.inl g0))), (n1, .inl (cJ1, 60, .inr (.inl g1))), (n2, .inl (cJ2, 60, .inr (.inl g2))), (n3, .inl (cJ3, 60, .inr (.inl g3)))]) [0, 1, 2, 3, 4, 5, 6, 7, 8, 9] (by decide) rfl
                  have hK9 := hK.sub (tys' := [(cS, .object RX3), (cJ0, .long), (cJ1, .long), (cJ2, .long), (cJ3, .long)]) [0, 1, 2, 3, 4] rfl
                  exact W.iret (v := (-7)) hx hb hr (fun t ht hW => ⟨⟨(-7), (), rfl, ⟨(rg_w (by decide : (-7 : Int) ≤ ((-7) : Int32).toInt ∧ ((-7) : Int32).toInt ≤ -7) (by decide) (by decide)), (ps_7 (j := 0) (t := 2) (by decide) (by decide) (by decide) (by have q0 := hg9_0; unfold RG at q0; have q2 := hg9_2; unfold RG at q2; omega) (by have q0 := hg9_0; unfold RG at q0; have q2 := hg9_2; unfold RG at q2; omega) (by have q0 := hg9_0; unfold RG at q0; have q2 := hg9_2; unfold RG at q2; omega))⟩, g0, g1, g2, g3, by rw [ht]; exact hP9, va_K.moved hW.alike hK9, hD9⟩, hS.F ht⟩) hS.2.2 dX9_paste_95
                ·
                  have n_c_392 : (r_391.toInt : Int) ≠ 0 := c_ne rfl (by decide) c_392
                  have b_r_391 : (1 : Int) ≤ r_391.toInt ∧ r_391.toInt ≤ 1 := r_ne1 b_r_391 (by decide : (0 : Int) ≤ (0 : Int32).toInt ∧ (0 : Int32).toInt ≤ 0) n_c_392 (by decide)
                  obtain ⟨b_a2, b_a5, g_394⟩ := nz_r_391 c_392
                  refine lv_aload hx hb dX9_paste_81 (lv_at hl 0 rfl) ?_
                  refine lv_iload hx hb dX9_paste_83 (lv_at hl 6 rfl) ?_
                  refine lv_iload hx hb dX9_paste_85 (lv_at hl 7 rfl) ?_
                  refine vp_callSi (W.runV (As := [.int a4, .int a5]) (rest := []) ⟨hx, hb, hml, hown, hts⟩ (kX3_hasStretch2 l dC dI s2 wd2 rz2 n2 a4 a5 (rg_w b_wd2 (by decide) (by decide)) b_rz2) (cwV 2 hts gX9_pasteF__X3_hasStretch2_V343 rfl rfl rfl hd_yX3_hasStretch ⟨lel 1 2 rfl, lel 22 88 rfl⟩) ⟨pw_fb, rcv_X3 hK hP (q0 := 4) rfl, (pw_use hP hK hN [4] rfl [] rfl)⟩ rfl rfl hl.1 rfl (lv_room (Nat.le_of_ble_eq_true rfl)) dX9_paste_87 ⟨lel 0 0 rfl, lel 0 0 rfl⟩) (fun r_395 h_r_395 => ?_)
                  obtain ⟨b_r_395, nz_r_395, zz_r_395⟩ := h_r_395
                  have b_r_395 : (0 : Int) ≤ r_395.toInt ∧ r_395.toInt ≤ 1 := b_r_395
                  refine lv_if_ne (tgt := 96) hx hb dX9_paste_90 (by decide) (fun c_396 => ?_) (fun c_396 => ?_)
                  ·
                    have n_c_396 : (r_395.toInt : Int) ≠ 0 := c_ne rfl (by decide) c_396
                    have b_r_395 : (1 : Int) ≤ r_395.toInt ∧ r_395.toInt ≤ 1 := r_ne1 b_r_395 (by decide : (0 : Int) ≤ (0 : Int32).toInt ∧ (0 : Int32).toInt ≤ 0) n_c_396 (by decide)
                    obtain ⟨b_a4, b_a5, g_397⟩ := nz_r_395 c_396
                    refine lv_aload hx hb dX9_paste_96 (lv_at hl 0 rfl) ?_
                    refine lv_iload hx hb dX9_paste_98 (lv_at hl 6 rfl) ?_
                    refine lv_aload hx hb dX9_paste_100 (lv_at hl 1 rfl) ?_
                    refine lv_iload_n hx hb dX9_paste_102 rfl (lv_at hl 4 rfl) ?_
                    refine lv_iload hx hb dX9_paste_103 (lv_at hl 7 rfl) ?_
                    have hFc := va_free (wc := [(s2, .inr (2, [.int wd2, .int rz2, .ref n2])), (n2, .inl (cJ2, 60, .inr (.inl g2))), (s0, .inr (2, [.int wd0, .int rz0, .ref n0])), (n0, .inl (cJ0, 60, .inr (.inl g0)))]) hD hS hA [4, 8, 2, 6] rfl
                    refine va_callv (va_runV (As := [.int a4, .ref s0, .int a2, .int a5]) (rest := []) ⟨hx, hb, hml, hown, hts⟩ (kX3_take l dC dI s2 wd2 rz2 n2 cJ2 g2 s0 wd0 rz0 n0 cJ0 g0 a4 a2 a5 (s.heap.size) (rg_w b_wd2 (by decide) (by decide)) b_rz2 (rg_w b_wd0 (by decide) (by decide)) b_rz0) (cwV 4 hts gX9_pasteF__X3_take_V353 rfl rfl rfl hd_yX3_take ⟨lel 2 2 rfl, lel 88 88 rfl⟩) ⟨hw_fb, rcv_X3 hK hP (q0 := 4) rfl, (hw_use hP hD hK hN [4, 8, 2, 6] rfl (by decide) rfl [3, 1] rfl)⟩ rfl rfl hl.1 rfl (lv_room (Nat.le_of_ble_eq_true rfl)) dX9_paste_105 ⟨lel 0 0 rfl, lel 0 0 rfl⟩) hS (fun q _ h => hFc q h) hFc (fun u_399 t H1 locs ht hvm hw_r_398 hB hz1 hk1 hS => ?_)
                    obtain ⟨o0_400, hP1, hK1, hD1⟩ := hB
                    rw [ht] at hP1
                    have hK1 := va_K.moved hvm.symm hK1
                    obtain ⟨hP, hD⟩ := va_join (wr := [(h0, .inr (7, [.ref tp, .ref sc, .ref rd, .ref cu, .ref im, .ref ig, .ref sl, .ref se, .ref sm, .ref fc])), (sl, .inl (cS, 4, .inr (.inr (.inr (.inr (sf4 s0 s1 s2 s3)))))), (s1, .inr (2, [.int wd1, .int rz1, .ref n1])), (s3, .inr (2, [.int wd3, .int rz3, .ref n3])), (n1, .inl (cJ1, 60, .inr (.inl g1))), (n3, .inl (cJ3, 60, .inr (.inl g3)))]) (w1 := [(s2, .inr (2, [.int wd2, .int rz2, .ref n2])), (n2, .inl (cJ2, 60, .inr (.inl o0_400))), (s0, .inr (2, [.int wd0, .int rz0, .ref n0])), (n0, .inl (cJ0, 60, .inr (.inl g0)))]) hP hD [4, 8, 2, 6] [0, 1, 3, 5, 7, 9] rfl rfl (by decide) (by decide) hk1 hFc hP1 hD1
                    have hK := (hK.sub (tys' := [(cS, .object RX3), (cJ1, .long), (cJ3, .long)]) [0, 2, 4] rfl).app hK1
                    generalize H1 = H at hP hS ⊢
                    have hP := hP.sub (ws' := [(h0, .inr (7, [.ref tp, .ref sc, .ref rd, .ref cu, .ref im, .ref ig, .ref sl, .ref se, .ref sm, .ref fc])), (sl, .inl (cS, 4, .inr (.inr (.inr (.inr (sf4 s0 s1 s2 s3)))))), (s0, .inr (2, [.int wd0, .int rz0, .ref n0])), (s1, .inr (2, [.int wd1, .int rz1, .ref n1])), (s2, .inr (2, [.int wd2, .int rz2, .ref n2])), (s3, .inr (2, [.int wd3, .int rz3, .ref n3])), (n0, .inl (cJ0, 60, .inr (.inl g0))), (n1, .inl (cJ1, 60, .inr (.inl g1))), (n2, .inl (cJ2, 60, .inr (.inl o0_400))), (n3, .inl (cJ3, 60, .inr (.inl g3)))]) [0, 1, 8, 2, 6, 3, 9, 4, 7, 5] rfl
                    have hD := hD.sub (ws' := [(h0, .inr (7, [.ref tp, .ref sc, .ref rd, .ref cu, .ref im, .ref ig, .ref sl, .ref se, .ref sm, .ref fc])), (sl, .inl (cS, 4, .inr (.inr (.inr (.inr (sf4 s0 s1 s2 s3)))))), (s0, .inr (2, [.int wd0, .int rz0, .ref n0])), (s1, .inr (2, [.int wd1, .int rz1, .ref n1])), (s2, .inr (2, [.int wd2, .int rz2, .ref n2])), (s3, .inr (2, [.int wd3, .int rz3, .ref n3])), (n0, .inl (cJ0, 60, .inr (.inl g0))), (n1, .inl (cJ1, 60, .inr (.inl g1))), (n2, .inl (cJ2, 60, .inr (.inl o0_400))), (n3, .inl (cJ3, 60, .inr (.inl g3)))]) [0, 1, 8, 2, 6, 3, 9, 4, 7, 5] (by decide) rfl
                    have hK := hK.sub (tys' := [(cS, .object RX3), (cJ0, .long), (cJ1, .long), (cJ2, .long), (cJ3, .long)]) [0, 4, 1, 3, 2] rfl
                    have hP : va_P (dC, dI) vwCl [(h0, .inr (7, [.ref tp, .ref sc, .ref rd, .ref cu, .ref im, .ref ig, .ref sl, .ref se, .ref sm, .ref fc])), (sl, .inl (cS, 4, .inr (.inr (.inr (.inr (sf4 s0 s1 s2 s3)))))), (s0, .inr (2, [.int wd0, .int rz0, .ref n0])), (s1, .inr (2, [.int wd1, .int rz1, .ref n1])), (s2, .inr (2, [.int wd2, .int rz2, .ref n2])), (s3, .inr (2, [.int wd3, .int rz3, .ref n3])), (n0, .inl (cJ0, 60, .inr (.inl g0))), (n1, .inl (cJ1, 60, .inr (.inl g1))), (n2, .inl (cJ2, 60, .inr (.inl o0_400))), (n3, .inl (cJ3, 60, .inr (.inl g3)))] H := hP
                    have hD : va_D A [(h0, .inr (7, [.ref tp, .ref sc, .ref rd, .ref cu, .ref im, .ref ig, .ref sl, .ref se, .ref sm, .ref fc])), (sl, .inl (cS, 4, .inr (.inr (.inr (.inr (sf4 s0 s1 s2 s3)))))), (s0, .inr (2, [.int wd0, .int rz0, .ref n0])), (s1, .inr (2, [.int wd1, .int rz1, .ref n1])), (s2, .inr (2, [.int wd2, .int rz2, .ref n2])), (s3, .inr (2, [.int wd3, .int rz3, .ref n3])), (n0, .inl (cJ0, 60, .inr (.inl g0))), (n1, .inl (cJ1, 60, .inr (.inl g1))), (n2, .inl (cJ2, 60, .inr (.inl o0_400))), (n3, .inl (cJ3, 60, .inr (.inl g3)))] := hD
                    have hK : va_K (dC, dI) vwCl [(cS, .object RX3), (cJ0, .long), (cJ1, .long), (cJ2, .long), (cJ3, .long)] s := hK
                    refine lv_iconst (v := 0) hx hb dX9_paste_108 (by decide) ?_
                    have hP9 := hP.sub (ws' := [(h0, .inr (7, [.ref tp, .ref sc, .ref rd, .ref cu, .ref im, .ref ig, .ref sl, .ref se, .ref sm, .ref fc])), (sl, .inl (cS, 4, .inr (.inr (.inr (.inr (sf4 s0 s1 s2 s3)))))), (s0, .inr (2, [.int wd0, .int rz0, .ref n0])), (s1, .inr (2, [.int wd1, .int rz1, .ref n1])), (s2, .inr (2, [.int wd2, .int rz2, .ref n2])), (s3, .inr (2, [.int wd3, .int rz3, .ref n3])), (n0, .inl (cJ0, 60, .inr (.inl g0))), (n1, .inl (cJ1, 60, .inr (.inl g1))), (n2, .inl (cJ2, 60, .inr (.inl o0_400))), (n3, .inl (cJ3, 60, .inr (.inl g3)))]) [0, 1, 2, 3, 4, 5, 6, 7, 8, 9] rfl
                    have hD9 := hD.sub (ws' := [(h0, .inr (7, [.ref tp, .ref sc, .ref rd, .ref cu, .ref im, .ref ig, .ref sl, .ref se, .ref sm, .ref fc])), (sl, .inl (cS, 4, .inr (.inr (.inr (.inr (sf4 s0 s1 s2 s3)))))), (s0, .inr (2, [.int wd0, .int rz0, .ref n0])), (s1, .inr (2, [.int wd1, .int rz1, .ref n1])), (s2, .inr (2, [.int wd2, .int rz2, .ref n2])), (s3, .inr (2, [.int wd3, .int rz3, .ref n3])), (n0, .inl (cJ0, 60, .inr (.inl g0))), (n1, .inl (cJ1, 60, .inr (.inl g1))), (n2, .inl (cJ2, 60, .inr (.inl o0_400))), (n3, .inl (cJ3, 60, .inr (.inl g3)))]) [0, 1, 2, 3, 4, 5, 6, 7, 8, 9] (by decide) rfl
                    have hK9 := hK.sub (tys' := [(cS, .object RX3), (cJ0, .long), (cJ1, .long), (cJ2, .long), (cJ3, .long)]) [0, 1, 2, 3, 4] rfl
                    exact W.iret (v := 0) hx hb hr (fun t ht hW => ⟨⟨0, (), rfl, ⟨(rg_w (by decide : (0 : Int) ≤ (0 : Int32).toInt ∧ (0 : Int32).toInt ≤ 0) (by decide) (by decide)), (ps_0 (j := 0) (t := 2) (by decide) (by decide) (by decide) (by have q0 := hg9_0; unfold RG at q0; have q2 := hg9_2; unfold RG at q2; omega) (by have q0 := hg9_0; unfold RG at q0; have q2 := hg9_2; unfold RG at q2; omega) (by have q0 := hg9_0; unfold RG at q0; have q2 := hg9_2; unfold RG at q2; omega))⟩, g0, g1, o0_400, g3, by rw [ht]; exact hP9, va_K.moved hW.alike hK9, hD9⟩, hS.F ht⟩) hS.2.2 dX9_paste_109
                  ·
                    have n_c_396 : (r_395.toInt : Int) = 0 := c_eq rfl (by decide) c_396
                    have b_r_395 : (0 : Int) ≤ r_395.toInt ∧ r_395.toInt ≤ 0 := r_eq1 b_r_395 (by decide : (0 : Int) ≤ (0 : Int32).toInt ∧ (0 : Int32).toInt ≤ 0) n_c_396 (by decide)
                    have g_401 := zz_r_395 c_396
                    refine lv_bipush (v := (-7)) hx hb dX9_paste_93 (by decide) ?_
                    have hP9 := hP.sub (ws' := [(h0, .inr (7, [.ref tp, .ref sc, .ref rd, .ref cu, .ref im, .ref ig, .ref sl, .ref se, .ref sm, .ref fc])), (sl, .inl (cS, 4, .inr (.inr (.inr (.inr (sf4 s0 s1 s2 s3)))))), (s0, .inr (2, [.int wd0, .int rz0, .ref n0])), (s1, .inr (2, [.int wd1, .int rz1, .ref n1])), (s2, .inr (2, [.int wd2, .int rz2, .ref n2])), (s3, .inr (2, [.int wd3, .int rz3, .ref n3])), (n0, .inl (cJ0, 60, .inr (.inl g0))), (n1, .inl (cJ1, 60, .inr (.inl g1))), (n2, .inl (cJ2, 60, .inr (.inl g2))), (n3, .inl (cJ3, 60, .inr (.inl g3)))]) [0, 1, 2, 3, 4, 5, 6, 7, 8, 9] rfl
                    have hD9 := hD.sub (ws' := [(h0, .inr (7, [.ref tp, .ref sc, .ref rd, .ref cu, .ref im, .ref ig, .ref sl, .ref se, .ref sm, .ref fc])), (sl, .inl (cS, 4, .inr (.inr (.inr (.inr (sf4 s0 s1 s2 s3)))))), (s0, .inr (2, [.int wd0, .int rz0, .ref n0])), (s1, .inr (2, [.int wd1, .int rz1, .ref n1])), (s2, .inr (2, [.int wd2, .int rz2, .ref n2])), (s3, .inr (2, [.int wd3, .int rz3, .ref n3])), (n0, .inl (cJ0, 60, .inr (.inl g0))), (n1, .inl (cJ1, 60, .inr (.inl g1))), (n2, .inl (cJ2, 60, .inr (.inl g2))), (n3, .inl (cJ3, 60, .inr (.inl g3)))]) [0, 1, 2, 3, 4, 5, 6, 7, 8, 9] (by decide) rfl
                    have hK9 := hK.sub (tys' := [(cS, .object RX3), (cJ0, .long), (cJ1, .long), (cJ2, .long), (cJ3, .long)]) [0, 1, 2, 3, 4] rfl
                    exact W.iret (v := (-7)) hx hb hr (fun t ht hW => ⟨⟨(-7), (), rfl, ⟨(rg_w (by decide : (-7 : Int) ≤ ((-7) : Int32).toInt ∧ ((-7) : Int32).toInt ≤ -7) (by decide) (by decide)), (ps_7 (j := 0) (t := 2) (by decide) (by decide) (by decide) (by have q0 := hg9_0; unfold RG at q0; have q2 := hg9_2; unfold RG at q2; omega) (by have q0 := hg9_0; unfold RG at q0; have q2 := hg9_2; unfold RG at q2; omega) (by have q0 := hg9_0; unfold RG at q0; have q2 := hg9_2; unfold RG at q2; omega))⟩, g0, g1, g2, g3, by rw [ht]; exact hP9, va_K.moved hW.alike hK9, hD9⟩, hS.F ht⟩) hS.2.2 dX9_paste_95
              ·
                have n_c_390 : (wd0.toInt : Int) ≠ wd2.toInt := c_ne rfl rfl c_390
                refine lv_bipush (v := (-8)) hx hb dX9_paste_67 (by decide) ?_
                have hP9 := hP.sub (ws' := [(h0, .inr (7, [.ref tp, .ref sc, .ref rd, .ref cu, .ref im, .ref ig, .ref sl, .ref se, .ref sm, .ref fc])), (sl, .inl (cS, 4, .inr (.inr (.inr (.inr (sf4 s0 s1 s2 s3)))))), (s0, .inr (2, [.int wd0, .int rz0, .ref n0])), (s1, .inr (2, [.int wd1, .int rz1, .ref n1])), (s2, .inr (2, [.int wd2, .int rz2, .ref n2])), (s3, .inr (2, [.int wd3, .int rz3, .ref n3])), (n0, .inl (cJ0, 60, .inr (.inl g0))), (n1, .inl (cJ1, 60, .inr (.inl g1))), (n2, .inl (cJ2, 60, .inr (.inl g2))), (n3, .inl (cJ3, 60, .inr (.inl g3)))]) [0, 1, 2, 3, 4, 5, 6, 7, 8, 9] rfl
                have hD9 := hD.sub (ws' := [(h0, .inr (7, [.ref tp, .ref sc, .ref rd, .ref cu, .ref im, .ref ig, .ref sl, .ref se, .ref sm, .ref fc])), (sl, .inl (cS, 4, .inr (.inr (.inr (.inr (sf4 s0 s1 s2 s3)))))), (s0, .inr (2, [.int wd0, .int rz0, .ref n0])), (s1, .inr (2, [.int wd1, .int rz1, .ref n1])), (s2, .inr (2, [.int wd2, .int rz2, .ref n2])), (s3, .inr (2, [.int wd3, .int rz3, .ref n3])), (n0, .inl (cJ0, 60, .inr (.inl g0))), (n1, .inl (cJ1, 60, .inr (.inl g1))), (n2, .inl (cJ2, 60, .inr (.inl g2))), (n3, .inl (cJ3, 60, .inr (.inl g3)))]) [0, 1, 2, 3, 4, 5, 6, 7, 8, 9] (by decide) rfl
                have hK9 := hK.sub (tys' := [(cS, .object RX3), (cJ0, .long), (cJ1, .long), (cJ2, .long), (cJ3, .long)]) [0, 1, 2, 3, 4] rfl
                exact W.iret (v := (-8)) hx hb hr (fun t ht hW => ⟨⟨(-8), (), rfl, ⟨(rg_w (by decide : (-8 : Int) ≤ ((-8) : Int32).toInt ∧ ((-8) : Int32).toInt ≤ -8) (by decide) (by decide)), (ps_8 (j := 0) (t := 2) (by decide) (by decide) (by decide) (by have q0 := hg9_0; unfold RG at q0; have q2 := hg9_2; unfold RG at q2; omega) (by have q0 := hg9_0; unfold RG at q0; have q2 := hg9_2; unfold RG at q2; omega))⟩, g0, g1, g2, g3, by rw [ht]; exact hP9, va_K.moved hW.alike hK9, hD9⟩, hS.F ht⟩) hS.2.2 dX9_paste_69
            ·
              have n_c_388 : (r_387.toInt : Int) = 0 := c_eq rfl (by decide) c_388
              have b_r_387 : (0 : Int) ≤ r_387.toInt ∧ r_387.toInt ≤ 0 := r_eq1 b_r_387 (by decide : (0 : Int) ≤ (0 : Int32).toInt ∧ (0 : Int32).toInt ≤ 0) n_c_388 (by decide)
              have g_402 := zz_r_387 c_388
              refine lv_bipush (v := (-6)) hx hb dX9_paste_51 (by decide) ?_
              have hP9 := hP.sub (ws' := [(h0, .inr (7, [.ref tp, .ref sc, .ref rd, .ref cu, .ref im, .ref ig, .ref sl, .ref se, .ref sm, .ref fc])), (sl, .inl (cS, 4, .inr (.inr (.inr (.inr (sf4 s0 s1 s2 s3)))))), (s0, .inr (2, [.int wd0, .int rz0, .ref n0])), (s1, .inr (2, [.int wd1, .int rz1, .ref n1])), (s2, .inr (2, [.int wd2, .int rz2, .ref n2])), (s3, .inr (2, [.int wd3, .int rz3, .ref n3])), (n0, .inl (cJ0, 60, .inr (.inl g0))), (n1, .inl (cJ1, 60, .inr (.inl g1))), (n2, .inl (cJ2, 60, .inr (.inl g2))), (n3, .inl (cJ3, 60, .inr (.inl g3)))]) [0, 1, 2, 3, 4, 5, 6, 7, 8, 9] rfl
              have hD9 := hD.sub (ws' := [(h0, .inr (7, [.ref tp, .ref sc, .ref rd, .ref cu, .ref im, .ref ig, .ref sl, .ref se, .ref sm, .ref fc])), (sl, .inl (cS, 4, .inr (.inr (.inr (.inr (sf4 s0 s1 s2 s3)))))), (s0, .inr (2, [.int wd0, .int rz0, .ref n0])), (s1, .inr (2, [.int wd1, .int rz1, .ref n1])), (s2, .inr (2, [.int wd2, .int rz2, .ref n2])), (s3, .inr (2, [.int wd3, .int rz3, .ref n3])), (n0, .inl (cJ0, 60, .inr (.inl g0))), (n1, .inl (cJ1, 60, .inr (.inl g1))), (n2, .inl (cJ2, 60, .inr (.inl g2))), (n3, .inl (cJ3, 60, .inr (.inl g3)))]) [0, 1, 2, 3, 4, 5, 6, 7, 8, 9] (by decide) rfl
              have hK9 := hK.sub (tys' := [(cS, .object RX3), (cJ0, .long), (cJ1, .long), (cJ2, .long), (cJ3, .long)]) [0, 1, 2, 3, 4] rfl
              exact W.iret (v := (-6)) hx hb hr (fun t ht hW => ⟨⟨(-6), (), rfl, ⟨(rg_w (by decide : (-6 : Int) ≤ ((-6) : Int32).toInt ∧ ((-6) : Int32).toInt ≤ -6) (by decide) (by decide)), (ps_6 (j := 0) (t := 2) (by decide) (by decide) (by decide) (by have q0 := hg9_0; unfold RG at q0; have q2 := hg9_2; unfold RG at q2; omega))⟩, g0, g1, g2, g3, by rw [ht]; exact hP9, va_K.moved hW.alike hK9, hD9⟩, hS.F ht⟩) hS.2.2 dX9_paste_53
        ·
          obtain rfl : a3 = 3 := Int32.toInt_inj.mp (h_342.trans (by decide))
          refine va_aldq hx hb hK hP 1 0 rfl rfl (vp_in_b (by decide : (3 : Int) ≤ (3 : Int32).toInt ∧ (3 : Int32).toInt ≤ 3) (by decide) (by decide)) dX9_paste_32 ?_
          refine W.eq (g2 := F0 m 33 ls (.ref s3 :: [])) (congrArg (fun v => F0 m 33 ls (va_rf v :: [])) (sf4_3 s0 s1 s2 s3)) ?_
          refine lv_astore (lv' := [(7, .ref s3), (6, .ref s0), (0, .ref h0), (1, .int 0), (2, .int a2), (3, .int 3), (4, .int a4), (5, .int a5)]) hx hb dX9_paste_33 hl (by decide) rfl (fun ls hl => ?_)
          refine lv_aload hx hb dX9_paste_35 (lv_at hl 1 rfl) ?_
          refine vp_callSi (W.runV (As := []) (rest := []) ⟨hx, hb, hml, hown, hts⟩ (kX3_stands2 l dC dI s0 wd0 rz0 n0 b_wd0 b_rz0) (cwV 0 hts gX9_pasteF__X3_stands2_V270 rfl rfl rfl hd_yX3_stands ⟨lel 1 2 rfl, lel 20 88 rfl⟩) ⟨pw_fb, rcv_X3 hK hP (q0 := 2) rfl, (pw_use hP hK hN [2] rfl [] rfl)⟩ rfl rfl hl.1 rfl (lv_room (Nat.le_of_ble_eq_true rfl)) dX9_paste_37 ⟨lel 0 0 rfl, lel 0 0 rfl⟩) (fun r_403 h_r_403 => ?_)
          obtain ⟨b_r_403, nz_r_403, zz_r_403⟩ := h_r_403
          have b_r_403 : (0 : Int) ≤ r_403.toInt ∧ r_403.toInt ≤ 1 := b_r_403
          refine lv_if_eq (tgt := 51) hx hb dX9_paste_40 (by decide) (fun c_404 => ?_) (fun c_404 => ?_)
          ·
            have n_c_404 : (r_403.toInt : Int) = 0 := c_eq rfl (by decide) c_404
            have b_r_403 : (0 : Int) ≤ r_403.toInt ∧ r_403.toInt ≤ 0 := r_eq1 b_r_403 (by decide : (0 : Int) ≤ (0 : Int32).toInt ∧ (0 : Int32).toInt ≤ 0) n_c_404 (by decide)
            have g_405 := zz_r_403 c_404
            refine lv_bipush (v := (-6)) hx hb dX9_paste_51 (by decide) ?_
            have hP9 := hP.sub (ws' := [(h0, .inr (7, [.ref tp, .ref sc, .ref rd, .ref cu, .ref im, .ref ig, .ref sl, .ref se, .ref sm, .ref fc])), (sl, .inl (cS, 4, .inr (.inr (.inr (.inr (sf4 s0 s1 s2 s3)))))), (s0, .inr (2, [.int wd0, .int rz0, .ref n0])), (s1, .inr (2, [.int wd1, .int rz1, .ref n1])), (s2, .inr (2, [.int wd2, .int rz2, .ref n2])), (s3, .inr (2, [.int wd3, .int rz3, .ref n3])), (n0, .inl (cJ0, 60, .inr (.inl g0))), (n1, .inl (cJ1, 60, .inr (.inl g1))), (n2, .inl (cJ2, 60, .inr (.inl g2))), (n3, .inl (cJ3, 60, .inr (.inl g3)))]) [0, 1, 2, 3, 4, 5, 6, 7, 8, 9] rfl
            have hD9 := hD.sub (ws' := [(h0, .inr (7, [.ref tp, .ref sc, .ref rd, .ref cu, .ref im, .ref ig, .ref sl, .ref se, .ref sm, .ref fc])), (sl, .inl (cS, 4, .inr (.inr (.inr (.inr (sf4 s0 s1 s2 s3)))))), (s0, .inr (2, [.int wd0, .int rz0, .ref n0])), (s1, .inr (2, [.int wd1, .int rz1, .ref n1])), (s2, .inr (2, [.int wd2, .int rz2, .ref n2])), (s3, .inr (2, [.int wd3, .int rz3, .ref n3])), (n0, .inl (cJ0, 60, .inr (.inl g0))), (n1, .inl (cJ1, 60, .inr (.inl g1))), (n2, .inl (cJ2, 60, .inr (.inl g2))), (n3, .inl (cJ3, 60, .inr (.inl g3)))]) [0, 1, 2, 3, 4, 5, 6, 7, 8, 9] (by decide) rfl
            have hK9 := hK.sub (tys' := [(cS, .object RX3), (cJ0, .long), (cJ1, .long), (cJ2, .long), (cJ3, .long)]) [0, 1, 2, 3, 4] rfl
            exact W.iret (v := (-6)) hx hb hr (fun t ht hW => ⟨⟨(-6), (), rfl, ⟨(rg_w (by decide : (-6 : Int) ≤ ((-6) : Int32).toInt ∧ ((-6) : Int32).toInt ≤ -6) (by decide) (by decide)), (ps_6 (j := 0) (t := 3) (by decide) (by decide) (by decide) (by have q0 := hg9_0; unfold RG at q0; have q3 := hg9_3; unfold RG at q3; omega))⟩, g0, g1, g2, g3, by rw [ht]; exact hP9, va_K.moved hW.alike hK9, hD9⟩, hS.F ht⟩) hS.2.2 dX9_paste_53
          ·
            have n_c_404 : (r_403.toInt : Int) ≠ 0 := c_ne rfl (by decide) c_404
            have b_r_403 : (1 : Int) ≤ r_403.toInt ∧ r_403.toInt ≤ 1 := r_ne1 b_r_403 (by decide : (0 : Int) ≤ (0 : Int32).toInt ∧ (0 : Int32).toInt ≤ 0) n_c_404 (by decide)
            obtain ⟨b_wd0, g_406⟩ := nz_r_403 c_404
            refine lv_aload hx hb dX9_paste_43 (lv_at hl 0 rfl) ?_
            refine vp_callSi (W.runV (As := []) (rest := []) ⟨hx, hb, hml, hown, hts⟩ (kX3_stands2 l dC dI s3 wd3 rz3 n3 b_wd3 b_rz3) (cwV 0 hts gX9_pasteF__X3_stands2_V270 rfl rfl rfl hd_yX3_stands ⟨lel 1 2 rfl, lel 20 88 rfl⟩) ⟨pw_fb, rcv_X3 hK hP (q0 := 5) rfl, (pw_use hP hK hN [5] rfl [] rfl)⟩ rfl rfl hl.1 rfl (lv_room (Nat.le_of_ble_eq_true rfl)) dX9_paste_45 ⟨lel 0 0 rfl, lel 0 0 rfl⟩) (fun r_407 h_r_407 => ?_)
            obtain ⟨b_r_407, nz_r_407, zz_r_407⟩ := h_r_407
            have b_r_407 : (0 : Int) ≤ r_407.toInt ∧ r_407.toInt ≤ 1 := b_r_407
            refine lv_if_ne (tgt := 54) hx hb dX9_paste_48 (by decide) (fun c_408 => ?_) (fun c_408 => ?_)
            ·
              have n_c_408 : (r_407.toInt : Int) ≠ 0 := c_ne rfl (by decide) c_408
              have b_r_407 : (1 : Int) ≤ r_407.toInt ∧ r_407.toInt ≤ 1 := r_ne1 b_r_407 (by decide : (0 : Int) ≤ (0 : Int32).toInt ∧ (0 : Int32).toInt ≤ 0) n_c_408 (by decide)
              obtain ⟨b_wd3, g_409⟩ := nz_r_407 c_408
              refine lv_aload hx hb dX9_paste_54 (lv_at hl 1 rfl) ?_
              refine va_getN (own := RX9) (index := 350) (ref := RX3) (host := RX9) (D := (dC, dI)) (ci := 2) (v := .int wd0) (C := RX3) (T := TX3) (N := 3) hx hb hts iX9_pasteF_X3 hown hK hP 2 rfl rfl 0 (by decide) (va_Nw.use rfl (hN _ (List.mem_of_getElem? (i := 21) rfl))) (fun _ h9 => h9) rfl dX9_paste_56 ?_
              refine lv_aload hx hb dX9_paste_59 (lv_at hl 0 rfl) ?_
              refine va_getN (own := RX9) (index := 350) (ref := RX3) (host := RX9) (D := (dC, dI)) (ci := 2) (v := .int wd3) (C := RX3) (T := TX3) (N := 3) hx hb hts iX9_pasteF_X3 hown hK hP 5 rfl rfl 0 (by decide) (va_Nw.use rfl (hN _ (List.mem_of_getElem? (i := 21) rfl))) (fun _ h9 => h9) rfl dX9_paste_61 ?_
              refine lv_icmp_eq (tgt := 70) hx hb dX9_paste_64 (by decide) (fun c_410 => ?_) (fun c_410 => ?_)
              ·
                have n_c_410 : (wd0.toInt : Int) = wd3.toInt := c_eq rfl rfl c_410
                refine lv_aload hx hb dX9_paste_70 (lv_at hl 1 rfl) ?_
                refine lv_iload_n hx hb dX9_paste_72 rfl (lv_at hl 4 rfl) ?_
                refine lv_iload hx hb dX9_paste_73 (lv_at hl 7 rfl) ?_
                refine vp_callSi (W.runV (As := [.int a2, .int a5]) (rest := []) ⟨hx, hb, hml, hown, hts⟩ (kX3_hasStretch2 l dC dI s0 wd0 rz0 n0 a2 a5 (rg_w b_wd0 (by decide) (by decide)) b_rz0) (cwV 2 hts gX9_pasteF__X3_hasStretch2_V343 rfl rfl rfl hd_yX3_hasStretch ⟨lel 1 2 rfl, lel 22 88 rfl⟩) ⟨pw_fb, rcv_X3 hK hP (q0 := 2) rfl, (pw_use hP hK hN [2] rfl [] rfl)⟩ rfl rfl hl.1 rfl (lv_room (Nat.le_of_ble_eq_true rfl)) dX9_paste_75 ⟨lel 0 0 rfl, lel 0 0 rfl⟩) (fun r_411 h_r_411 => ?_)
                obtain ⟨b_r_411, nz_r_411, zz_r_411⟩ := h_r_411
                have b_r_411 : (0 : Int) ≤ r_411.toInt ∧ r_411.toInt ≤ 1 := b_r_411
                refine lv_if_eq (tgt := 93) hx hb dX9_paste_78 (by decide) (fun c_412 => ?_) (fun c_412 => ?_)
                ·
                  have n_c_412 : (r_411.toInt : Int) = 0 := c_eq rfl (by decide) c_412
                  have b_r_411 : (0 : Int) ≤ r_411.toInt ∧ r_411.toInt ≤ 0 := r_eq1 b_r_411 (by decide : (0 : Int) ≤ (0 : Int32).toInt ∧ (0 : Int32).toInt ≤ 0) n_c_412 (by decide)
                  have g_413 := zz_r_411 c_412
                  refine lv_bipush (v := (-7)) hx hb dX9_paste_93 (by decide) ?_
                  have hP9 := hP.sub (ws' := [(h0, .inr (7, [.ref tp, .ref sc, .ref rd, .ref cu, .ref im, .ref ig, .ref sl, .ref se, .ref sm, .ref fc])), (sl, .inl (cS, 4, .inr (.inr (.inr (.inr (sf4 s0 s1 s2 s3)))))), (s0, .inr (2, [.int wd0, .int rz0, .ref n0])), (s1, .inr (2, [.int wd1, .int rz1, .ref n1])), (s2, .inr (2, [.int wd2, .int rz2, .ref n2])), (s3, .inr (2, [.int wd3, .int rz3, .ref n3])), (n0, .inl (cJ0, 60, .inr (.inl g0))), (n1, .inl (cJ1, 60, .inr (.inl g1))), (n2, .inl (cJ2, 60, .inr (.inl g2))), (n3, .inl (cJ3, 60, .inr (.inl g3)))]) [0, 1, 2, 3, 4, 5, 6, 7, 8, 9] rfl
                  have hD9 := hD.sub (ws' := [(h0, .inr (7, [.ref tp, .ref sc, .ref rd, .ref cu, .ref im, .ref ig, .ref sl, .ref se, .ref sm, .ref fc])), (sl, .inl (cS, 4, .inr (.inr (.inr (.inr (sf4 s0 s1 s2 s3)))))), (s0, .inr (2, [.int wd0, .int rz0, .ref n0])), (s1, .inr (2, [.int wd1, .int rz1, .ref n1])), (s2, .inr (2, [.int wd2, .int rz2, .ref n2])), (s3, .inr (2, [.int wd3, .int rz3, .ref n3])), (n0, .inl (cJ0, 60, .inr (.inl g0))), (n1, .inl (cJ1, 60, .inr (.inl g1))), (n2, .inl (cJ2, 60, .inr (.inl g2))), (n3, .inl (cJ3, 60, .inr (.inl g3)))]) [0, 1, 2, 3, 4, 5, 6, 7, 8, 9] (by decide) rfl
                  have hK9 := hK.sub (tys' := [(cS, .object RX3), (cJ0, .long), (cJ1, .long), (cJ2, .long), (cJ3, .long)]) [0, 1, 2, 3, 4] rfl
                  exact W.iret (v := (-7)) hx hb hr (fun t ht hW => ⟨⟨(-7), (), rfl, ⟨(rg_w (by decide : (-7 : Int) ≤ ((-7) : Int32).toInt ∧ ((-7) : Int32).toInt ≤ -7) (by decide) (by decide)), (ps_7 (j := 0) (t := 3) (by decide) (by decide) (by decide) (by have q0 := hg9_0; unfold RG at q0; have q3 := hg9_3; unfold RG at q3; omega) (by have q0 := hg9_0; unfold RG at q0; have q3 := hg9_3; unfold RG at q3; omega) (by have q0 := hg9_0; unfold RG at q0; have q3 := hg9_3; unfold RG at q3; omega))⟩, g0, g1, g2, g3, by rw [ht]; exact hP9, va_K.moved hW.alike hK9, hD9⟩, hS.F ht⟩) hS.2.2 dX9_paste_95
                ·
                  have n_c_412 : (r_411.toInt : Int) ≠ 0 := c_ne rfl (by decide) c_412
                  have b_r_411 : (1 : Int) ≤ r_411.toInt ∧ r_411.toInt ≤ 1 := r_ne1 b_r_411 (by decide : (0 : Int) ≤ (0 : Int32).toInt ∧ (0 : Int32).toInt ≤ 0) n_c_412 (by decide)
                  obtain ⟨b_a2, b_a5, g_414⟩ := nz_r_411 c_412
                  refine lv_aload hx hb dX9_paste_81 (lv_at hl 0 rfl) ?_
                  refine lv_iload hx hb dX9_paste_83 (lv_at hl 6 rfl) ?_
                  refine lv_iload hx hb dX9_paste_85 (lv_at hl 7 rfl) ?_
                  refine vp_callSi (W.runV (As := [.int a4, .int a5]) (rest := []) ⟨hx, hb, hml, hown, hts⟩ (kX3_hasStretch2 l dC dI s3 wd3 rz3 n3 a4 a5 (rg_w b_wd3 (by decide) (by decide)) b_rz3) (cwV 2 hts gX9_pasteF__X3_hasStretch2_V343 rfl rfl rfl hd_yX3_hasStretch ⟨lel 1 2 rfl, lel 22 88 rfl⟩) ⟨pw_fb, rcv_X3 hK hP (q0 := 5) rfl, (pw_use hP hK hN [5] rfl [] rfl)⟩ rfl rfl hl.1 rfl (lv_room (Nat.le_of_ble_eq_true rfl)) dX9_paste_87 ⟨lel 0 0 rfl, lel 0 0 rfl⟩) (fun r_415 h_r_415 => ?_)
                  obtain ⟨b_r_415, nz_r_415, zz_r_415⟩ := h_r_415
                  have b_r_415 : (0 : Int) ≤ r_415.toInt ∧ r_415.toInt ≤ 1 := b_r_415
                  refine lv_if_ne (tgt := 96) hx hb dX9_paste_90 (by decide) (fun c_416 => ?_) (fun c_416 => ?_)
                  ·
                    have n_c_416 : (r_415.toInt : Int) ≠ 0 := c_ne rfl (by decide) c_416
                    have b_r_415 : (1 : Int) ≤ r_415.toInt ∧ r_415.toInt ≤ 1 := r_ne1 b_r_415 (by decide : (0 : Int) ≤ (0 : Int32).toInt ∧ (0 : Int32).toInt ≤ 0) n_c_416 (by decide)
                    obtain ⟨b_a4, b_a5, g_417⟩ := nz_r_415 c_416
                    refine lv_aload hx hb dX9_paste_96 (lv_at hl 0 rfl) ?_
                    refine lv_iload hx hb dX9_paste_98 (lv_at hl 6 rfl) ?_
                    refine lv_aload hx hb dX9_paste_100 (lv_at hl 1 rfl) ?_
                    refine lv_iload_n hx hb dX9_paste_102 rfl (lv_at hl 4 rfl) ?_
                    refine lv_iload hx hb dX9_paste_103 (lv_at hl 7 rfl) ?_
                    have hFc := va_free (wc := [(s3, .inr (2, [.int wd3, .int rz3, .ref n3])), (n3, .inl (cJ3, 60, .inr (.inl g3))), (s0, .inr (2, [.int wd0, .int rz0, .ref n0])), (n0, .inl (cJ0, 60, .inr (.inl g0)))]) hD hS hA [5, 9, 2, 6] rfl
                    refine va_callv (va_runV (As := [.int a4, .ref s0, .int a2, .int a5]) (rest := []) ⟨hx, hb, hml, hown, hts⟩ (kX3_take l dC dI s3 wd3 rz3 n3 cJ3 g3 s0 wd0 rz0 n0 cJ0 g0 a4 a2 a5 (s.heap.size) (rg_w b_wd3 (by decide) (by decide)) b_rz3 (rg_w b_wd0 (by decide) (by decide)) b_rz0) (cwV 4 hts gX9_pasteF__X3_take_V353 rfl rfl rfl hd_yX3_take ⟨lel 2 2 rfl, lel 88 88 rfl⟩) ⟨hw_fb, rcv_X3 hK hP (q0 := 5) rfl, (hw_use hP hD hK hN [5, 9, 2, 6] rfl (by decide) rfl [4, 1] rfl)⟩ rfl rfl hl.1 rfl (lv_room (Nat.le_of_ble_eq_true rfl)) dX9_paste_105 ⟨lel 0 0 rfl, lel 0 0 rfl⟩) hS (fun q _ h => hFc q h) hFc (fun u_419 t H1 locs ht hvm hw_r_418 hB hz1 hk1 hS => ?_)
                    obtain ⟨o0_420, hP1, hK1, hD1⟩ := hB
                    rw [ht] at hP1
                    have hK1 := va_K.moved hvm.symm hK1
                    obtain ⟨hP, hD⟩ := va_join (wr := [(h0, .inr (7, [.ref tp, .ref sc, .ref rd, .ref cu, .ref im, .ref ig, .ref sl, .ref se, .ref sm, .ref fc])), (sl, .inl (cS, 4, .inr (.inr (.inr (.inr (sf4 s0 s1 s2 s3)))))), (s1, .inr (2, [.int wd1, .int rz1, .ref n1])), (s2, .inr (2, [.int wd2, .int rz2, .ref n2])), (n1, .inl (cJ1, 60, .inr (.inl g1))), (n2, .inl (cJ2, 60, .inr (.inl g2)))]) (w1 := [(s3, .inr (2, [.int wd3, .int rz3, .ref n3])), (n3, .inl (cJ3, 60, .inr (.inl o0_420))), (s0, .inr (2, [.int wd0, .int rz0, .ref n0])), (n0, .inl (cJ0, 60, .inr (.inl g0)))]) hP hD [5, 9, 2, 6] [0, 1, 3, 4, 7, 8] rfl rfl (by decide) (by decide) hk1 hFc hP1 hD1
                    have hK := (hK.sub (tys' := [(cS, .object RX3), (cJ1, .long), (cJ2, .long)]) [0, 2, 3] rfl).app hK1
                    generalize H1 = H at hP hS ⊢
                    have hP := hP.sub (ws' := [(h0, .inr (7, [.ref tp, .ref sc, .ref rd, .ref cu, .ref im, .ref ig, .ref sl, .ref se, .ref sm, .ref fc])), (sl, .inl (cS, 4, .inr (.inr (.inr (.inr (sf4 s0 s1 s2 s3)))))), (s0, .inr (2, [.int wd0, .int rz0, .ref n0])), (s1, .inr (2, [.int wd1, .int rz1, .ref n1])), (s2, .inr (2, [.int wd2, .int rz2, .ref n2])), (s3, .inr (2, [.int wd3, .int rz3, .ref n3])), (n0, .inl (cJ0, 60, .inr (.inl g0))), (n1, .inl (cJ1, 60, .inr (.inl g1))), (n2, .inl (cJ2, 60, .inr (.inl g2))), (n3, .inl (cJ3, 60, .inr (.inl o0_420)))]) [0, 1, 8, 2, 3, 6, 9, 4, 5, 7] rfl
                    have hD := hD.sub (ws' := [(h0, .inr (7, [.ref tp, .ref sc, .ref rd, .ref cu, .ref im, .ref ig, .ref sl, .ref se, .ref sm, .ref fc])), (sl, .inl (cS, 4, .inr (.inr (.inr (.inr (sf4 s0 s1 s2 s3)))))), (s0, .inr (2, [.int wd0, .int rz0, .ref n0])), (s1, .inr (2, [.int wd1, .int rz1, .ref n1])), (s2, .inr (2, [.int wd2, .int rz2, .ref n2])), (s3, .inr (2, [.int wd3, .int rz3, .ref n3])), (n0, .inl (cJ0, 60, .inr (.inl g0))), (n1, .inl (cJ1, 60, .inr (.inl g1))), (n2, .inl (cJ2, 60, .inr (.inl g2))), (n3, .inl (cJ3, 60, .inr (.inl o0_420)))]) [0, 1, 8, 2, 3, 6, 9, 4, 5, 7] (by decide) rfl
                    have hK := hK.sub (tys' := [(cS, .object RX3), (cJ0, .long), (cJ1, .long), (cJ2, .long), (cJ3, .long)]) [0, 4, 1, 2, 3] rfl
                    have hP : va_P (dC, dI) vwCl [(h0, .inr (7, [.ref tp, .ref sc, .ref rd, .ref cu, .ref im, .ref ig, .ref sl, .ref se, .ref sm, .ref fc])), (sl, .inl (cS, 4, .inr (.inr (.inr (.inr (sf4 s0 s1 s2 s3)))))), (s0, .inr (2, [.int wd0, .int rz0, .ref n0])), (s1, .inr (2, [.int wd1, .int rz1, .ref n1])), (s2, .inr (2, [.int wd2, .int rz2, .ref n2])), (s3, .inr (2, [.int wd3, .int rz3, .ref n3])), (n0, .inl (cJ0, 60, .inr (.inl g0))), (n1, .inl (cJ1, 60, .inr (.inl g1))), (n2, .inl (cJ2, 60, .inr (.inl g2))), (n3, .inl (cJ3, 60, .inr (.inl o0_420)))] H := hP
                    have hD : va_D A [(h0, .inr (7, [.ref tp, .ref sc, .ref rd, .ref cu, .ref im, .ref ig, .ref sl, .ref se, .ref sm, .ref fc])), (sl, .inl (cS, 4, .inr (.inr (.inr (.inr (sf4 s0 s1 s2 s3)))))), (s0, .inr (2, [.int wd0, .int rz0, .ref n0])), (s1, .inr (2, [.int wd1, .int rz1, .ref n1])), (s2, .inr (2, [.int wd2, .int rz2, .ref n2])), (s3, .inr (2, [.int wd3, .int rz3, .ref n3])), (n0, .inl (cJ0, 60, .inr (.inl g0))), (n1, .inl (cJ1, 60, .inr (.inl g1))), (n2, .inl (cJ2, 60, .inr (.inl g2))), (n3, .inl (cJ3, 60, .inr (.inl o0_420)))] := hD
                    have hK : va_K (dC, dI) vwCl [(cS, .object RX3), (cJ0, .long), (cJ1, .long), (cJ2, .long), (cJ3, .long)] s := hK
                    refine lv_iconst (v := 0) hx hb dX9_paste_108 (by decide) ?_
                    have hP9 := hP.sub (ws' := [(h0, .inr (7, [.ref tp, .ref sc, .ref rd, .ref cu, .ref im, .ref ig, .ref sl, .ref se, .ref sm, .ref fc])), (sl, .inl (cS, 4, .inr (.inr (.inr (.inr (sf4 s0 s1 s2 s3)))))), (s0, .inr (2, [.int wd0, .int rz0, .ref n0])), (s1, .inr (2, [.int wd1, .int rz1, .ref n1])), (s2, .inr (2, [.int wd2, .int rz2, .ref n2])), (s3, .inr (2, [.int wd3, .int rz3, .ref n3])), (n0, .inl (cJ0, 60, .inr (.inl g0))), (n1, .inl (cJ1, 60, .inr (.inl g1))), (n2, .inl (cJ2, 60, .inr (.inl g2))), (n3, .inl (cJ3, 60, .inr (.inl o0_420)))]) [0, 1, 2, 3, 4, 5, 6, 7, 8, 9] rfl
                    have hD9 := hD.sub (ws' := [(h0, .inr (7, [.ref tp, .ref sc, .ref rd, .ref cu, .ref im, .ref ig, .ref sl, .ref se, .ref sm, .ref fc])), (sl, .inl (cS, 4, .inr (.inr (.inr (.inr (sf4 s0 s1 s2 s3)))))), (s0, .inr (2, [.int wd0, .int rz0, .ref n0])), (s1, .inr (2, [.int wd1, .int rz1, .ref n1])), (s2, .inr (2, [.int wd2, .int rz2, .ref n2])), (s3, .inr (2, [.int wd3, .int rz3, .ref n3])), (n0, .inl (cJ0, 60, .inr (.inl g0))), (n1, .inl (cJ1, 60, .inr (.inl g1))), (n2, .inl (cJ2, 60, .inr (.inl g2))), (n3, .inl (cJ3, 60, .inr (.inl o0_420)))]) [0, 1, 2, 3, 4, 5, 6, 7, 8, 9] (by decide) rfl
                    have hK9 := hK.sub (tys' := [(cS, .object RX3), (cJ0, .long), (cJ1, .long), (cJ2, .long), (cJ3, .long)]) [0, 1, 2, 3, 4] rfl
                    exact W.iret (v := 0) hx hb hr (fun t ht hW => ⟨⟨0, (), rfl, ⟨(rg_w (by decide : (0 : Int) ≤ (0 : Int32).toInt ∧ (0 : Int32).toInt ≤ 0) (by decide) (by decide)), (ps_0 (j := 0) (t := 3) (by decide) (by decide) (by decide) (by have q0 := hg9_0; unfold RG at q0; have q3 := hg9_3; unfold RG at q3; omega) (by have q0 := hg9_0; unfold RG at q0; have q3 := hg9_3; unfold RG at q3; omega) (by have q0 := hg9_0; unfold RG at q0; have q3 := hg9_3; unfold RG at q3; omega))⟩, g0, g1, g2, o0_420, by rw [ht]; exact hP9, va_K.moved hW.alike hK9, hD9⟩, hS.F ht⟩) hS.2.2 dX9_paste_109
                  ·
                    have n_c_416 : (r_415.toInt : Int) = 0 := c_eq rfl (by decide) c_416
                    have b_r_415 : (0 : Int) ≤ r_415.toInt ∧ r_415.toInt ≤ 0 := r_eq1 b_r_415 (by decide : (0 : Int) ≤ (0 : Int32).toInt ∧ (0 : Int32).toInt ≤ 0) n_c_416 (by decide)
                    have g_421 := zz_r_415 c_416
                    refine lv_bipush (v := (-7)) hx hb dX9_paste_93 (by decide) ?_
                    have hP9 := hP.sub (ws' := [(h0, .inr (7, [.ref tp, .ref sc, .ref rd, .ref cu, .ref im, .ref ig, .ref sl, .ref se, .ref sm, .ref fc])), (sl, .inl (cS, 4, .inr (.inr (.inr (.inr (sf4 s0 s1 s2 s3)))))), (s0, .inr (2, [.int wd0, .int rz0, .ref n0])), (s1, .inr (2, [.int wd1, .int rz1, .ref n1])), (s2, .inr (2, [.int wd2, .int rz2, .ref n2])), (s3, .inr (2, [.int wd3, .int rz3, .ref n3])), (n0, .inl (cJ0, 60, .inr (.inl g0))), (n1, .inl (cJ1, 60, .inr (.inl g1))), (n2, .inl (cJ2, 60, .inr (.inl g2))), (n3, .inl (cJ3, 60, .inr (.inl g3)))]) [0, 1, 2, 3, 4, 5, 6, 7, 8, 9] rfl
                    have hD9 := hD.sub (ws' := [(h0, .inr (7, [.ref tp, .ref sc, .ref rd, .ref cu, .ref im, .ref ig, .ref sl, .ref se, .ref sm, .ref fc])), (sl, .inl (cS, 4, .inr (.inr (.inr (.inr (sf4 s0 s1 s2 s3)))))), (s0, .inr (2, [.int wd0, .int rz0, .ref n0])), (s1, .inr (2, [.int wd1, .int rz1, .ref n1])), (s2, .inr (2, [.int wd2, .int rz2, .ref n2])), (s3, .inr (2, [.int wd3, .int rz3, .ref n3])), (n0, .inl (cJ0, 60, .inr (.inl g0))), (n1, .inl (cJ1, 60, .inr (.inl g1))), (n2, .inl (cJ2, 60, .inr (.inl g2))), (n3, .inl (cJ3, 60, .inr (.inl g3)))]) [0, 1, 2, 3, 4, 5, 6, 7, 8, 9] (by decide) rfl
                    have hK9 := hK.sub (tys' := [(cS, .object RX3), (cJ0, .long), (cJ1, .long), (cJ2, .long), (cJ3, .long)]) [0, 1, 2, 3, 4] rfl
                    exact W.iret (v := (-7)) hx hb hr (fun t ht hW => ⟨⟨(-7), (), rfl, ⟨(rg_w (by decide : (-7 : Int) ≤ ((-7) : Int32).toInt ∧ ((-7) : Int32).toInt ≤ -7) (by decide) (by decide)), (ps_7 (j := 0) (t := 3) (by decide) (by decide) (by decide) (by have q0 := hg9_0; unfold RG at q0; have q3 := hg9_3; unfold RG at q3; omega) (by have q0 := hg9_0; unfold RG at q0; have q3 := hg9_3; unfold RG at q3; omega) (by have q0 := hg9_0; unfold RG at q0; have q3 := hg9_3; unfold RG at q3; omega))⟩, g0, g1, g2, g3, by rw [ht]; exact hP9, va_K.moved hW.alike hK9, hD9⟩, hS.F ht⟩) hS.2.2 dX9_paste_95
              ·
                have n_c_410 : (wd0.toInt : Int) ≠ wd3.toInt := c_ne rfl rfl c_410
                refine lv_bipush (v := (-8)) hx hb dX9_paste_67 (by decide) ?_
                have hP9 := hP.sub (ws' := [(h0, .inr (7, [.ref tp, .ref sc, .ref rd, .ref cu, .ref im, .ref ig, .ref sl, .ref se, .ref sm, .ref fc])), (sl, .inl (cS, 4, .inr (.inr (.inr (.inr (sf4 s0 s1 s2 s3)))))), (s0, .inr (2, [.int wd0, .int rz0, .ref n0])), (s1, .inr (2, [.int wd1, .int rz1, .ref n1])), (s2, .inr (2, [.int wd2, .int rz2, .ref n2])), (s3, .inr (2, [.int wd3, .int rz3, .ref n3])), (n0, .inl (cJ0, 60, .inr (.inl g0))), (n1, .inl (cJ1, 60, .inr (.inl g1))), (n2, .inl (cJ2, 60, .inr (.inl g2))), (n3, .inl (cJ3, 60, .inr (.inl g3)))]) [0, 1, 2, 3, 4, 5, 6, 7, 8, 9] rfl
                have hD9 := hD.sub (ws' := [(h0, .inr (7, [.ref tp, .ref sc, .ref rd, .ref cu, .ref im, .ref ig, .ref sl, .ref se, .ref sm, .ref fc])), (sl, .inl (cS, 4, .inr (.inr (.inr (.inr (sf4 s0 s1 s2 s3)))))), (s0, .inr (2, [.int wd0, .int rz0, .ref n0])), (s1, .inr (2, [.int wd1, .int rz1, .ref n1])), (s2, .inr (2, [.int wd2, .int rz2, .ref n2])), (s3, .inr (2, [.int wd3, .int rz3, .ref n3])), (n0, .inl (cJ0, 60, .inr (.inl g0))), (n1, .inl (cJ1, 60, .inr (.inl g1))), (n2, .inl (cJ2, 60, .inr (.inl g2))), (n3, .inl (cJ3, 60, .inr (.inl g3)))]) [0, 1, 2, 3, 4, 5, 6, 7, 8, 9] (by decide) rfl
                have hK9 := hK.sub (tys' := [(cS, .object RX3), (cJ0, .long), (cJ1, .long), (cJ2, .long), (cJ3, .long)]) [0, 1, 2, 3, 4] rfl
                exact W.iret (v := (-8)) hx hb hr (fun t ht hW => ⟨⟨(-8), (), rfl, ⟨(rg_w (by decide : (-8 : Int) ≤ ((-8) : Int32).toInt ∧ ((-8) : Int32).toInt ≤ -8) (by decide) (by decide)), (ps_8 (j := 0) (t := 3) (by decide) (by decide) (by decide) (by have q0 := hg9_0; unfold RG at q0; have q3 := hg9_3; unfold RG at q3; omega) (by have q0 := hg9_0; unfold RG at q0; have q3 := hg9_3; unfold RG at q3; omega))⟩, g0, g1, g2, g3, by rw [ht]; exact hP9, va_K.moved hW.alike hK9, hD9⟩, hS.F ht⟩) hS.2.2 dX9_paste_69
            ·
              have n_c_408 : (r_407.toInt : Int) = 0 := c_eq rfl (by decide) c_408
              have b_r_407 : (0 : Int) ≤ r_407.toInt ∧ r_407.toInt ≤ 0 := r_eq1 b_r_407 (by decide : (0 : Int) ≤ (0 : Int32).toInt ∧ (0 : Int32).toInt ≤ 0) n_c_408 (by decide)
              have g_422 := zz_r_407 c_408
              refine lv_bipush (v := (-6)) hx hb dX9_paste_51 (by decide) ?_
              have hP9 := hP.sub (ws' := [(h0, .inr (7, [.ref tp, .ref sc, .ref rd, .ref cu, .ref im, .ref ig, .ref sl, .ref se, .ref sm, .ref fc])), (sl, .inl (cS, 4, .inr (.inr (.inr (.inr (sf4 s0 s1 s2 s3)))))), (s0, .inr (2, [.int wd0, .int rz0, .ref n0])), (s1, .inr (2, [.int wd1, .int rz1, .ref n1])), (s2, .inr (2, [.int wd2, .int rz2, .ref n2])), (s3, .inr (2, [.int wd3, .int rz3, .ref n3])), (n0, .inl (cJ0, 60, .inr (.inl g0))), (n1, .inl (cJ1, 60, .inr (.inl g1))), (n2, .inl (cJ2, 60, .inr (.inl g2))), (n3, .inl (cJ3, 60, .inr (.inl g3)))]) [0, 1, 2, 3, 4, 5, 6, 7, 8, 9] rfl
              have hD9 := hD.sub (ws' := [(h0, .inr (7, [.ref tp, .ref sc, .ref rd, .ref cu, .ref im, .ref ig, .ref sl, .ref se, .ref sm, .ref fc])), (sl, .inl (cS, 4, .inr (.inr (.inr (.inr (sf4 s0 s1 s2 s3)))))), (s0, .inr (2, [.int wd0, .int rz0, .ref n0])), (s1, .inr (2, [.int wd1, .int rz1, .ref n1])), (s2, .inr (2, [.int wd2, .int rz2, .ref n2])), (s3, .inr (2, [.int wd3, .int rz3, .ref n3])), (n0, .inl (cJ0, 60, .inr (.inl g0))), (n1, .inl (cJ1, 60, .inr (.inl g1))), (n2, .inl (cJ2, 60, .inr (.inl g2))), (n3, .inl (cJ3, 60, .inr (.inl g3)))]) [0, 1, 2, 3, 4, 5, 6, 7, 8, 9] (by decide) rfl
              have hK9 := hK.sub (tys' := [(cS, .object RX3), (cJ0, .long), (cJ1, .long), (cJ2, .long), (cJ3, .long)]) [0, 1, 2, 3, 4] rfl
              exact W.iret (v := (-6)) hx hb hr (fun t ht hW => ⟨⟨(-6), (), rfl, ⟨(rg_w (by decide : (-6 : Int) ≤ ((-6) : Int32).toInt ∧ ((-6) : Int32).toInt ≤ -6) (by decide) (by decide)), (ps_6 (j := 0) (t := 3) (by decide) (by decide) (by decide) (by have q0 := hg9_0; unfold RG at q0; have q3 := hg9_3; unfold RG at q3; omega))⟩, g0, g1, g2, g3, by rw [ht]; exact hP9, va_K.moved hW.alike hK9, hD9⟩, hS.F ht⟩) hS.2.2 dX9_paste_53
      ·
        obtain rfl : a1 = 1 := Int32.toInt_inj.mp (h_341.trans (by decide))
        refine va_aldq hx hb hK hP 1 0 rfl rfl (vp_in_b (by decide : (1 : Int) ≤ (1 : Int32).toInt ∧ (1 : Int32).toInt ≤ 1) (by decide) (by decide)) dX9_paste_24 ?_
        refine W.eq (g2 := F0 m 25 ls (.ref s1 :: [])) (congrArg (fun v => F0 m 25 ls (va_rf v :: [])) (sf4_1 s0 s1 s2 s3)) ?_
        refine lv_astore (lv' := [(6, .ref s1), (0, .ref h0), (1, .int 1), (2, .int a2), (3, .int a3), (4, .int a4), (5, .int a5)]) hx hb dX9_paste_25 hl (by decide) rfl (fun ls hl => ?_)
        refine lv_aload_n hx hb dX9_paste_27 rfl (lv_at hl 1 rfl) ?_
        refine va_get (D := (dC, dI)) (ci := 7) (v := .ref sl) (C := RX9) (T := TX9) (N := 10) hx hb hts iX9_pasteF_X9 hown hK hP 0 rfl rfl 6 (by decide) (hts (.fieldLink RX9 50 "LuckyTicket" "slots" "[LLuckyTicket$Row;") (List.mem_of_getElem? (i := 5) rfl)) (fun _ h9 => h9) rfl dX9_paste_28 ?_
        refine lv_iload_n hx hb dX9_paste_31 rfl (lv_at hl 4 rfl) ?_
        rcases (show a3.toInt = 0 ∨ a3.toInt = 1 ∨ a3.toInt = 2 ∨ a3.toInt = 3 by omega) with h_423 | h_423 | h_423 | h_423
        ·
          obtain rfl : a3 = 0 := Int32.toInt_inj.mp (h_423.trans (by decide))
          refine va_aldq hx hb hK hP 1 0 rfl rfl (vp_in_b (by decide : (0 : Int) ≤ (0 : Int32).toInt ∧ (0 : Int32).toInt ≤ 0) (by decide) (by decide)) dX9_paste_32 ?_
          refine W.eq (g2 := F0 m 33 ls (.ref s0 :: [])) (congrArg (fun v => F0 m 33 ls (va_rf v :: [])) (sf4_0 s0 s1 s2 s3)) ?_
          refine lv_astore (lv' := [(7, .ref s0), (6, .ref s1), (0, .ref h0), (1, .int 1), (2, .int a2), (3, .int 0), (4, .int a4), (5, .int a5)]) hx hb dX9_paste_33 hl (by decide) rfl (fun ls hl => ?_)
          refine lv_aload hx hb dX9_paste_35 (lv_at hl 1 rfl) ?_
          refine vp_callSi (W.runV (As := []) (rest := []) ⟨hx, hb, hml, hown, hts⟩ (kX3_stands2 l dC dI s1 wd1 rz1 n1 b_wd1 b_rz1) (cwV 0 hts gX9_pasteF__X3_stands2_V270 rfl rfl rfl hd_yX3_stands ⟨lel 1 2 rfl, lel 20 88 rfl⟩) ⟨pw_fb, rcv_X3 hK hP (q0 := 3) rfl, (pw_use hP hK hN [3] rfl [] rfl)⟩ rfl rfl hl.1 rfl (lv_room (Nat.le_of_ble_eq_true rfl)) dX9_paste_37 ⟨lel 0 0 rfl, lel 0 0 rfl⟩) (fun r_424 h_r_424 => ?_)
          obtain ⟨b_r_424, nz_r_424, zz_r_424⟩ := h_r_424
          have b_r_424 : (0 : Int) ≤ r_424.toInt ∧ r_424.toInt ≤ 1 := b_r_424
          refine lv_if_eq (tgt := 51) hx hb dX9_paste_40 (by decide) (fun c_425 => ?_) (fun c_425 => ?_)
          ·
            have n_c_425 : (r_424.toInt : Int) = 0 := c_eq rfl (by decide) c_425
            have b_r_424 : (0 : Int) ≤ r_424.toInt ∧ r_424.toInt ≤ 0 := r_eq1 b_r_424 (by decide : (0 : Int) ≤ (0 : Int32).toInt ∧ (0 : Int32).toInt ≤ 0) n_c_425 (by decide)
            have g_426 := zz_r_424 c_425
            refine lv_bipush (v := (-6)) hx hb dX9_paste_51 (by decide) ?_
            have hP9 := hP.sub (ws' := [(h0, .inr (7, [.ref tp, .ref sc, .ref rd, .ref cu, .ref im, .ref ig, .ref sl, .ref se, .ref sm, .ref fc])), (sl, .inl (cS, 4, .inr (.inr (.inr (.inr (sf4 s0 s1 s2 s3)))))), (s0, .inr (2, [.int wd0, .int rz0, .ref n0])), (s1, .inr (2, [.int wd1, .int rz1, .ref n1])), (s2, .inr (2, [.int wd2, .int rz2, .ref n2])), (s3, .inr (2, [.int wd3, .int rz3, .ref n3])), (n0, .inl (cJ0, 60, .inr (.inl g0))), (n1, .inl (cJ1, 60, .inr (.inl g1))), (n2, .inl (cJ2, 60, .inr (.inl g2))), (n3, .inl (cJ3, 60, .inr (.inl g3)))]) [0, 1, 2, 3, 4, 5, 6, 7, 8, 9] rfl
            have hD9 := hD.sub (ws' := [(h0, .inr (7, [.ref tp, .ref sc, .ref rd, .ref cu, .ref im, .ref ig, .ref sl, .ref se, .ref sm, .ref fc])), (sl, .inl (cS, 4, .inr (.inr (.inr (.inr (sf4 s0 s1 s2 s3)))))), (s0, .inr (2, [.int wd0, .int rz0, .ref n0])), (s1, .inr (2, [.int wd1, .int rz1, .ref n1])), (s2, .inr (2, [.int wd2, .int rz2, .ref n2])), (s3, .inr (2, [.int wd3, .int rz3, .ref n3])), (n0, .inl (cJ0, 60, .inr (.inl g0))), (n1, .inl (cJ1, 60, .inr (.inl g1))), (n2, .inl (cJ2, 60, .inr (.inl g2))), (n3, .inl (cJ3, 60, .inr (.inl g3)))]) [0, 1, 2, 3, 4, 5, 6, 7, 8, 9] (by decide) rfl
            have hK9 := hK.sub (tys' := [(cS, .object RX3), (cJ0, .long), (cJ1, .long), (cJ2, .long), (cJ3, .long)]) [0, 1, 2, 3, 4] rfl
            exact W.iret (v := (-6)) hx hb hr (fun t ht hW => ⟨⟨(-6), (), rfl, ⟨(rg_w (by decide : (-6 : Int) ≤ ((-6) : Int32).toInt ∧ ((-6) : Int32).toInt ≤ -6) (by decide) (by decide)), (ps_6 (j := 1) (t := 0) (by decide) (by decide) (by decide) (by have q0 := hg9_0; unfold RG at q0; have q1 := hg9_1; unfold RG at q1; omega))⟩, g0, g1, g2, g3, by rw [ht]; exact hP9, va_K.moved hW.alike hK9, hD9⟩, hS.F ht⟩) hS.2.2 dX9_paste_53
          ·
            have n_c_425 : (r_424.toInt : Int) ≠ 0 := c_ne rfl (by decide) c_425
            have b_r_424 : (1 : Int) ≤ r_424.toInt ∧ r_424.toInt ≤ 1 := r_ne1 b_r_424 (by decide : (0 : Int) ≤ (0 : Int32).toInt ∧ (0 : Int32).toInt ≤ 0) n_c_425 (by decide)
            obtain ⟨b_wd1, g_427⟩ := nz_r_424 c_425
            refine lv_aload hx hb dX9_paste_43 (lv_at hl 0 rfl) ?_
            refine vp_callSi (W.runV (As := []) (rest := []) ⟨hx, hb, hml, hown, hts⟩ (kX3_stands2 l dC dI s0 wd0 rz0 n0 b_wd0 b_rz0) (cwV 0 hts gX9_pasteF__X3_stands2_V270 rfl rfl rfl hd_yX3_stands ⟨lel 1 2 rfl, lel 20 88 rfl⟩) ⟨pw_fb, rcv_X3 hK hP (q0 := 2) rfl, (pw_use hP hK hN [2] rfl [] rfl)⟩ rfl rfl hl.1 rfl (lv_room (Nat.le_of_ble_eq_true rfl)) dX9_paste_45 ⟨lel 0 0 rfl, lel 0 0 rfl⟩) (fun r_428 h_r_428 => ?_)
            obtain ⟨b_r_428, nz_r_428, zz_r_428⟩ := h_r_428
            have b_r_428 : (0 : Int) ≤ r_428.toInt ∧ r_428.toInt ≤ 1 := b_r_428
            refine lv_if_ne (tgt := 54) hx hb dX9_paste_48 (by decide) (fun c_429 => ?_) (fun c_429 => ?_)
            ·
              have n_c_429 : (r_428.toInt : Int) ≠ 0 := c_ne rfl (by decide) c_429
              have b_r_428 : (1 : Int) ≤ r_428.toInt ∧ r_428.toInt ≤ 1 := r_ne1 b_r_428 (by decide : (0 : Int) ≤ (0 : Int32).toInt ∧ (0 : Int32).toInt ≤ 0) n_c_429 (by decide)
              obtain ⟨b_wd0, g_430⟩ := nz_r_428 c_429
              refine lv_aload hx hb dX9_paste_54 (lv_at hl 1 rfl) ?_
              refine va_getN (own := RX9) (index := 350) (ref := RX3) (host := RX9) (D := (dC, dI)) (ci := 2) (v := .int wd1) (C := RX3) (T := TX3) (N := 3) hx hb hts iX9_pasteF_X3 hown hK hP 3 rfl rfl 0 (by decide) (va_Nw.use rfl (hN _ (List.mem_of_getElem? (i := 21) rfl))) (fun _ h9 => h9) rfl dX9_paste_56 ?_
              refine lv_aload hx hb dX9_paste_59 (lv_at hl 0 rfl) ?_
              refine va_getN (own := RX9) (index := 350) (ref := RX3) (host := RX9) (D := (dC, dI)) (ci := 2) (v := .int wd0) (C := RX3) (T := TX3) (N := 3) hx hb hts iX9_pasteF_X3 hown hK hP 2 rfl rfl 0 (by decide) (va_Nw.use rfl (hN _ (List.mem_of_getElem? (i := 21) rfl))) (fun _ h9 => h9) rfl dX9_paste_61 ?_
              refine lv_icmp_eq (tgt := 70) hx hb dX9_paste_64 (by decide) (fun c_431 => ?_) (fun c_431 => ?_)
              ·
                have n_c_431 : (wd1.toInt : Int) = wd0.toInt := c_eq rfl rfl c_431
                refine lv_aload hx hb dX9_paste_70 (lv_at hl 1 rfl) ?_
                refine lv_iload_n hx hb dX9_paste_72 rfl (lv_at hl 4 rfl) ?_
                refine lv_iload hx hb dX9_paste_73 (lv_at hl 7 rfl) ?_
                refine vp_callSi (W.runV (As := [.int a2, .int a5]) (rest := []) ⟨hx, hb, hml, hown, hts⟩ (kX3_hasStretch2 l dC dI s1 wd1 rz1 n1 a2 a5 (rg_w b_wd1 (by decide) (by decide)) b_rz1) (cwV 2 hts gX9_pasteF__X3_hasStretch2_V343 rfl rfl rfl hd_yX3_hasStretch ⟨lel 1 2 rfl, lel 22 88 rfl⟩) ⟨pw_fb, rcv_X3 hK hP (q0 := 3) rfl, (pw_use hP hK hN [3] rfl [] rfl)⟩ rfl rfl hl.1 rfl (lv_room (Nat.le_of_ble_eq_true rfl)) dX9_paste_75 ⟨lel 0 0 rfl, lel 0 0 rfl⟩) (fun r_432 h_r_432 => ?_)
                obtain ⟨b_r_432, nz_r_432, zz_r_432⟩ := h_r_432
                have b_r_432 : (0 : Int) ≤ r_432.toInt ∧ r_432.toInt ≤ 1 := b_r_432
                refine lv_if_eq (tgt := 93) hx hb dX9_paste_78 (by decide) (fun c_433 => ?_) (fun c_433 => ?_)
                ·
                  have n_c_433 : (r_432.toInt : Int) = 0 := c_eq rfl (by decide) c_433
                  have b_r_432 : (0 : Int) ≤ r_432.toInt ∧ r_432.toInt ≤ 0 := r_eq1 b_r_432 (by decide : (0 : Int) ≤ (0 : Int32).toInt ∧ (0 : Int32).toInt ≤ 0) n_c_433 (by decide)
                  have g_434 := zz_r_432 c_433
                  refine lv_bipush (v := (-7)) hx hb dX9_paste_93 (by decide) ?_
                  have hP9 := hP.sub (ws' := [(h0, .inr (7, [.ref tp, .ref sc, .ref rd, .ref cu, .ref im, .ref ig, .ref sl, .ref se, .ref sm, .ref fc])), (sl, .inl (cS, 4, .inr (.inr (.inr (.inr (sf4 s0 s1 s2 s3)))))), (s0, .inr (2, [.int wd0, .int rz0, .ref n0])), (s1, .inr (2, [.int wd1, .int rz1, .ref n1])), (s2, .inr (2, [.int wd2, .int rz2, .ref n2])), (s3, .inr (2, [.int wd3, .int rz3, .ref n3])), (n0, .inl (cJ0, 60, .inr (.inl g0))), (n1, .inl (cJ1, 60, .inr (.inl g1))), (n2, .inl (cJ2, 60, .inr (.inl g2))), (n3, .inl (cJ3, 60, .inr (.inl g3)))]) [0, 1, 2, 3, 4, 5, 6, 7, 8, 9] rfl
                  have hD9 := hD.sub (ws' := [(h0, .inr (7, [.ref tp, .ref sc, .ref rd, .ref cu, .ref im, .ref ig, .ref sl, .ref se, .ref sm, .ref fc])), (sl, .inl (cS, 4, .inr (.inr (.inr (.inr (sf4 s0 s1 s2 s3)))))), (s0, .inr (2, [.int wd0, .int rz0, .ref n0])), (s1, .inr (2, [.int wd1, .int rz1, .ref n1])), (s2, .inr (2, [.int wd2, .int rz2, .ref n2])), (s3, .inr (2, [.int wd3, .int rz3, .ref n3])), (n0, .inl (cJ0, 60, .inr (.inl g0))), (n1, .inl (cJ1, 60, .inr (.inl g1))), (n2, .inl (cJ2, 60, .inr (.inl g2))), (n3, .inl (cJ3, 60, .inr (.inl g3)))]) [0, 1, 2, 3, 4, 5, 6, 7, 8, 9] (by decide) rfl
                  have hK9 := hK.sub (tys' := [(cS, .object RX3), (cJ0, .long), (cJ1, .long), (cJ2, .long), (cJ3, .long)]) [0, 1, 2, 3, 4] rfl
                  exact W.iret (v := (-7)) hx hb hr (fun t ht hW => ⟨⟨(-7), (), rfl, ⟨(rg_w (by decide : (-7 : Int) ≤ ((-7) : Int32).toInt ∧ ((-7) : Int32).toInt ≤ -7) (by decide) (by decide)), (ps_7 (j := 1) (t := 0) (by decide) (by decide) (by decide) (by have q0 := hg9_0; unfold RG at q0; have q1 := hg9_1; unfold RG at q1; omega) (by have q0 := hg9_0; unfold RG at q0; have q1 := hg9_1; unfold RG at q1; omega) (by have q0 := hg9_0; unfold RG at q0; have q1 := hg9_1; unfold RG at q1; omega))⟩, g0, g1, g2, g3, by rw [ht]; exact hP9, va_K.moved hW.alike hK9, hD9⟩, hS.F ht⟩) hS.2.2 dX9_paste_95
                ·
                  have n_c_433 : (r_432.toInt : Int) ≠ 0 := c_ne rfl (by decide) c_433
                  have b_r_432 : (1 : Int) ≤ r_432.toInt ∧ r_432.toInt ≤ 1 := r_ne1 b_r_432 (by decide : (0 : Int) ≤ (0 : Int32).toInt ∧ (0 : Int32).toInt ≤ 0) n_c_433 (by decide)
                  obtain ⟨b_a2, b_a5, g_435⟩ := nz_r_432 c_433
                  refine lv_aload hx hb dX9_paste_81 (lv_at hl 0 rfl) ?_
                  refine lv_iload hx hb dX9_paste_83 (lv_at hl 6 rfl) ?_
                  refine lv_iload hx hb dX9_paste_85 (lv_at hl 7 rfl) ?_
                  refine vp_callSi (W.runV (As := [.int a4, .int a5]) (rest := []) ⟨hx, hb, hml, hown, hts⟩ (kX3_hasStretch2 l dC dI s0 wd0 rz0 n0 a4 a5 (rg_w b_wd0 (by decide) (by decide)) b_rz0) (cwV 2 hts gX9_pasteF__X3_hasStretch2_V343 rfl rfl rfl hd_yX3_hasStretch ⟨lel 1 2 rfl, lel 22 88 rfl⟩) ⟨pw_fb, rcv_X3 hK hP (q0 := 2) rfl, (pw_use hP hK hN [2] rfl [] rfl)⟩ rfl rfl hl.1 rfl (lv_room (Nat.le_of_ble_eq_true rfl)) dX9_paste_87 ⟨lel 0 0 rfl, lel 0 0 rfl⟩) (fun r_436 h_r_436 => ?_)
                  obtain ⟨b_r_436, nz_r_436, zz_r_436⟩ := h_r_436
                  have b_r_436 : (0 : Int) ≤ r_436.toInt ∧ r_436.toInt ≤ 1 := b_r_436
                  refine lv_if_ne (tgt := 96) hx hb dX9_paste_90 (by decide) (fun c_437 => ?_) (fun c_437 => ?_)
                  ·
                    have n_c_437 : (r_436.toInt : Int) ≠ 0 := c_ne rfl (by decide) c_437
                    have b_r_436 : (1 : Int) ≤ r_436.toInt ∧ r_436.toInt ≤ 1 := r_ne1 b_r_436 (by decide : (0 : Int) ≤ (0 : Int32).toInt ∧ (0 : Int32).toInt ≤ 0) n_c_437 (by decide)
                    obtain ⟨b_a4, b_a5, g_438⟩ := nz_r_436 c_437
                    refine lv_aload hx hb dX9_paste_96 (lv_at hl 0 rfl) ?_
                    refine lv_iload hx hb dX9_paste_98 (lv_at hl 6 rfl) ?_
                    refine lv_aload hx hb dX9_paste_100 (lv_at hl 1 rfl) ?_
                    refine lv_iload_n hx hb dX9_paste_102 rfl (lv_at hl 4 rfl) ?_
                    refine lv_iload hx hb dX9_paste_103 (lv_at hl 7 rfl) ?_
                    have hFc := va_free (wc := [(s0, .inr (2, [.int wd0, .int rz0, .ref n0])), (n0, .inl (cJ0, 60, .inr (.inl g0))), (s1, .inr (2, [.int wd1, .int rz1, .ref n1])), (n1, .inl (cJ1, 60, .inr (.inl g1)))]) hD hS hA [2, 6, 3, 7] rfl
                    refine va_callv (va_runV (As := [.int a4, .ref s1, .int a2, .int a5]) (rest := []) ⟨hx, hb, hml, hown, hts⟩ (kX3_take l dC dI s0 wd0 rz0 n0 cJ0 g0 s1 wd1 rz1 n1 cJ1 g1 a4 a2 a5 (s.heap.size) (rg_w b_wd0 (by decide) (by decide)) b_rz0 (rg_w b_wd1 (by decide) (by decide)) b_rz1) (cwV 4 hts gX9_pasteF__X3_take_V353 rfl rfl rfl hd_yX3_take ⟨lel 2 2 rfl, lel 88 88 rfl⟩) ⟨hw_fb, rcv_X3 hK hP (q0 := 2) rfl, (hw_use hP hD hK hN [2, 6, 3, 7] rfl (by decide) rfl [1, 2] rfl)⟩ rfl rfl hl.1 rfl (lv_room (Nat.le_of_ble_eq_true rfl)) dX9_paste_105 ⟨lel 0 0 rfl, lel 0 0 rfl⟩) hS (fun q _ h => hFc q h) hFc (fun u_440 t H1 locs ht hvm hw_r_439 hB hz1 hk1 hS => ?_)
                    obtain ⟨o0_441, hP1, hK1, hD1⟩ := hB
                    rw [ht] at hP1
                    have hK1 := va_K.moved hvm.symm hK1
                    obtain ⟨hP, hD⟩ := va_join (wr := [(h0, .inr (7, [.ref tp, .ref sc, .ref rd, .ref cu, .ref im, .ref ig, .ref sl, .ref se, .ref sm, .ref fc])), (sl, .inl (cS, 4, .inr (.inr (.inr (.inr (sf4 s0 s1 s2 s3)))))), (s2, .inr (2, [.int wd2, .int rz2, .ref n2])), (s3, .inr (2, [.int wd3, .int rz3, .ref n3])), (n2, .inl (cJ2, 60, .inr (.inl g2))), (n3, .inl (cJ3, 60, .inr (.inl g3)))]) (w1 := [(s0, .inr (2, [.int wd0, .int rz0, .ref n0])), (n0, .inl (cJ0, 60, .inr (.inl o0_441))), (s1, .inr (2, [.int wd1, .int rz1, .ref n1])), (n1, .inl (cJ1, 60, .inr (.inl g1)))]) hP hD [2, 6, 3, 7] [0, 1, 4, 5, 8, 9] rfl rfl (by decide) (by decide) hk1 hFc hP1 hD1
                    have hK := (hK.sub (tys' := [(cS, .object RX3), (cJ2, .long), (cJ3, .long)]) [0, 3, 4] rfl).app hK1
                    generalize H1 = H at hP hS ⊢
                    have hP := hP.sub (ws' := [(h0, .inr (7, [.ref tp, .ref sc, .ref rd, .ref cu, .ref im, .ref ig, .ref sl, .ref se, .ref sm, .ref fc])), (sl, .inl (cS, 4, .inr (.inr (.inr (.inr (sf4 s0 s1 s2 s3)))))), (s0, .inr (2, [.int wd0, .int rz0, .ref n0])), (s1, .inr (2, [.int wd1, .int rz1, .ref n1])), (s2, .inr (2, [.int wd2, .int rz2, .ref n2])), (s3, .inr (2, [.int wd3, .int rz3, .ref n3])), (n0, .inl (cJ0, 60, .inr (.inl o0_441))), (n1, .inl (cJ1, 60, .inr (.inl g1))), (n2, .inl (cJ2, 60, .inr (.inl g2))), (n3, .inl (cJ3, 60, .inr (.inl g3)))]) [0, 1, 6, 8, 2, 3, 7, 9, 4, 5] rfl
                    have hD := hD.sub (ws' := [(h0, .inr (7, [.ref tp, .ref sc, .ref rd, .ref cu, .ref im, .ref ig, .ref sl, .ref se, .ref sm, .ref fc])), (sl, .inl (cS, 4, .inr (.inr (.inr (.inr (sf4 s0 s1 s2 s3)))))), (s0, .inr (2, [.int wd0, .int rz0, .ref n0])), (s1, .inr (2, [.int wd1, .int rz1, .ref n1])), (s2, .inr (2, [.int wd2, .int rz2, .ref n2])), (s3, .inr (2, [.int wd3, .int rz3, .ref n3])), (n0, .inl (cJ0, 60, .inr (.inl o0_441))), (n1, .inl (cJ1, 60, .inr (.inl g1))), (n2, .inl (cJ2, 60, .inr (.inl g2))), (n3, .inl (cJ3, 60, .inr (.inl g3)))]) [0, 1, 6, 8, 2, 3, 7, 9, 4, 5] (by decide) rfl
                    have hK := hK.sub (tys' := [(cS, .object RX3), (cJ0, .long), (cJ1, .long), (cJ2, .long), (cJ3, .long)]) [0, 3, 4, 1, 2] rfl
                    have hP : va_P (dC, dI) vwCl [(h0, .inr (7, [.ref tp, .ref sc, .ref rd, .ref cu, .ref im, .ref ig, .ref sl, .ref se, .ref sm, .ref fc])), (sl, .inl (cS, 4, .inr (.inr (.inr (.inr (sf4 s0 s1 s2 s3)))))), (s0, .inr (2, [.int wd0, .int rz0, .ref n0])), (s1, .inr (2, [.int wd1, .int rz1, .ref n1])), (s2, .inr (2, [.int wd2, .int rz2, .ref n2])), (s3, .inr (2, [.int wd3, .int rz3, .ref n3])), (n0, .inl (cJ0, 60, .inr (.inl o0_441))), (n1, .inl (cJ1, 60, .inr (.inl g1))), (n2, .inl (cJ2, 60, .inr (.inl g2))), (n3, .inl (cJ3, 60, .inr (.inl g3)))] H := hP
                    have hD : va_D A [(h0, .inr (7, [.ref tp, .ref sc, .ref rd, .ref cu, .ref im, .ref ig, .ref sl, .ref se, .ref sm, .ref fc])), (sl, .inl (cS, 4, .inr (.inr (.inr (.inr (sf4 s0 s1 s2 s3)))))), (s0, .inr (2, [.int wd0, .int rz0, .ref n0])), (s1, .inr (2, [.int wd1, .int rz1, .ref n1])), (s2, .inr (2, [.int wd2, .int rz2, .ref n2])), (s3, .inr (2, [.int wd3, .int rz3, .ref n3])), (n0, .inl (cJ0, 60, .inr (.inl o0_441))), (n1, .inl (cJ1, 60, .inr (.inl g1))), (n2, .inl (cJ2, 60, .inr (.inl g2))), (n3, .inl (cJ3, 60, .inr (.inl g3)))] := hD
                    have hK : va_K (dC, dI) vwCl [(cS, .object RX3), (cJ0, .long), (cJ1, .long), (cJ2, .long), (cJ3, .long)] s := hK
                    refine lv_iconst (v := 0) hx hb dX9_paste_108 (by decide) ?_
                    have hP9 := hP.sub (ws' := [(h0, .inr (7, [.ref tp, .ref sc, .ref rd, .ref cu, .ref im, .ref ig, .ref sl, .ref se, .ref sm, .ref fc])), (sl, .inl (cS, 4, .inr (.inr (.inr (.inr (sf4 s0 s1 s2 s3)))))), (s0, .inr (2, [.int wd0, .int rz0, .ref n0])), (s1, .inr (2, [.int wd1, .int rz1, .ref n1])), (s2, .inr (2, [.int wd2, .int rz2, .ref n2])), (s3, .inr (2, [.int wd3, .int rz3, .ref n3])), (n0, .inl (cJ0, 60, .inr (.inl o0_441))), (n1, .inl (cJ1, 60, .inr (.inl g1))), (n2, .inl (cJ2, 60, .inr (.inl g2))), (n3, .inl (cJ3, 60, .inr (.inl g3)))]) [0, 1, 2, 3, 4, 5, 6, 7, 8, 9] rfl
                    have hD9 := hD.sub (ws' := [(h0, .inr (7, [.ref tp, .ref sc, .ref rd, .ref cu, .ref im, .ref ig, .ref sl, .ref se, .ref sm, .ref fc])), (sl, .inl (cS, 4, .inr (.inr (.inr (.inr (sf4 s0 s1 s2 s3)))))), (s0, .inr (2, [.int wd0, .int rz0, .ref n0])), (s1, .inr (2, [.int wd1, .int rz1, .ref n1])), (s2, .inr (2, [.int wd2, .int rz2, .ref n2])), (s3, .inr (2, [.int wd3, .int rz3, .ref n3])), (n0, .inl (cJ0, 60, .inr (.inl o0_441))), (n1, .inl (cJ1, 60, .inr (.inl g1))), (n2, .inl (cJ2, 60, .inr (.inl g2))), (n3, .inl (cJ3, 60, .inr (.inl g3)))]) [0, 1, 2, 3, 4, 5, 6, 7, 8, 9] (by decide) rfl
                    have hK9 := hK.sub (tys' := [(cS, .object RX3), (cJ0, .long), (cJ1, .long), (cJ2, .long), (cJ3, .long)]) [0, 1, 2, 3, 4] rfl
                    exact W.iret (v := 0) hx hb hr (fun t ht hW => ⟨⟨0, (), rfl, ⟨(rg_w (by decide : (0 : Int) ≤ (0 : Int32).toInt ∧ (0 : Int32).toInt ≤ 0) (by decide) (by decide)), (ps_0 (j := 1) (t := 0) (by decide) (by decide) (by decide) (by have q0 := hg9_0; unfold RG at q0; have q1 := hg9_1; unfold RG at q1; omega) (by have q0 := hg9_0; unfold RG at q0; have q1 := hg9_1; unfold RG at q1; omega) (by have q0 := hg9_0; unfold RG at q0; have q1 := hg9_1; unfold RG at q1; omega))⟩, o0_441, g1, g2, g3, by rw [ht]; exact hP9, va_K.moved hW.alike hK9, hD9⟩, hS.F ht⟩) hS.2.2 dX9_paste_109
                  ·
                    have n_c_437 : (r_436.toInt : Int) = 0 := c_eq rfl (by decide) c_437
                    have b_r_436 : (0 : Int) ≤ r_436.toInt ∧ r_436.toInt ≤ 0 := r_eq1 b_r_436 (by decide : (0 : Int) ≤ (0 : Int32).toInt ∧ (0 : Int32).toInt ≤ 0) n_c_437 (by decide)
                    have g_442 := zz_r_436 c_437
                    refine lv_bipush (v := (-7)) hx hb dX9_paste_93 (by decide) ?_
                    have hP9 := hP.sub (ws' := [(h0, .inr (7, [.ref tp, .ref sc, .ref rd, .ref cu, .ref im, .ref ig, .ref sl, .ref se, .ref sm, .ref fc])), (sl, .inl (cS, 4, .inr (.inr (.inr (.inr (sf4 s0 s1 s2 s3)))))), (s0, .inr (2, [.int wd0, .int rz0, .ref n0])), (s1, .inr (2, [.int wd1, .int rz1, .ref n1])), (s2, .inr (2, [.int wd2, .int rz2, .ref n2])), (s3, .inr (2, [.int wd3, .int rz3, .ref n3])), (n0, .inl (cJ0, 60, .inr (.inl g0))), (n1, .inl (cJ1, 60, .inr (.inl g1))), (n2, .inl (cJ2, 60, .inr (.inl g2))), (n3, .inl (cJ3, 60, .inr (.inl g3)))]) [0, 1, 2, 3, 4, 5, 6, 7, 8, 9] rfl
                    have hD9 := hD.sub (ws' := [(h0, .inr (7, [.ref tp, .ref sc, .ref rd, .ref cu, .ref im, .ref ig, .ref sl, .ref se, .ref sm, .ref fc])), (sl, .inl (cS, 4, .inr (.inr (.inr (.inr (sf4 s0 s1 s2 s3)))))), (s0, .inr (2, [.int wd0, .int rz0, .ref n0])), (s1, .inr (2, [.int wd1, .int rz1, .ref n1])), (s2, .inr (2, [.int wd2, .int rz2, .ref n2])), (s3, .inr (2, [.int wd3, .int rz3, .ref n3])), (n0, .inl (cJ0, 60, .inr (.inl g0))), (n1, .inl (cJ1, 60, .inr (.inl g1))), (n2, .inl (cJ2, 60, .inr (.inl g2))), (n3, .inl (cJ3, 60, .inr (.inl g3)))]) [0, 1, 2, 3, 4, 5, 6, 7, 8, 9] (by decide) rfl
                    have hK9 := hK.sub (tys' := [(cS, .object RX3), (cJ0, .long), (cJ1, .long), (cJ2, .long), (cJ3, .long)]) [0, 1, 2, 3, 4] rfl
                    exact W.iret (v := (-7)) hx hb hr (fun t ht hW => ⟨⟨(-7), (), rfl, ⟨(rg_w (by decide : (-7 : Int) ≤ ((-7) : Int32).toInt ∧ ((-7) : Int32).toInt ≤ -7) (by decide) (by decide)), (ps_7 (j := 1) (t := 0) (by decide) (by decide) (by decide) (by have q0 := hg9_0; unfold RG at q0; have q1 := hg9_1; unfold RG at q1; omega) (by have q0 := hg9_0; unfold RG at q0; have q1 := hg9_1; unfold RG at q1; omega) (by have q0 := hg9_0; unfold RG at q0; have q1 := hg9_1; unfold RG at q1; omega))⟩, g0, g1, g2, g3, by rw [ht]; exact hP9, va_K.moved hW.alike hK9, hD9⟩, hS.F ht⟩) hS.2.2 dX9_paste_95
              ·
                have n_c_431 : (wd1.toInt : Int) ≠ wd0.toInt := c_ne rfl rfl c_431
                refine lv_bipush (v := (-8)) hx hb dX9_paste_67 (by decide) ?_
                have hP9 := hP.sub (ws' := [(h0, .inr (7, [.ref tp, .ref sc, .ref rd, .ref cu, .ref im, .ref ig, .ref sl, .ref se, .ref sm, .ref fc])), (sl, .inl (cS, 4, .inr (.inr (.inr (.inr (sf4 s0 s1 s2 s3)))))), (s0, .inr (2, [.int wd0, .int rz0, .ref n0])), (s1, .inr (2, [.int wd1, .int rz1, .ref n1])), (s2, .inr (2, [.int wd2, .int rz2, .ref n2])), (s3, .inr (2, [.int wd3, .int rz3, .ref n3])), (n0, .inl (cJ0, 60, .inr (.inl g0))), (n1, .inl (cJ1, 60, .inr (.inl g1))), (n2, .inl (cJ2, 60, .inr (.inl g2))), (n3, .inl (cJ3, 60, .inr (.inl g3)))]) [0, 1, 2, 3, 4, 5, 6, 7, 8, 9] rfl
                have hD9 := hD.sub (ws' := [(h0, .inr (7, [.ref tp, .ref sc, .ref rd, .ref cu, .ref im, .ref ig, .ref sl, .ref se, .ref sm, .ref fc])), (sl, .inl (cS, 4, .inr (.inr (.inr (.inr (sf4 s0 s1 s2 s3)))))), (s0, .inr (2, [.int wd0, .int rz0, .ref n0])), (s1, .inr (2, [.int wd1, .int rz1, .ref n1])), (s2, .inr (2, [.int wd2, .int rz2, .ref n2])), (s3, .inr (2, [.int wd3, .int rz3, .ref n3])), (n0, .inl (cJ0, 60, .inr (.inl g0))), (n1, .inl (cJ1, 60, .inr (.inl g1))), (n2, .inl (cJ2, 60, .inr (.inl g2))), (n3, .inl (cJ3, 60, .inr (.inl g3)))]) [0, 1, 2, 3, 4, 5, 6, 7, 8, 9] (by decide) rfl
                have hK9 := hK.sub (tys' := [(cS, .object RX3), (cJ0, .long), (cJ1, .long), (cJ2, .long), (cJ3, .long)]) [0, 1, 2, 3, 4] rfl
                exact W.iret (v := (-8)) hx hb hr (fun t ht hW => ⟨⟨(-8), (), rfl, ⟨(rg_w (by decide : (-8 : Int) ≤ ((-8) : Int32).toInt ∧ ((-8) : Int32).toInt ≤ -8) (by decide) (by decide)), (ps_8 (j := 1) (t := 0) (by decide) (by decide) (by decide) (by have q0 := hg9_0; unfold RG at q0; have q1 := hg9_1; unfold RG at q1; omega) (by have q0 := hg9_0; unfold RG at q0; have q1 := hg9_1; unfold RG at q1; omega))⟩, g0, g1, g2, g3, by rw [ht]; exact hP9, va_K.moved hW.alike hK9, hD9⟩, hS.F ht⟩) hS.2.2 dX9_paste_69
            ·
              have n_c_429 : (r_428.toInt : Int) = 0 := c_eq rfl (by decide) c_429
              have b_r_428 : (0 : Int) ≤ r_428.toInt ∧ r_428.toInt ≤ 0 := r_eq1 b_r_428 (by decide : (0 : Int) ≤ (0 : Int32).toInt ∧ (0 : Int32).toInt ≤ 0) n_c_429 (by decide)
              have g_443 := zz_r_428 c_429
              refine lv_bipush (v := (-6)) hx hb dX9_paste_51 (by decide) ?_
              have hP9 := hP.sub (ws' := [(h0, .inr (7, [.ref tp, .ref sc, .ref rd, .ref cu, .ref im, .ref ig, .ref sl, .ref se, .ref sm, .ref fc])), (sl, .inl (cS, 4, .inr (.inr (.inr (.inr (sf4 s0 s1 s2 s3)))))), (s0, .inr (2, [.int wd0, .int rz0, .ref n0])), (s1, .inr (2, [.int wd1, .int rz1, .ref n1])), (s2, .inr (2, [.int wd2, .int rz2, .ref n2])), (s3, .inr (2, [.int wd3, .int rz3, .ref n3])), (n0, .inl (cJ0, 60, .inr (.inl g0))), (n1, .inl (cJ1, 60, .inr (.inl g1))), (n2, .inl (cJ2, 60, .inr (.inl g2))), (n3, .inl (cJ3, 60, .inr (.inl g3)))]) [0, 1, 2, 3, 4, 5, 6, 7, 8, 9] rfl
              have hD9 := hD.sub (ws' := [(h0, .inr (7, [.ref tp, .ref sc, .ref rd, .ref cu, .ref im, .ref ig, .ref sl, .ref se, .ref sm, .ref fc])), (sl, .inl (cS, 4, .inr (.inr (.inr (.inr (sf4 s0 s1 s2 s3)))))), (s0, .inr (2, [.int wd0, .int rz0, .ref n0])), (s1, .inr (2, [.int wd1, .int rz1, .ref n1])), (s2, .inr (2, [.int wd2, .int rz2, .ref n2])), (s3, .inr (2, [.int wd3, .int rz3, .ref n3])), (n0, .inl (cJ0, 60, .inr (.inl g0))), (n1, .inl (cJ1, 60, .inr (.inl g1))), (n2, .inl (cJ2, 60, .inr (.inl g2))), (n3, .inl (cJ3, 60, .inr (.inl g3)))]) [0, 1, 2, 3, 4, 5, 6, 7, 8, 9] (by decide) rfl
              have hK9 := hK.sub (tys' := [(cS, .object RX3), (cJ0, .long), (cJ1, .long), (cJ2, .long), (cJ3, .long)]) [0, 1, 2, 3, 4] rfl
              exact W.iret (v := (-6)) hx hb hr (fun t ht hW => ⟨⟨(-6), (), rfl, ⟨(rg_w (by decide : (-6 : Int) ≤ ((-6) : Int32).toInt ∧ ((-6) : Int32).toInt ≤ -6) (by decide) (by decide)), (ps_6 (j := 1) (t := 0) (by decide) (by decide) (by decide) (by have q0 := hg9_0; unfold RG at q0; have q1 := hg9_1; unfold RG at q1; omega))⟩, g0, g1, g2, g3, by rw [ht]; exact hP9, va_K.moved hW.alike hK9, hD9⟩, hS.F ht⟩) hS.2.2 dX9_paste_53
        ·
          obtain rfl : a3 = 1 := Int32.toInt_inj.mp (h_423.trans (by decide))
          refine va_aldq hx hb hK hP 1 0 rfl rfl (vp_in_b (by decide : (1 : Int) ≤ (1 : Int32).toInt ∧ (1 : Int32).toInt ≤ 1) (by decide) (by decide)) dX9_paste_32 ?_
          refine W.eq (g2 := F0 m 33 ls (.ref s1 :: [])) (congrArg (fun v => F0 m 33 ls (va_rf v :: [])) (sf4_1 s0 s1 s2 s3)) ?_
          refine lv_astore (lv' := [(7, .ref s1), (6, .ref s1), (0, .ref h0), (1, .int 1), (2, .int a2), (3, .int 1), (4, .int a4), (5, .int a5)]) hx hb dX9_paste_33 hl (by decide) rfl (fun ls hl => ?_)
          refine lv_aload hx hb dX9_paste_35 (lv_at hl 1 rfl) ?_
          refine vp_callSi (W.runV (As := []) (rest := []) ⟨hx, hb, hml, hown, hts⟩ (kX3_stands2 l dC dI s1 wd1 rz1 n1 b_wd1 b_rz1) (cwV 0 hts gX9_pasteF__X3_stands2_V270 rfl rfl rfl hd_yX3_stands ⟨lel 1 2 rfl, lel 20 88 rfl⟩) ⟨pw_fb, rcv_X3 hK hP (q0 := 3) rfl, (pw_use hP hK hN [3] rfl [] rfl)⟩ rfl rfl hl.1 rfl (lv_room (Nat.le_of_ble_eq_true rfl)) dX9_paste_37 ⟨lel 0 0 rfl, lel 0 0 rfl⟩) (fun r_444 h_r_444 => ?_)
          obtain ⟨b_r_444, nz_r_444, zz_r_444⟩ := h_r_444
          have b_r_444 : (0 : Int) ≤ r_444.toInt ∧ r_444.toInt ≤ 1 := b_r_444
          refine lv_if_eq (tgt := 51) hx hb dX9_paste_40 (by decide) (fun c_445 => ?_) (fun c_445 => ?_)
          ·
            have n_c_445 : (r_444.toInt : Int) = 0 := c_eq rfl (by decide) c_445
            have b_r_444 : (0 : Int) ≤ r_444.toInt ∧ r_444.toInt ≤ 0 := r_eq1 b_r_444 (by decide : (0 : Int) ≤ (0 : Int32).toInt ∧ (0 : Int32).toInt ≤ 0) n_c_445 (by decide)
            have g_446 := zz_r_444 c_445
            refine lv_bipush (v := (-6)) hx hb dX9_paste_51 (by decide) ?_
            have hP9 := hP.sub (ws' := [(h0, .inr (7, [.ref tp, .ref sc, .ref rd, .ref cu, .ref im, .ref ig, .ref sl, .ref se, .ref sm, .ref fc])), (sl, .inl (cS, 4, .inr (.inr (.inr (.inr (sf4 s0 s1 s2 s3)))))), (s0, .inr (2, [.int wd0, .int rz0, .ref n0])), (s1, .inr (2, [.int wd1, .int rz1, .ref n1])), (s2, .inr (2, [.int wd2, .int rz2, .ref n2])), (s3, .inr (2, [.int wd3, .int rz3, .ref n3])), (n0, .inl (cJ0, 60, .inr (.inl g0))), (n1, .inl (cJ1, 60, .inr (.inl g1))), (n2, .inl (cJ2, 60, .inr (.inl g2))), (n3, .inl (cJ3, 60, .inr (.inl g3)))]) [0, 1, 2, 3, 4, 5, 6, 7, 8, 9] rfl
            have hD9 := hD.sub (ws' := [(h0, .inr (7, [.ref tp, .ref sc, .ref rd, .ref cu, .ref im, .ref ig, .ref sl, .ref se, .ref sm, .ref fc])), (sl, .inl (cS, 4, .inr (.inr (.inr (.inr (sf4 s0 s1 s2 s3)))))), (s0, .inr (2, [.int wd0, .int rz0, .ref n0])), (s1, .inr (2, [.int wd1, .int rz1, .ref n1])), (s2, .inr (2, [.int wd2, .int rz2, .ref n2])), (s3, .inr (2, [.int wd3, .int rz3, .ref n3])), (n0, .inl (cJ0, 60, .inr (.inl g0))), (n1, .inl (cJ1, 60, .inr (.inl g1))), (n2, .inl (cJ2, 60, .inr (.inl g2))), (n3, .inl (cJ3, 60, .inr (.inl g3)))]) [0, 1, 2, 3, 4, 5, 6, 7, 8, 9] (by decide) rfl
            have hK9 := hK.sub (tys' := [(cS, .object RX3), (cJ0, .long), (cJ1, .long), (cJ2, .long), (cJ3, .long)]) [0, 1, 2, 3, 4] rfl
            exact W.iret (v := (-6)) hx hb hr (fun t ht hW => ⟨⟨(-6), (), rfl, ⟨(rg_w (by decide : (-6 : Int) ≤ ((-6) : Int32).toInt ∧ ((-6) : Int32).toInt ≤ -6) (by decide) (by decide)), (ps_6 (j := 1) (t := 1) (by decide) (by decide) (by decide) (by have q1 := hg9_1; unfold RG at q1; omega))⟩, g0, g1, g2, g3, by rw [ht]; exact hP9, va_K.moved hW.alike hK9, hD9⟩, hS.F ht⟩) hS.2.2 dX9_paste_53
          ·
            have n_c_445 : (r_444.toInt : Int) ≠ 0 := c_ne rfl (by decide) c_445
            have b_r_444 : (1 : Int) ≤ r_444.toInt ∧ r_444.toInt ≤ 1 := r_ne1 b_r_444 (by decide : (0 : Int) ≤ (0 : Int32).toInt ∧ (0 : Int32).toInt ≤ 0) n_c_445 (by decide)
            obtain ⟨b_wd1, g_447⟩ := nz_r_444 c_445
            refine lv_aload hx hb dX9_paste_43 (lv_at hl 0 rfl) ?_
            refine vp_callSi (W.runV (As := []) (rest := []) ⟨hx, hb, hml, hown, hts⟩ (kX3_stands2 l dC dI s1 wd1 rz1 n1 (rg_w b_wd1 (by decide) (by decide)) b_rz1) (cwV 0 hts gX9_pasteF__X3_stands2_V270 rfl rfl rfl hd_yX3_stands ⟨lel 1 2 rfl, lel 20 88 rfl⟩) ⟨pw_fb, rcv_X3 hK hP (q0 := 3) rfl, (pw_use hP hK hN [3] rfl [] rfl)⟩ rfl rfl hl.1 rfl (lv_room (Nat.le_of_ble_eq_true rfl)) dX9_paste_45 ⟨lel 0 0 rfl, lel 0 0 rfl⟩) (fun r_448 h_r_448 => ?_)
            obtain ⟨b_r_448, nz_r_448, zz_r_448⟩ := h_r_448
            have b_r_448 : (0 : Int) ≤ r_448.toInt ∧ r_448.toInt ≤ 1 := b_r_448
            refine lv_if_ne (tgt := 54) hx hb dX9_paste_48 (by decide) (fun c_449 => ?_) (fun c_449 => ?_)
            ·
              have n_c_449 : (r_448.toInt : Int) ≠ 0 := c_ne rfl (by decide) c_449
              have b_r_448 : (1 : Int) ≤ r_448.toInt ∧ r_448.toInt ≤ 1 := r_ne1 b_r_448 (by decide : (0 : Int) ≤ (0 : Int32).toInt ∧ (0 : Int32).toInt ≤ 0) n_c_449 (by decide)
              obtain ⟨b_wd1, g_450⟩ := nz_r_448 c_449
              refine lv_aload hx hb dX9_paste_54 (lv_at hl 1 rfl) ?_
              refine va_getN (own := RX9) (index := 350) (ref := RX3) (host := RX9) (D := (dC, dI)) (ci := 2) (v := .int wd1) (C := RX3) (T := TX3) (N := 3) hx hb hts iX9_pasteF_X3 hown hK hP 3 rfl rfl 0 (by decide) (va_Nw.use rfl (hN _ (List.mem_of_getElem? (i := 21) rfl))) (fun _ h9 => h9) rfl dX9_paste_56 ?_
              refine lv_aload hx hb dX9_paste_59 (lv_at hl 0 rfl) ?_
              refine va_getN (own := RX9) (index := 350) (ref := RX3) (host := RX9) (D := (dC, dI)) (ci := 2) (v := .int wd1) (C := RX3) (T := TX3) (N := 3) hx hb hts iX9_pasteF_X3 hown hK hP 3 rfl rfl 0 (by decide) (va_Nw.use rfl (hN _ (List.mem_of_getElem? (i := 21) rfl))) (fun _ h9 => h9) rfl dX9_paste_61 ?_
              refine lv_icmp_eq (tgt := 70) hx hb dX9_paste_64 (by decide) (fun c_451 => ?_) (fun c_451 => ?_)
              ·
                have n_c_451 : (wd1.toInt : Int) = wd1.toInt := c_eq rfl rfl c_451
                refine lv_aload hx hb dX9_paste_70 (lv_at hl 1 rfl) ?_
                refine lv_iload_n hx hb dX9_paste_72 rfl (lv_at hl 4 rfl) ?_
                refine lv_iload hx hb dX9_paste_73 (lv_at hl 7 rfl) ?_
                refine vp_callSi (W.runV (As := [.int a2, .int a5]) (rest := []) ⟨hx, hb, hml, hown, hts⟩ (kX3_hasStretch2 l dC dI s1 wd1 rz1 n1 a2 a5 (rg_w b_wd1 (by decide) (by decide)) b_rz1) (cwV 2 hts gX9_pasteF__X3_hasStretch2_V343 rfl rfl rfl hd_yX3_hasStretch ⟨lel 1 2 rfl, lel 22 88 rfl⟩) ⟨pw_fb, rcv_X3 hK hP (q0 := 3) rfl, (pw_use hP hK hN [3] rfl [] rfl)⟩ rfl rfl hl.1 rfl (lv_room (Nat.le_of_ble_eq_true rfl)) dX9_paste_75 ⟨lel 0 0 rfl, lel 0 0 rfl⟩) (fun r_452 h_r_452 => ?_)
                obtain ⟨b_r_452, nz_r_452, zz_r_452⟩ := h_r_452
                have b_r_452 : (0 : Int) ≤ r_452.toInt ∧ r_452.toInt ≤ 1 := b_r_452
                refine lv_if_eq (tgt := 93) hx hb dX9_paste_78 (by decide) (fun c_453 => ?_) (fun c_453 => ?_)
                ·
                  have n_c_453 : (r_452.toInt : Int) = 0 := c_eq rfl (by decide) c_453
                  have b_r_452 : (0 : Int) ≤ r_452.toInt ∧ r_452.toInt ≤ 0 := r_eq1 b_r_452 (by decide : (0 : Int) ≤ (0 : Int32).toInt ∧ (0 : Int32).toInt ≤ 0) n_c_453 (by decide)
                  have g_454 := zz_r_452 c_453
                  refine lv_bipush (v := (-7)) hx hb dX9_paste_93 (by decide) ?_
                  have hP9 := hP.sub (ws' := [(h0, .inr (7, [.ref tp, .ref sc, .ref rd, .ref cu, .ref im, .ref ig, .ref sl, .ref se, .ref sm, .ref fc])), (sl, .inl (cS, 4, .inr (.inr (.inr (.inr (sf4 s0 s1 s2 s3)))))), (s0, .inr (2, [.int wd0, .int rz0, .ref n0])), (s1, .inr (2, [.int wd1, .int rz1, .ref n1])), (s2, .inr (2, [.int wd2, .int rz2, .ref n2])), (s3, .inr (2, [.int wd3, .int rz3, .ref n3])), (n0, .inl (cJ0, 60, .inr (.inl g0))), (n1, .inl (cJ1, 60, .inr (.inl g1))), (n2, .inl (cJ2, 60, .inr (.inl g2))), (n3, .inl (cJ3, 60, .inr (.inl g3)))]) [0, 1, 2, 3, 4, 5, 6, 7, 8, 9] rfl
                  have hD9 := hD.sub (ws' := [(h0, .inr (7, [.ref tp, .ref sc, .ref rd, .ref cu, .ref im, .ref ig, .ref sl, .ref se, .ref sm, .ref fc])), (sl, .inl (cS, 4, .inr (.inr (.inr (.inr (sf4 s0 s1 s2 s3)))))), (s0, .inr (2, [.int wd0, .int rz0, .ref n0])), (s1, .inr (2, [.int wd1, .int rz1, .ref n1])), (s2, .inr (2, [.int wd2, .int rz2, .ref n2])), (s3, .inr (2, [.int wd3, .int rz3, .ref n3])), (n0, .inl (cJ0, 60, .inr (.inl g0))), (n1, .inl (cJ1, 60, .inr (.inl g1))), (n2, .inl (cJ2, 60, .inr (.inl g2))), (n3, .inl (cJ3, 60, .inr (.inl g3)))]) [0, 1, 2, 3, 4, 5, 6, 7, 8, 9] (by decide) rfl
                  have hK9 := hK.sub (tys' := [(cS, .object RX3), (cJ0, .long), (cJ1, .long), (cJ2, .long), (cJ3, .long)]) [0, 1, 2, 3, 4] rfl
                  exact W.iret (v := (-7)) hx hb hr (fun t ht hW => ⟨⟨(-7), (), rfl, ⟨(rg_w (by decide : (-7 : Int) ≤ ((-7) : Int32).toInt ∧ ((-7) : Int32).toInt ≤ -7) (by decide) (by decide)), (ps_7 (j := 1) (t := 1) (by decide) (by decide) (by decide) (by have q1 := hg9_1; unfold RG at q1; omega) (by have q1 := hg9_1; unfold RG at q1; omega) (by have q1 := hg9_1; unfold RG at q1; omega))⟩, g0, g1, g2, g3, by rw [ht]; exact hP9, va_K.moved hW.alike hK9, hD9⟩, hS.F ht⟩) hS.2.2 dX9_paste_95
                ·
                  have n_c_453 : (r_452.toInt : Int) ≠ 0 := c_ne rfl (by decide) c_453
                  have b_r_452 : (1 : Int) ≤ r_452.toInt ∧ r_452.toInt ≤ 1 := r_ne1 b_r_452 (by decide : (0 : Int) ≤ (0 : Int32).toInt ∧ (0 : Int32).toInt ≤ 0) n_c_453 (by decide)
                  obtain ⟨b_a2, b_a5, g_455⟩ := nz_r_452 c_453
                  refine lv_aload hx hb dX9_paste_81 (lv_at hl 0 rfl) ?_
                  refine lv_iload hx hb dX9_paste_83 (lv_at hl 6 rfl) ?_
                  refine lv_iload hx hb dX9_paste_85 (lv_at hl 7 rfl) ?_
                  refine vp_callSi (W.runV (As := [.int a4, .int a5]) (rest := []) ⟨hx, hb, hml, hown, hts⟩ (kX3_hasStretch2 l dC dI s1 wd1 rz1 n1 a4 a5 (rg_w b_wd1 (by decide) (by decide)) b_rz1) (cwV 2 hts gX9_pasteF__X3_hasStretch2_V343 rfl rfl rfl hd_yX3_hasStretch ⟨lel 1 2 rfl, lel 22 88 rfl⟩) ⟨pw_fb, rcv_X3 hK hP (q0 := 3) rfl, (pw_use hP hK hN [3] rfl [] rfl)⟩ rfl rfl hl.1 rfl (lv_room (Nat.le_of_ble_eq_true rfl)) dX9_paste_87 ⟨lel 0 0 rfl, lel 0 0 rfl⟩) (fun r_456 h_r_456 => ?_)
                  obtain ⟨b_r_456, nz_r_456, zz_r_456⟩ := h_r_456
                  have b_r_456 : (0 : Int) ≤ r_456.toInt ∧ r_456.toInt ≤ 1 := b_r_456
                  refine lv_if_ne (tgt := 96) hx hb dX9_paste_90 (by decide) (fun c_457 => ?_) (fun c_457 => ?_)
                  ·
                    have n_c_457 : (r_456.toInt : Int) ≠ 0 := c_ne rfl (by decide) c_457
                    have b_r_456 : (1 : Int) ≤ r_456.toInt ∧ r_456.toInt ≤ 1 := r_ne1 b_r_456 (by decide : (0 : Int) ≤ (0 : Int32).toInt ∧ (0 : Int32).toInt ≤ 0) n_c_457 (by decide)
                    obtain ⟨b_a4, b_a5, g_458⟩ := nz_r_456 c_457
                    refine lv_aload hx hb dX9_paste_96 (lv_at hl 0 rfl) ?_
                    refine lv_iload hx hb dX9_paste_98 (lv_at hl 6 rfl) ?_
                    refine lv_aload hx hb dX9_paste_100 (lv_at hl 1 rfl) ?_
                    refine lv_iload_n hx hb dX9_paste_102 rfl (lv_at hl 4 rfl) ?_
                    refine lv_iload hx hb dX9_paste_103 (lv_at hl 7 rfl) ?_
                    have hFc := va_free (wc := [(s1, .inr (2, [.int wd1, .int rz1, .ref n1])), (n1, .inl (cJ1, 60, .inr (.inl g1)))]) hD hS hA [3, 7] rfl
                    refine va_callv (va_runV (As := [.int a4, .ref s1, .int a2, .int a5]) (rest := []) ⟨hx, hb, hml, hown, hts⟩ (kX3_takeS l dC dI s1 wd1 rz1 n1 cJ1 g1 a4 a2 a5 (s.heap.size) (rg_w b_wd1 (by decide) (by decide)) b_rz1) (cwV 4 hts gX9_pasteF__X3_takeS_V353 rfl rfl rfl hd_yX3_take ⟨lel 2 2 rfl, lel 88 88 rfl⟩) ⟨hw_fb, rcv_X3 hK hP (q0 := 3) rfl, (hw_use hP hD hK hN [3, 7] rfl (by decide) rfl [2] rfl)⟩ rfl rfl hl.1 rfl (lv_room (Nat.le_of_ble_eq_true rfl)) dX9_paste_105 ⟨lel 0 0 rfl, lel 0 0 rfl⟩) hS (fun q _ h => hFc q h) hFc (fun u_460 t H1 locs ht hvm hw_r_459 hB hz1 hk1 hS => ?_)
                    obtain ⟨o0_461, hP1, hK1, hD1⟩ := hB
                    rw [ht] at hP1
                    have hK1 := va_K.moved hvm.symm hK1
                    obtain ⟨hP, hD⟩ := va_join (wr := [(h0, .inr (7, [.ref tp, .ref sc, .ref rd, .ref cu, .ref im, .ref ig, .ref sl, .ref se, .ref sm, .ref fc])), (sl, .inl (cS, 4, .inr (.inr (.inr (.inr (sf4 s0 s1 s2 s3)))))), (s0, .inr (2, [.int wd0, .int rz0, .ref n0])), (s2, .inr (2, [.int wd2, .int rz2, .ref n2])), (s3, .inr (2, [.int wd3, .int rz3, .ref n3])), (n0, .inl (cJ0, 60, .inr (.inl g0))), (n2, .inl (cJ2, 60, .inr (.inl g2))), (n3, .inl (cJ3, 60, .inr (.inl g3)))]) (w1 := [(s1, .inr (2, [.int wd1, .int rz1, .ref n1])), (n1, .inl (cJ1, 60, .inr (.inl o0_461)))]) hP hD [3, 7] [0, 1, 2, 4, 5, 6, 8, 9] rfl rfl (by decide) (by decide) hk1 hFc hP1 hD1
                    have hK := (hK.sub (tys' := [(cS, .object RX3), (cJ0, .long), (cJ2, .long), (cJ3, .long)]) [0, 1, 3, 4] rfl).app hK1
                    generalize H1 = H at hP hS ⊢
                    have hP := hP.sub (ws' := [(h0, .inr (7, [.ref tp, .ref sc, .ref rd, .ref cu, .ref im, .ref ig, .ref sl, .ref se, .ref sm, .ref fc])), (sl, .inl (cS, 4, .inr (.inr (.inr (.inr (sf4 s0 s1 s2 s3)))))), (s0, .inr (2, [.int wd0, .int rz0, .ref n0])), (s1, .inr (2, [.int wd1, .int rz1, .ref n1])), (s2, .inr (2, [.int wd2, .int rz2, .ref n2])), (s3, .inr (2, [.int wd3, .int rz3, .ref n3])), (n0, .inl (cJ0, 60, .inr (.inl g0))), (n1, .inl (cJ1, 60, .inr (.inl o0_461))), (n2, .inl (cJ2, 60, .inr (.inl g2))), (n3, .inl (cJ3, 60, .inr (.inl g3)))]) [0, 1, 2, 8, 3, 4, 5, 9, 6, 7] rfl
                    have hD := hD.sub (ws' := [(h0, .inr (7, [.ref tp, .ref sc, .ref rd, .ref cu, .ref im, .ref ig, .ref sl, .ref se, .ref sm, .ref fc])), (sl, .inl (cS, 4, .inr (.inr (.inr (.inr (sf4 s0 s1 s2 s3)))))), (s0, .inr (2, [.int wd0, .int rz0, .ref n0])), (s1, .inr (2, [.int wd1, .int rz1, .ref n1])), (s2, .inr (2, [.int wd2, .int rz2, .ref n2])), (s3, .inr (2, [.int wd3, .int rz3, .ref n3])), (n0, .inl (cJ0, 60, .inr (.inl g0))), (n1, .inl (cJ1, 60, .inr (.inl o0_461))), (n2, .inl (cJ2, 60, .inr (.inl g2))), (n3, .inl (cJ3, 60, .inr (.inl g3)))]) [0, 1, 2, 8, 3, 4, 5, 9, 6, 7] (by decide) rfl
                    have hK := hK.sub (tys' := [(cS, .object RX3), (cJ0, .long), (cJ1, .long), (cJ2, .long), (cJ3, .long)]) [0, 1, 4, 2, 3] rfl
                    have hP : va_P (dC, dI) vwCl [(h0, .inr (7, [.ref tp, .ref sc, .ref rd, .ref cu, .ref im, .ref ig, .ref sl, .ref se, .ref sm, .ref fc])), (sl, .inl (cS, 4, .inr (.inr (.inr (.inr (sf4 s0 s1 s2 s3)))))), (s0, .inr (2, [.int wd0, .int rz0, .ref n0])), (s1, .inr (2, [.int wd1, .int rz1, .ref n1])), (s2, .inr (2, [.int wd2, .int rz2, .ref n2])), (s3, .inr (2, [.int wd3, .int rz3, .ref n3])), (n0, .inl (cJ0, 60, .inr (.inl g0))), (n1, .inl (cJ1, 60, .inr (.inl o0_461))), (n2, .inl (cJ2, 60, .inr (.inl g2))), (n3, .inl (cJ3, 60, .inr (.inl g3)))] H := hP
                    have hD : va_D A [(h0, .inr (7, [.ref tp, .ref sc, .ref rd, .ref cu, .ref im, .ref ig, .ref sl, .ref se, .ref sm, .ref fc])), (sl, .inl (cS, 4, .inr (.inr (.inr (.inr (sf4 s0 s1 s2 s3)))))), (s0, .inr (2, [.int wd0, .int rz0, .ref n0])), (s1, .inr (2, [.int wd1, .int rz1, .ref n1])), (s2, .inr (2, [.int wd2, .int rz2, .ref n2])), (s3, .inr (2, [.int wd3, .int rz3, .ref n3])), (n0, .inl (cJ0, 60, .inr (.inl g0))), (n1, .inl (cJ1, 60, .inr (.inl o0_461))), (n2, .inl (cJ2, 60, .inr (.inl g2))), (n3, .inl (cJ3, 60, .inr (.inl g3)))] := hD
                    have hK : va_K (dC, dI) vwCl [(cS, .object RX3), (cJ0, .long), (cJ1, .long), (cJ2, .long), (cJ3, .long)] s := hK
                    refine lv_iconst (v := 0) hx hb dX9_paste_108 (by decide) ?_
                    have hP9 := hP.sub (ws' := [(h0, .inr (7, [.ref tp, .ref sc, .ref rd, .ref cu, .ref im, .ref ig, .ref sl, .ref se, .ref sm, .ref fc])), (sl, .inl (cS, 4, .inr (.inr (.inr (.inr (sf4 s0 s1 s2 s3)))))), (s0, .inr (2, [.int wd0, .int rz0, .ref n0])), (s1, .inr (2, [.int wd1, .int rz1, .ref n1])), (s2, .inr (2, [.int wd2, .int rz2, .ref n2])), (s3, .inr (2, [.int wd3, .int rz3, .ref n3])), (n0, .inl (cJ0, 60, .inr (.inl g0))), (n1, .inl (cJ1, 60, .inr (.inl o0_461))), (n2, .inl (cJ2, 60, .inr (.inl g2))), (n3, .inl (cJ3, 60, .inr (.inl g3)))]) [0, 1, 2, 3, 4, 5, 6, 7, 8, 9] rfl
                    have hD9 := hD.sub (ws' := [(h0, .inr (7, [.ref tp, .ref sc, .ref rd, .ref cu, .ref im, .ref ig, .ref sl, .ref se, .ref sm, .ref fc])), (sl, .inl (cS, 4, .inr (.inr (.inr (.inr (sf4 s0 s1 s2 s3)))))), (s0, .inr (2, [.int wd0, .int rz0, .ref n0])), (s1, .inr (2, [.int wd1, .int rz1, .ref n1])), (s2, .inr (2, [.int wd2, .int rz2, .ref n2])), (s3, .inr (2, [.int wd3, .int rz3, .ref n3])), (n0, .inl (cJ0, 60, .inr (.inl g0))), (n1, .inl (cJ1, 60, .inr (.inl o0_461))), (n2, .inl (cJ2, 60, .inr (.inl g2))), (n3, .inl (cJ3, 60, .inr (.inl g3)))]) [0, 1, 2, 3, 4, 5, 6, 7, 8, 9] (by decide) rfl
                    have hK9 := hK.sub (tys' := [(cS, .object RX3), (cJ0, .long), (cJ1, .long), (cJ2, .long), (cJ3, .long)]) [0, 1, 2, 3, 4] rfl
                    exact W.iret (v := 0) hx hb hr (fun t ht hW => ⟨⟨0, (), rfl, ⟨(rg_w (by decide : (0 : Int) ≤ (0 : Int32).toInt ∧ (0 : Int32).toInt ≤ 0) (by decide) (by decide)), (ps_0 (j := 1) (t := 1) (by decide) (by decide) (by decide) (by have q1 := hg9_1; unfold RG at q1; omega) (by have q1 := hg9_1; unfold RG at q1; omega) (by have q1 := hg9_1; unfold RG at q1; omega))⟩, g0, o0_461, g2, g3, by rw [ht]; exact hP9, va_K.moved hW.alike hK9, hD9⟩, hS.F ht⟩) hS.2.2 dX9_paste_109
                  ·
                    have n_c_457 : (r_456.toInt : Int) = 0 := c_eq rfl (by decide) c_457
                    have b_r_456 : (0 : Int) ≤ r_456.toInt ∧ r_456.toInt ≤ 0 := r_eq1 b_r_456 (by decide : (0 : Int) ≤ (0 : Int32).toInt ∧ (0 : Int32).toInt ≤ 0) n_c_457 (by decide)
                    have g_462 := zz_r_456 c_457
                    refine lv_bipush (v := (-7)) hx hb dX9_paste_93 (by decide) ?_
                    have hP9 := hP.sub (ws' := [(h0, .inr (7, [.ref tp, .ref sc, .ref rd, .ref cu, .ref im, .ref ig, .ref sl, .ref se, .ref sm, .ref fc])), (sl, .inl (cS, 4, .inr (.inr (.inr (.inr (sf4 s0 s1 s2 s3)))))), (s0, .inr (2, [.int wd0, .int rz0, .ref n0])), (s1, .inr (2, [.int wd1, .int rz1, .ref n1])), (s2, .inr (2, [.int wd2, .int rz2, .ref n2])), (s3, .inr (2, [.int wd3, .int rz3, .ref n3])), (n0, .inl (cJ0, 60, .inr (.inl g0))), (n1, .inl (cJ1, 60, .inr (.inl g1))), (n2, .inl (cJ2, 60, .inr (.inl g2))), (n3, .inl (cJ3, 60, .inr (.inl g3)))]) [0, 1, 2, 3, 4, 5, 6, 7, 8, 9] rfl
                    have hD9 := hD.sub (ws' := [(h0, .inr (7, [.ref tp, .ref sc, .ref rd, .ref cu, .ref im, .ref ig, .ref sl, .ref se, .ref sm, .ref fc])), (sl, .inl (cS, 4, .inr (.inr (.inr (.inr (sf4 s0 s1 s2 s3)))))), (s0, .inr (2, [.int wd0, .int rz0, .ref n0])), (s1, .inr (2, [.int wd1, .int rz1, .ref n1])), (s2, .inr (2, [.int wd2, .int rz2, .ref n2])), (s3, .inr (2, [.int wd3, .int rz3, .ref n3])), (n0, .inl (cJ0, 60, .inr (.inl g0))), (n1, .inl (cJ1, 60, .inr (.inl g1))), (n2, .inl (cJ2, 60, .inr (.inl g2))), (n3, .inl (cJ3, 60, .inr (.inl g3)))]) [0, 1, 2, 3, 4, 5, 6, 7, 8, 9] (by decide) rfl
                    have hK9 := hK.sub (tys' := [(cS, .object RX3), (cJ0, .long), (cJ1, .long), (cJ2, .long), (cJ3, .long)]) [0, 1, 2, 3, 4] rfl
                    exact W.iret (v := (-7)) hx hb hr (fun t ht hW => ⟨⟨(-7), (), rfl, ⟨(rg_w (by decide : (-7 : Int) ≤ ((-7) : Int32).toInt ∧ ((-7) : Int32).toInt ≤ -7) (by decide) (by decide)), (ps_7 (j := 1) (t := 1) (by decide) (by decide) (by decide) (by have q1 := hg9_1; unfold RG at q1; omega) (by have q1 := hg9_1; unfold RG at q1; omega) (by have q1 := hg9_1; unfold RG at q1; omega))⟩, g0, g1, g2, g3, by rw [ht]; exact hP9, va_K.moved hW.alike hK9, hD9⟩, hS.F ht⟩) hS.2.2 dX9_paste_95
              ·
                have n_c_451 : (wd1.toInt : Int) ≠ wd1.toInt := c_ne rfl rfl c_451
                refine lv_bipush (v := (-8)) hx hb dX9_paste_67 (by decide) ?_
                have hP9 := hP.sub (ws' := [(h0, .inr (7, [.ref tp, .ref sc, .ref rd, .ref cu, .ref im, .ref ig, .ref sl, .ref se, .ref sm, .ref fc])), (sl, .inl (cS, 4, .inr (.inr (.inr (.inr (sf4 s0 s1 s2 s3)))))), (s0, .inr (2, [.int wd0, .int rz0, .ref n0])), (s1, .inr (2, [.int wd1, .int rz1, .ref n1])), (s2, .inr (2, [.int wd2, .int rz2, .ref n2])), (s3, .inr (2, [.int wd3, .int rz3, .ref n3])), (n0, .inl (cJ0, 60, .inr (.inl g0))), (n1, .inl (cJ1, 60, .inr (.inl g1))), (n2, .inl (cJ2, 60, .inr (.inl g2))), (n3, .inl (cJ3, 60, .inr (.inl g3)))]) [0, 1, 2, 3, 4, 5, 6, 7, 8, 9] rfl
                have hD9 := hD.sub (ws' := [(h0, .inr (7, [.ref tp, .ref sc, .ref rd, .ref cu, .ref im, .ref ig, .ref sl, .ref se, .ref sm, .ref fc])), (sl, .inl (cS, 4, .inr (.inr (.inr (.inr (sf4 s0 s1 s2 s3)))))), (s0, .inr (2, [.int wd0, .int rz0, .ref n0])), (s1, .inr (2, [.int wd1, .int rz1, .ref n1])), (s2, .inr (2, [.int wd2, .int rz2, .ref n2])), (s3, .inr (2, [.int wd3, .int rz3, .ref n3])), (n0, .inl (cJ0, 60, .inr (.inl g0))), (n1, .inl (cJ1, 60, .inr (.inl g1))), (n2, .inl (cJ2, 60, .inr (.inl g2))), (n3, .inl (cJ3, 60, .inr (.inl g3)))]) [0, 1, 2, 3, 4, 5, 6, 7, 8, 9] (by decide) rfl
                have hK9 := hK.sub (tys' := [(cS, .object RX3), (cJ0, .long), (cJ1, .long), (cJ2, .long), (cJ3, .long)]) [0, 1, 2, 3, 4] rfl
                exact W.iret (v := (-8)) hx hb hr (fun t ht hW => ⟨⟨(-8), (), rfl, ⟨(rg_w (by decide : (-8 : Int) ≤ ((-8) : Int32).toInt ∧ ((-8) : Int32).toInt ≤ -8) (by decide) (by decide)), (ps_8 (j := 1) (t := 1) (by decide) (by decide) (by decide) (by have q1 := hg9_1; unfold RG at q1; omega) (by have q1 := hg9_1; unfold RG at q1; omega))⟩, g0, g1, g2, g3, by rw [ht]; exact hP9, va_K.moved hW.alike hK9, hD9⟩, hS.F ht⟩) hS.2.2 dX9_paste_69
            ·
              have n_c_449 : (r_448.toInt : Int) = 0 := c_eq rfl (by decide) c_449
              have b_r_448 : (0 : Int) ≤ r_448.toInt ∧ r_448.toInt ≤ 0 := r_eq1 b_r_448 (by decide : (0 : Int) ≤ (0 : Int32).toInt ∧ (0 : Int32).toInt ≤ 0) n_c_449 (by decide)
              have g_463 := zz_r_448 c_449
              refine lv_bipush (v := (-6)) hx hb dX9_paste_51 (by decide) ?_
              have hP9 := hP.sub (ws' := [(h0, .inr (7, [.ref tp, .ref sc, .ref rd, .ref cu, .ref im, .ref ig, .ref sl, .ref se, .ref sm, .ref fc])), (sl, .inl (cS, 4, .inr (.inr (.inr (.inr (sf4 s0 s1 s2 s3)))))), (s0, .inr (2, [.int wd0, .int rz0, .ref n0])), (s1, .inr (2, [.int wd1, .int rz1, .ref n1])), (s2, .inr (2, [.int wd2, .int rz2, .ref n2])), (s3, .inr (2, [.int wd3, .int rz3, .ref n3])), (n0, .inl (cJ0, 60, .inr (.inl g0))), (n1, .inl (cJ1, 60, .inr (.inl g1))), (n2, .inl (cJ2, 60, .inr (.inl g2))), (n3, .inl (cJ3, 60, .inr (.inl g3)))]) [0, 1, 2, 3, 4, 5, 6, 7, 8, 9] rfl
              have hD9 := hD.sub (ws' := [(h0, .inr (7, [.ref tp, .ref sc, .ref rd, .ref cu, .ref im, .ref ig, .ref sl, .ref se, .ref sm, .ref fc])), (sl, .inl (cS, 4, .inr (.inr (.inr (.inr (sf4 s0 s1 s2 s3)))))), (s0, .inr (2, [.int wd0, .int rz0, .ref n0])), (s1, .inr (2, [.int wd1, .int rz1, .ref n1])), (s2, .inr (2, [.int wd2, .int rz2, .ref n2])), (s3, .inr (2, [.int wd3, .int rz3, .ref n3])), (n0, .inl (cJ0, 60, .inr (.inl g0))), (n1, .inl (cJ1, 60, .inr (.inl g1))), (n2, .inl (cJ2, 60, .inr (.inl g2))), (n3, .inl (cJ3, 60, .inr (.inl g3)))]) [0, 1, 2, 3, 4, 5, 6, 7, 8, 9] (by decide) rfl
              have hK9 := hK.sub (tys' := [(cS, .object RX3), (cJ0, .long), (cJ1, .long), (cJ2, .long), (cJ3, .long)]) [0, 1, 2, 3, 4] rfl
              exact W.iret (v := (-6)) hx hb hr (fun t ht hW => ⟨⟨(-6), (), rfl, ⟨(rg_w (by decide : (-6 : Int) ≤ ((-6) : Int32).toInt ∧ ((-6) : Int32).toInt ≤ -6) (by decide) (by decide)), (ps_6 (j := 1) (t := 1) (by decide) (by decide) (by decide) (by have q1 := hg9_1; unfold RG at q1; omega))⟩, g0, g1, g2, g3, by rw [ht]; exact hP9, va_K.moved hW.alike hK9, hD9⟩, hS.F ht⟩) hS.2.2 dX9_paste_53
        ·
          obtain rfl : a3 = 2 := Int32.toInt_inj.mp (h_423.trans (by decide))
          refine va_aldq hx hb hK hP 1 0 rfl rfl (vp_in_b (by decide : (2 : Int) ≤ (2 : Int32).toInt ∧ (2 : Int32).toInt ≤ 2) (by decide) (by decide)) dX9_paste_32 ?_
          refine W.eq (g2 := F0 m 33 ls (.ref s2 :: [])) (congrArg (fun v => F0 m 33 ls (va_rf v :: [])) (sf4_2 s0 s1 s2 s3)) ?_
          refine lv_astore (lv' := [(7, .ref s2), (6, .ref s1), (0, .ref h0), (1, .int 1), (2, .int a2), (3, .int 2), (4, .int a4), (5, .int a5)]) hx hb dX9_paste_33 hl (by decide) rfl (fun ls hl => ?_)
          refine lv_aload hx hb dX9_paste_35 (lv_at hl 1 rfl) ?_
          refine vp_callSi (W.runV (As := []) (rest := []) ⟨hx, hb, hml, hown, hts⟩ (kX3_stands2 l dC dI s1 wd1 rz1 n1 b_wd1 b_rz1) (cwV 0 hts gX9_pasteF__X3_stands2_V270 rfl rfl rfl hd_yX3_stands ⟨lel 1 2 rfl, lel 20 88 rfl⟩) ⟨pw_fb, rcv_X3 hK hP (q0 := 3) rfl, (pw_use hP hK hN [3] rfl [] rfl)⟩ rfl rfl hl.1 rfl (lv_room (Nat.le_of_ble_eq_true rfl)) dX9_paste_37 ⟨lel 0 0 rfl, lel 0 0 rfl⟩) (fun r_464 h_r_464 => ?_)
          obtain ⟨b_r_464, nz_r_464, zz_r_464⟩ := h_r_464
          have b_r_464 : (0 : Int) ≤ r_464.toInt ∧ r_464.toInt ≤ 1 := b_r_464
          refine lv_if_eq (tgt := 51) hx hb dX9_paste_40 (by decide) (fun c_465 => ?_) (fun c_465 => ?_)
          ·
            have n_c_465 : (r_464.toInt : Int) = 0 := c_eq rfl (by decide) c_465
            have b_r_464 : (0 : Int) ≤ r_464.toInt ∧ r_464.toInt ≤ 0 := r_eq1 b_r_464 (by decide : (0 : Int) ≤ (0 : Int32).toInt ∧ (0 : Int32).toInt ≤ 0) n_c_465 (by decide)
            have g_466 := zz_r_464 c_465
            refine lv_bipush (v := (-6)) hx hb dX9_paste_51 (by decide) ?_
            have hP9 := hP.sub (ws' := [(h0, .inr (7, [.ref tp, .ref sc, .ref rd, .ref cu, .ref im, .ref ig, .ref sl, .ref se, .ref sm, .ref fc])), (sl, .inl (cS, 4, .inr (.inr (.inr (.inr (sf4 s0 s1 s2 s3)))))), (s0, .inr (2, [.int wd0, .int rz0, .ref n0])), (s1, .inr (2, [.int wd1, .int rz1, .ref n1])), (s2, .inr (2, [.int wd2, .int rz2, .ref n2])), (s3, .inr (2, [.int wd3, .int rz3, .ref n3])), (n0, .inl (cJ0, 60, .inr (.inl g0))), (n1, .inl (cJ1, 60, .inr (.inl g1))), (n2, .inl (cJ2, 60, .inr (.inl g2))), (n3, .inl (cJ3, 60, .inr (.inl g3)))]) [0, 1, 2, 3, 4, 5, 6, 7, 8, 9] rfl
            have hD9 := hD.sub (ws' := [(h0, .inr (7, [.ref tp, .ref sc, .ref rd, .ref cu, .ref im, .ref ig, .ref sl, .ref se, .ref sm, .ref fc])), (sl, .inl (cS, 4, .inr (.inr (.inr (.inr (sf4 s0 s1 s2 s3)))))), (s0, .inr (2, [.int wd0, .int rz0, .ref n0])), (s1, .inr (2, [.int wd1, .int rz1, .ref n1])), (s2, .inr (2, [.int wd2, .int rz2, .ref n2])), (s3, .inr (2, [.int wd3, .int rz3, .ref n3])), (n0, .inl (cJ0, 60, .inr (.inl g0))), (n1, .inl (cJ1, 60, .inr (.inl g1))), (n2, .inl (cJ2, 60, .inr (.inl g2))), (n3, .inl (cJ3, 60, .inr (.inl g3)))]) [0, 1, 2, 3, 4, 5, 6, 7, 8, 9] (by decide) rfl
            have hK9 := hK.sub (tys' := [(cS, .object RX3), (cJ0, .long), (cJ1, .long), (cJ2, .long), (cJ3, .long)]) [0, 1, 2, 3, 4] rfl
            exact W.iret (v := (-6)) hx hb hr (fun t ht hW => ⟨⟨(-6), (), rfl, ⟨(rg_w (by decide : (-6 : Int) ≤ ((-6) : Int32).toInt ∧ ((-6) : Int32).toInt ≤ -6) (by decide) (by decide)), (ps_6 (j := 1) (t := 2) (by decide) (by decide) (by decide) (by have q1 := hg9_1; unfold RG at q1; have q2 := hg9_2; unfold RG at q2; omega))⟩, g0, g1, g2, g3, by rw [ht]; exact hP9, va_K.moved hW.alike hK9, hD9⟩, hS.F ht⟩) hS.2.2 dX9_paste_53
          ·
            have n_c_465 : (r_464.toInt : Int) ≠ 0 := c_ne rfl (by decide) c_465
            have b_r_464 : (1 : Int) ≤ r_464.toInt ∧ r_464.toInt ≤ 1 := r_ne1 b_r_464 (by decide : (0 : Int) ≤ (0 : Int32).toInt ∧ (0 : Int32).toInt ≤ 0) n_c_465 (by decide)
            obtain ⟨b_wd1, g_467⟩ := nz_r_464 c_465
            refine lv_aload hx hb dX9_paste_43 (lv_at hl 0 rfl) ?_
            refine vp_callSi (W.runV (As := []) (rest := []) ⟨hx, hb, hml, hown, hts⟩ (kX3_stands2 l dC dI s2 wd2 rz2 n2 b_wd2 b_rz2) (cwV 0 hts gX9_pasteF__X3_stands2_V270 rfl rfl rfl hd_yX3_stands ⟨lel 1 2 rfl, lel 20 88 rfl⟩) ⟨pw_fb, rcv_X3 hK hP (q0 := 4) rfl, (pw_use hP hK hN [4] rfl [] rfl)⟩ rfl rfl hl.1 rfl (lv_room (Nat.le_of_ble_eq_true rfl)) dX9_paste_45 ⟨lel 0 0 rfl, lel 0 0 rfl⟩) (fun r_468 h_r_468 => ?_)
            obtain ⟨b_r_468, nz_r_468, zz_r_468⟩ := h_r_468
            have b_r_468 : (0 : Int) ≤ r_468.toInt ∧ r_468.toInt ≤ 1 := b_r_468
            refine lv_if_ne (tgt := 54) hx hb dX9_paste_48 (by decide) (fun c_469 => ?_) (fun c_469 => ?_)
            ·
              have n_c_469 : (r_468.toInt : Int) ≠ 0 := c_ne rfl (by decide) c_469
              have b_r_468 : (1 : Int) ≤ r_468.toInt ∧ r_468.toInt ≤ 1 := r_ne1 b_r_468 (by decide : (0 : Int) ≤ (0 : Int32).toInt ∧ (0 : Int32).toInt ≤ 0) n_c_469 (by decide)
              obtain ⟨b_wd2, g_470⟩ := nz_r_468 c_469
              refine lv_aload hx hb dX9_paste_54 (lv_at hl 1 rfl) ?_
              refine va_getN (own := RX9) (index := 350) (ref := RX3) (host := RX9) (D := (dC, dI)) (ci := 2) (v := .int wd1) (C := RX3) (T := TX3) (N := 3) hx hb hts iX9_pasteF_X3 hown hK hP 3 rfl rfl 0 (by decide) (va_Nw.use rfl (hN _ (List.mem_of_getElem? (i := 21) rfl))) (fun _ h9 => h9) rfl dX9_paste_56 ?_
              refine lv_aload hx hb dX9_paste_59 (lv_at hl 0 rfl) ?_
              refine va_getN (own := RX9) (index := 350) (ref := RX3) (host := RX9) (D := (dC, dI)) (ci := 2) (v := .int wd2) (C := RX3) (T := TX3) (N := 3) hx hb hts iX9_pasteF_X3 hown hK hP 4 rfl rfl 0 (by decide) (va_Nw.use rfl (hN _ (List.mem_of_getElem? (i := 21) rfl))) (fun _ h9 => h9) rfl dX9_paste_61 ?_
              refine lv_icmp_eq (tgt := 70) hx hb dX9_paste_64 (by decide) (fun c_471 => ?_) (fun c_471 => ?_)
              ·
                have n_c_471 : (wd1.toInt : Int) = wd2.toInt := c_eq rfl rfl c_471
                refine lv_aload hx hb dX9_paste_70 (lv_at hl 1 rfl) ?_
                refine lv_iload_n hx hb dX9_paste_72 rfl (lv_at hl 4 rfl) ?_
                refine lv_iload hx hb dX9_paste_73 (lv_at hl 7 rfl) ?_
                refine vp_callSi (W.runV (As := [.int a2, .int a5]) (rest := []) ⟨hx, hb, hml, hown, hts⟩ (kX3_hasStretch2 l dC dI s1 wd1 rz1 n1 a2 a5 (rg_w b_wd1 (by decide) (by decide)) b_rz1) (cwV 2 hts gX9_pasteF__X3_hasStretch2_V343 rfl rfl rfl hd_yX3_hasStretch ⟨lel 1 2 rfl, lel 22 88 rfl⟩) ⟨pw_fb, rcv_X3 hK hP (q0 := 3) rfl, (pw_use hP hK hN [3] rfl [] rfl)⟩ rfl rfl hl.1 rfl (lv_room (Nat.le_of_ble_eq_true rfl)) dX9_paste_75 ⟨lel 0 0 rfl, lel 0 0 rfl⟩) (fun r_472 h_r_472 => ?_)
                obtain ⟨b_r_472, nz_r_472, zz_r_472⟩ := h_r_472
                have b_r_472 : (0 : Int) ≤ r_472.toInt ∧ r_472.toInt ≤ 1 := b_r_472
                refine lv_if_eq (tgt := 93) hx hb dX9_paste_78 (by decide) (fun c_473 => ?_) (fun c_473 => ?_)
                ·
                  have n_c_473 : (r_472.toInt : Int) = 0 := c_eq rfl (by decide) c_473
                  have b_r_472 : (0 : Int) ≤ r_472.toInt ∧ r_472.toInt ≤ 0 := r_eq1 b_r_472 (by decide : (0 : Int) ≤ (0 : Int32).toInt ∧ (0 : Int32).toInt ≤ 0) n_c_473 (by decide)
                  have g_474 := zz_r_472 c_473
                  refine lv_bipush (v := (-7)) hx hb dX9_paste_93 (by decide) ?_
                  have hP9 := hP.sub (ws' := [(h0, .inr (7, [.ref tp, .ref sc, .ref rd, .ref cu, .ref im, .ref ig, .ref sl, .ref se, .ref sm, .ref fc])), (sl, .inl (cS, 4, .inr (.inr (.inr (.inr (sf4 s0 s1 s2 s3)))))), (s0, .inr (2, [.int wd0, .int rz0, .ref n0])), (s1, .inr (2, [.int wd1, .int rz1, .ref n1])), (s2, .inr (2, [.int wd2, .int rz2, .ref n2])), (s3, .inr (2, [.int wd3, .int rz3, .ref n3])), (n0, .inl (cJ0, 60, .inr (.inl g0))), (n1, .inl (cJ1, 60, .inr (.inl g1))), (n2, .inl (cJ2, 60, .inr (.inl g2))), (n3, .inl (cJ3, 60, .inr (.inl g3)))]) [0, 1, 2, 3, 4, 5, 6, 7, 8, 9] rfl
                  have hD9 := hD.sub (ws' := [(h0, .inr (7, [.ref tp, .ref sc, .ref rd, .ref cu, .ref im, .ref ig, .ref sl, .ref se, .ref sm, .ref fc])), (sl, .inl (cS, 4, .inr (.inr (.inr (.inr (sf4 s0 s1 s2 s3)))))), (s0, .inr (2, [.int wd0, .int rz0, .ref n0])), (s1, .inr (2, [.int wd1, .int rz1, .ref n1])), (s2, .inr (2, [.int wd2, .int rz2, .ref n2])), (s3, .inr (2, [.int wd3, .int rz3, .ref n3])), (n0, .inl (cJ0, 60, .inr (.inl g0))), (n1, .inl (cJ1, 60, .inr (.inl g1))), (n2, .inl (cJ2, 60, .inr (.inl g2))), (n3, .inl (cJ3, 60, .inr (.inl g3)))]) [0, 1, 2, 3, 4, 5, 6, 7, 8, 9] (by decide) rfl
                  have hK9 := hK.sub (tys' := [(cS, .object RX3), (cJ0, .long), (cJ1, .long), (cJ2, .long), (cJ3, .long)]) [0, 1, 2, 3, 4] rfl
                  exact W.iret (v := (-7)) hx hb hr (fun t ht hW => ⟨⟨(-7), (), rfl, ⟨(rg_w (by decide : (-7 : Int) ≤ ((-7) : Int32).toInt ∧ ((-7) : Int32).toInt ≤ -7) (by decide) (by decide)), (ps_7 (j := 1) (t := 2) (by decide) (by decide) (by decide) (by have q1 := hg9_1; unfold RG at q1; have q2 := hg9_2; unfold RG at q2; omega) (by have q1 := hg9_1; unfold RG at q1; have q2 := hg9_2; unfold RG at q2; omega) (by have q1 := hg9_1; unfold RG at q1; have q2 := hg9_2; unfold RG at q2; omega))⟩, g0, g1, g2, g3, by rw [ht]; exact hP9, va_K.moved hW.alike hK9, hD9⟩, hS.F ht⟩) hS.2.2 dX9_paste_95
                ·
                  have n_c_473 : (r_472.toInt : Int) ≠ 0 := c_ne rfl (by decide) c_473
                  have b_r_472 : (1 : Int) ≤ r_472.toInt ∧ r_472.toInt ≤ 1 := r_ne1 b_r_472 (by decide : (0 : Int) ≤ (0 : Int32).toInt ∧ (0 : Int32).toInt ≤ 0) n_c_473 (by decide)
                  obtain ⟨b_a2, b_a5, g_475⟩ := nz_r_472 c_473
                  refine lv_aload hx hb dX9_paste_81 (lv_at hl 0 rfl) ?_
                  refine lv_iload hx hb dX9_paste_83 (lv_at hl 6 rfl) ?_
                  refine lv_iload hx hb dX9_paste_85 (lv_at hl 7 rfl) ?_
                  refine vp_callSi (W.runV (As := [.int a4, .int a5]) (rest := []) ⟨hx, hb, hml, hown, hts⟩ (kX3_hasStretch2 l dC dI s2 wd2 rz2 n2 a4 a5 (rg_w b_wd2 (by decide) (by decide)) b_rz2) (cwV 2 hts gX9_pasteF__X3_hasStretch2_V343 rfl rfl rfl hd_yX3_hasStretch ⟨lel 1 2 rfl, lel 22 88 rfl⟩) ⟨pw_fb, rcv_X3 hK hP (q0 := 4) rfl, (pw_use hP hK hN [4] rfl [] rfl)⟩ rfl rfl hl.1 rfl (lv_room (Nat.le_of_ble_eq_true rfl)) dX9_paste_87 ⟨lel 0 0 rfl, lel 0 0 rfl⟩) (fun r_476 h_r_476 => ?_)
                  obtain ⟨b_r_476, nz_r_476, zz_r_476⟩ := h_r_476
                  have b_r_476 : (0 : Int) ≤ r_476.toInt ∧ r_476.toInt ≤ 1 := b_r_476
                  refine lv_if_ne (tgt := 96) hx hb dX9_paste_90 (by decide) (fun c_477 => ?_) (fun c_477 => ?_)
                  ·
                    have n_c_477 : (r_476.toInt : Int) ≠ 0 := c_ne rfl (by decide) c_477
                    have b_r_476 : (1 : Int) ≤ r_476.toInt ∧ r_476.toInt ≤ 1 := r_ne1 b_r_476 (by decide : (0 : Int) ≤ (0 : Int32).toInt ∧ (0 : Int32).toInt ≤ 0) n_c_477 (by decide)
                    obtain ⟨b_a4, b_a5, g_478⟩ := nz_r_476 c_477
                    refine lv_aload hx hb dX9_paste_96 (lv_at hl 0 rfl) ?_
                    refine lv_iload hx hb dX9_paste_98 (lv_at hl 6 rfl) ?_
                    refine lv_aload hx hb dX9_paste_100 (lv_at hl 1 rfl) ?_
                    refine lv_iload_n hx hb dX9_paste_102 rfl (lv_at hl 4 rfl) ?_
                    refine lv_iload hx hb dX9_paste_103 (lv_at hl 7 rfl) ?_
                    have hFc := va_free (wc := [(s2, .inr (2, [.int wd2, .int rz2, .ref n2])), (n2, .inl (cJ2, 60, .inr (.inl g2))), (s1, .inr (2, [.int wd1, .int rz1, .ref n1])), (n1, .inl (cJ1, 60, .inr (.inl g1)))]) hD hS hA [4, 8, 3, 7] rfl
                    refine va_callv (va_runV (As := [.int a4, .ref s1, .int a2, .int a5]) (rest := []) ⟨hx, hb, hml, hown, hts⟩ (kX3_take l dC dI s2 wd2 rz2 n2 cJ2 g2 s1 wd1 rz1 n1 cJ1 g1 a4 a2 a5 (s.heap.size) (rg_w b_wd2 (by decide) (by decide)) b_rz2 (rg_w b_wd1 (by decide) (by decide)) b_rz1) (cwV 4 hts gX9_pasteF__X3_take_V353 rfl rfl rfl hd_yX3_take ⟨lel 2 2 rfl, lel 88 88 rfl⟩) ⟨hw_fb, rcv_X3 hK hP (q0 := 4) rfl, (hw_use hP hD hK hN [4, 8, 3, 7] rfl (by decide) rfl [3, 2] rfl)⟩ rfl rfl hl.1 rfl (lv_room (Nat.le_of_ble_eq_true rfl)) dX9_paste_105 ⟨lel 0 0 rfl, lel 0 0 rfl⟩) hS (fun q _ h => hFc q h) hFc (fun u_480 t H1 locs ht hvm hw_r_479 hB hz1 hk1 hS => ?_)
                    obtain ⟨o0_481, hP1, hK1, hD1⟩ := hB
                    rw [ht] at hP1
                    have hK1 := va_K.moved hvm.symm hK1
                    obtain ⟨hP, hD⟩ := va_join (wr := [(h0, .inr (7, [.ref tp, .ref sc, .ref rd, .ref cu, .ref im, .ref ig, .ref sl, .ref se, .ref sm, .ref fc])), (sl, .inl (cS, 4, .inr (.inr (.inr (.inr (sf4 s0 s1 s2 s3)))))), (s0, .inr (2, [.int wd0, .int rz0, .ref n0])), (s3, .inr (2, [.int wd3, .int rz3, .ref n3])), (n0, .inl (cJ0, 60, .inr (.inl g0))), (n3, .inl (cJ3, 60, .inr (.inl g3)))]) (w1 := [(s2, .inr (2, [.int wd2, .int rz2, .ref n2])), (n2, .inl (cJ2, 60, .inr (.inl o0_481))), (s1, .inr (2, [.int wd1, .int rz1, .ref n1])), (n1, .inl (cJ1, 60, .inr (.inl g1)))]) hP hD [4, 8, 3, 7] [0, 1, 2, 5, 6, 9] rfl rfl (by decide) (by decide) hk1 hFc hP1 hD1
                    have hK := (hK.sub (tys' := [(cS, .object RX3), (cJ0, .long), (cJ3, .long)]) [0, 1, 4] rfl).app hK1
                    generalize H1 = H at hP hS ⊢
                    have hP := hP.sub (ws' := [(h0, .inr (7, [.ref tp, .ref sc, .ref rd, .ref cu, .ref im, .ref ig, .ref sl, .ref se, .ref sm, .ref fc])), (sl, .inl (cS, 4, .inr (.inr (.inr (.inr (sf4 s0 s1 s2 s3)))))), (s0, .inr (2, [.int wd0, .int rz0, .ref n0])), (s1, .inr (2, [.int wd1, .int rz1, .ref n1])), (s2, .inr (2, [.int wd2, .int rz2, .ref n2])), (s3, .inr (2, [.int wd3, .int rz3, .ref n3])), (n0, .inl (cJ0, 60, .inr (.inl g0))), (n1, .inl (cJ1, 60, .inr (.inl g1))), (n2, .inl (cJ2, 60, .inr (.inl o0_481))), (n3, .inl (cJ3, 60, .inr (.inl g3)))]) [0, 1, 2, 8, 6, 3, 4, 9, 7, 5] rfl
                    have hD := hD.sub (ws' := [(h0, .inr (7, [.ref tp, .ref sc, .ref rd, .ref cu, .ref im, .ref ig, .ref sl, .ref se, .ref sm, .ref fc])), (sl, .inl (cS, 4, .inr (.inr (.inr (.inr (sf4 s0 s1 s2 s3)))))), (s0, .inr (2, [.int wd0, .int rz0, .ref n0])), (s1, .inr (2, [.int wd1, .int rz1, .ref n1])), (s2, .inr (2, [.int wd2, .int rz2, .ref n2])), (s3, .inr (2, [.int wd3, .int rz3, .ref n3])), (n0, .inl (cJ0, 60, .inr (.inl g0))), (n1, .inl (cJ1, 60, .inr (.inl g1))), (n2, .inl (cJ2, 60, .inr (.inl o0_481))), (n3, .inl (cJ3, 60, .inr (.inl g3)))]) [0, 1, 2, 8, 6, 3, 4, 9, 7, 5] (by decide) rfl
                    have hK := hK.sub (tys' := [(cS, .object RX3), (cJ0, .long), (cJ1, .long), (cJ2, .long), (cJ3, .long)]) [0, 1, 4, 3, 2] rfl
                    have hP : va_P (dC, dI) vwCl [(h0, .inr (7, [.ref tp, .ref sc, .ref rd, .ref cu, .ref im, .ref ig, .ref sl, .ref se, .ref sm, .ref fc])), (sl, .inl (cS, 4, .inr (.inr (.inr (.inr (sf4 s0 s1 s2 s3)))))), (s0, .inr (2, [.int wd0, .int rz0, .ref n0])), (s1, .inr (2, [.int wd1, .int rz1, .ref n1])), (s2, .inr (2, [.int wd2, .int rz2, .ref n2])), (s3, .inr (2, [.int wd3, .int rz3, .ref n3])), (n0, .inl (cJ0, 60, .inr (.inl g0))), (n1, .inl (cJ1, 60, .inr (.inl g1))), (n2, .inl (cJ2, 60, .inr (.inl o0_481))), (n3, .inl (cJ3, 60, .inr (.inl g3)))] H := hP
                    have hD : va_D A [(h0, .inr (7, [.ref tp, .ref sc, .ref rd, .ref cu, .ref im, .ref ig, .ref sl, .ref se, .ref sm, .ref fc])), (sl, .inl (cS, 4, .inr (.inr (.inr (.inr (sf4 s0 s1 s2 s3)))))), (s0, .inr (2, [.int wd0, .int rz0, .ref n0])), (s1, .inr (2, [.int wd1, .int rz1, .ref n1])), (s2, .inr (2, [.int wd2, .int rz2, .ref n2])), (s3, .inr (2, [.int wd3, .int rz3, .ref n3])), (n0, .inl (cJ0, 60, .inr (.inl g0))), (n1, .inl (cJ1, 60, .inr (.inl g1))), (n2, .inl (cJ2, 60, .inr (.inl o0_481))), (n3, .inl (cJ3, 60, .inr (.inl g3)))] := hD
                    have hK : va_K (dC, dI) vwCl [(cS, .object RX3), (cJ0, .long), (cJ1, .long), (cJ2, .long), (cJ3, .long)] s := hK
                    refine lv_iconst (v := 0) hx hb dX9_paste_108 (by decide) ?_
                    have hP9 := hP.sub (ws' := [(h0, .inr (7, [.ref tp, .ref sc, .ref rd, .ref cu, .ref im, .ref ig, .ref sl, .ref se, .ref sm, .ref fc])), (sl, .inl (cS, 4, .inr (.inr (.inr (.inr (sf4 s0 s1 s2 s3)))))), (s0, .inr (2, [.int wd0, .int rz0, .ref n0])), (s1, .inr (2, [.int wd1, .int rz1, .ref n1])), (s2, .inr (2, [.int wd2, .int rz2, .ref n2])), (s3, .inr (2, [.int wd3, .int rz3, .ref n3])), (n0, .inl (cJ0, 60, .inr (.inl g0))), (n1, .inl (cJ1, 60, .inr (.inl g1))), (n2, .inl (cJ2, 60, .inr (.inl o0_481))), (n3, .inl (cJ3, 60, .inr (.inl g3)))]) [0, 1, 2, 3, 4, 5, 6, 7, 8, 9] rfl
                    have hD9 := hD.sub (ws' := [(h0, .inr (7, [.ref tp, .ref sc, .ref rd, .ref cu, .ref im, .ref ig, .ref sl, .ref se, .ref sm, .ref fc])), (sl, .inl (cS, 4, .inr (.inr (.inr (.inr (sf4 s0 s1 s2 s3)))))), (s0, .inr (2, [.int wd0, .int rz0, .ref n0])), (s1, .inr (2, [.int wd1, .int rz1, .ref n1])), (s2, .inr (2, [.int wd2, .int rz2, .ref n2])), (s3, .inr (2, [.int wd3, .int rz3, .ref n3])), (n0, .inl (cJ0, 60, .inr (.inl g0))), (n1, .inl (cJ1, 60, .inr (.inl g1))), (n2, .inl (cJ2, 60, .inr (.inl o0_481))), (n3, .inl (cJ3, 60, .inr (.inl g3)))]) [0, 1, 2, 3, 4, 5, 6, 7, 8, 9] (by decide) rfl
                    have hK9 := hK.sub (tys' := [(cS, .object RX3), (cJ0, .long), (cJ1, .long), (cJ2, .long), (cJ3, .long)]) [0, 1, 2, 3, 4] rfl
                    exact W.iret (v := 0) hx hb hr (fun t ht hW => ⟨⟨0, (), rfl, ⟨(rg_w (by decide : (0 : Int) ≤ (0 : Int32).toInt ∧ (0 : Int32).toInt ≤ 0) (by decide) (by decide)), (ps_0 (j := 1) (t := 2) (by decide) (by decide) (by decide) (by have q1 := hg9_1; unfold RG at q1; have q2 := hg9_2; unfold RG at q2; omega) (by have q1 := hg9_1; unfold RG at q1; have q2 := hg9_2; unfold RG at q2; omega) (by have q1 := hg9_1; unfold RG at q1; have q2 := hg9_2; unfold RG at q2; omega))⟩, g0, g1, o0_481, g3, by rw [ht]; exact hP9, va_K.moved hW.alike hK9, hD9⟩, hS.F ht⟩) hS.2.2 dX9_paste_109
                  ·
                    have n_c_477 : (r_476.toInt : Int) = 0 := c_eq rfl (by decide) c_477
                    have b_r_476 : (0 : Int) ≤ r_476.toInt ∧ r_476.toInt ≤ 0 := r_eq1 b_r_476 (by decide : (0 : Int) ≤ (0 : Int32).toInt ∧ (0 : Int32).toInt ≤ 0) n_c_477 (by decide)
                    have g_482 := zz_r_476 c_477
                    refine lv_bipush (v := (-7)) hx hb dX9_paste_93 (by decide) ?_
                    have hP9 := hP.sub (ws' := [(h0, .inr (7, [.ref tp, .ref sc, .ref rd, .ref cu, .ref im, .ref ig, .ref sl, .ref se, .ref sm, .ref fc])), (sl, .inl (cS, 4, .inr (.inr (.inr (.inr (sf4 s0 s1 s2 s3)))))), (s0, .inr (2, [.int wd0, .int rz0, .ref n0])), (s1, .inr (2, [.int wd1, .int rz1, .ref n1])), (s2, .inr (2, [.int wd2, .int rz2, .ref n2])), (s3, .inr (2, [.int wd3, .int rz3, .ref n3])), (n0, .inl (cJ0, 60, .inr (.inl g0))), (n1, .inl (cJ1, 60, .inr (.inl g1))), (n2, .inl (cJ2, 60, .inr (.inl g2))), (n3, .inl (cJ3, 60, .inr (.inl g3)))]) [0, 1, 2, 3, 4, 5, 6, 7, 8, 9] rfl
                    have hD9 := hD.sub (ws' := [(h0, .inr (7, [.ref tp, .ref sc, .ref rd, .ref cu, .ref im, .ref ig, .ref sl, .ref se, .ref sm, .ref fc])), (sl, .inl (cS, 4, .inr (.inr (.inr (.inr (sf4 s0 s1 s2 s3)))))), (s0, .inr (2, [.int wd0, .int rz0, .ref n0])), (s1, .inr (2, [.int wd1, .int rz1, .ref n1])), (s2, .inr (2, [.int wd2, .int rz2, .ref n2])), (s3, .inr (2, [.int wd3, .int rz3, .ref n3])), (n0, .inl (cJ0, 60, .inr (.inl g0))), (n1, .inl (cJ1, 60, .inr (.inl g1))), (n2, .inl (cJ2, 60, .inr (.inl g2))), (n3, .inl (cJ3, 60, .inr (.inl g3)))]) [0, 1, 2, 3, 4, 5, 6, 7, 8, 9] (by decide) rfl
                    have hK9 := hK.sub (tys' := [(cS, .object RX3), (cJ0, .long), (cJ1, .long), (cJ2, .long), (cJ3, .long)]) [0, 1, 2, 3, 4] rfl
                    exact W.iret (v := (-7)) hx hb hr (fun t ht hW => ⟨⟨(-7), (), rfl, ⟨(rg_w (by decide : (-7 : Int) ≤ ((-7) : Int32).toInt ∧ ((-7) : Int32).toInt ≤ -7) (by decide) (by decide)), (ps_7 (j := 1) (t := 2) (by decide) (by decide) (by decide) (by have q1 := hg9_1; unfold RG at q1; have q2 := hg9_2; unfold RG at q2; omega) (by have q1 := hg9_1; unfold RG at q1; have q2 := hg9_2; unfold RG at q2; omega) (by have q1 := hg9_1; unfold RG at q1; have q2 := hg9_2; unfold RG at q2; omega))⟩, g0, g1, g2, g3, by rw [ht]; exact hP9, va_K.moved hW.alike hK9, hD9⟩, hS.F ht⟩) hS.2.2 dX9_paste_95
              ·
                have n_c_471 : (wd1.toInt : Int) ≠ wd2.toInt := c_ne rfl rfl c_471
                refine lv_bipush (v := (-8)) hx hb dX9_paste_67 (by decide) ?_
                have hP9 := hP.sub (ws' := [(h0, .inr (7, [.ref tp, .ref sc, .ref rd, .ref cu, .ref im, .ref ig, .ref sl, .ref se, .ref sm, .ref fc])), (sl, .inl (cS, 4, .inr (.inr (.inr (.inr (sf4 s0 s1 s2 s3)))))), (s0, .inr (2, [.int wd0, .int rz0, .ref n0])), (s1, .inr (2, [.int wd1, .int rz1, .ref n1])), (s2, .inr (2, [.int wd2, .int rz2, .ref n2])), (s3, .inr (2, [.int wd3, .int rz3, .ref n3])), (n0, .inl (cJ0, 60, .inr (.inl g0))), (n1, .inl (cJ1, 60, .inr (.inl g1))), (n2, .inl (cJ2, 60, .inr (.inl g2))), (n3, .inl (cJ3, 60, .inr (.inl g3)))]) [0, 1, 2, 3, 4, 5, 6, 7, 8, 9] rfl
                have hD9 := hD.sub (ws' := [(h0, .inr (7, [.ref tp, .ref sc, .ref rd, .ref cu, .ref im, .ref ig, .ref sl, .ref se, .ref sm, .ref fc])), (sl, .inl (cS, 4, .inr (.inr (.inr (.inr (sf4 s0 s1 s2 s3)))))), (s0, .inr (2, [.int wd0, .int rz0, .ref n0])), (s1, .inr (2, [.int wd1, .int rz1, .ref n1])), (s2, .inr (2, [.int wd2, .int rz2, .ref n2])), (s3, .inr (2, [.int wd3, .int rz3, .ref n3])), (n0, .inl (cJ0, 60, .inr (.inl g0))), (n1, .inl (cJ1, 60, .inr (.inl g1))), (n2, .inl (cJ2, 60, .inr (.inl g2))), (n3, .inl (cJ3, 60, .inr (.inl g3)))]) [0, 1, 2, 3, 4, 5, 6, 7, 8, 9] (by decide) rfl
                have hK9 := hK.sub (tys' := [(cS, .object RX3), (cJ0, .long), (cJ1, .long), (cJ2, .long), (cJ3, .long)]) [0, 1, 2, 3, 4] rfl
                exact W.iret (v := (-8)) hx hb hr (fun t ht hW => ⟨⟨(-8), (), rfl, ⟨(rg_w (by decide : (-8 : Int) ≤ ((-8) : Int32).toInt ∧ ((-8) : Int32).toInt ≤ -8) (by decide) (by decide)), (ps_8 (j := 1) (t := 2) (by decide) (by decide) (by decide) (by have q1 := hg9_1; unfold RG at q1; have q2 := hg9_2; unfold RG at q2; omega) (by have q1 := hg9_1; unfold RG at q1; have q2 := hg9_2; unfold RG at q2; omega))⟩, g0, g1, g2, g3, by rw [ht]; exact hP9, va_K.moved hW.alike hK9, hD9⟩, hS.F ht⟩) hS.2.2 dX9_paste_69
            ·
              have n_c_469 : (r_468.toInt : Int) = 0 := c_eq rfl (by decide) c_469
              have b_r_468 : (0 : Int) ≤ r_468.toInt ∧ r_468.toInt ≤ 0 := r_eq1 b_r_468 (by decide : (0 : Int) ≤ (0 : Int32).toInt ∧ (0 : Int32).toInt ≤ 0) n_c_469 (by decide)
              have g_483 := zz_r_468 c_469
              refine lv_bipush (v := (-6)) hx hb dX9_paste_51 (by decide) ?_
              have hP9 := hP.sub (ws' := [(h0, .inr (7, [.ref tp, .ref sc, .ref rd, .ref cu, .ref im, .ref ig, .ref sl, .ref se, .ref sm, .ref fc])), (sl, .inl (cS, 4, .inr (.inr (.inr (.inr (sf4 s0 s1 s2 s3)))))), (s0, .inr (2, [.int wd0, .int rz0, .ref n0])), (s1, .inr (2, [.int wd1, .int rz1, .ref n1])), (s2, .inr (2, [.int wd2, .int rz2, .ref n2])), (s3, .inr (2, [.int wd3, .int rz3, .ref n3])), (n0, .inl (cJ0, 60, .inr (.inl g0))), (n1, .inl (cJ1, 60, .inr (.inl g1))), (n2, .inl (cJ2, 60, .inr (.inl g2))), (n3, .inl (cJ3, 60, .inr (.inl g3)))]) [0, 1, 2, 3, 4, 5, 6, 7, 8, 9] rfl
              have hD9 := hD.sub (ws' := [(h0, .inr (7, [.ref tp, .ref sc, .ref rd, .ref cu, .ref im, .ref ig, .ref sl, .ref se, .ref sm, .ref fc])), (sl, .inl (cS, 4, .inr (.inr (.inr (.inr (sf4 s0 s1 s2 s3)))))), (s0, .inr (2, [.int wd0, .int rz0, .ref n0])), (s1, .inr (2, [.int wd1, .int rz1, .ref n1])), (s2, .inr (2, [.int wd2, .int rz2, .ref n2])), (s3, .inr (2, [.int wd3, .int rz3, .ref n3])), (n0, .inl (cJ0, 60, .inr (.inl g0))), (n1, .inl (cJ1, 60, .inr (.inl g1))), (n2, .inl (cJ2, 60, .inr (.inl g2))), (n3, .inl (cJ3, 60, .inr (.inl g3)))]) [0, 1, 2, 3, 4, 5, 6, 7, 8, 9] (by decide) rfl
              have hK9 := hK.sub (tys' := [(cS, .object RX3), (cJ0, .long), (cJ1, .long), (cJ2, .long), (cJ3, .long)]) [0, 1, 2, 3, 4] rfl
              exact W.iret (v := (-6)) hx hb hr (fun t ht hW => ⟨⟨(-6), (), rfl, ⟨(rg_w (by decide : (-6 : Int) ≤ ((-6) : Int32).toInt ∧ ((-6) : Int32).toInt ≤ -6) (by decide) (by decide)), (ps_6 (j := 1) (t := 2) (by decide) (by decide) (by decide) (by have q1 := hg9_1; unfold RG at q1; have q2 := hg9_2; unfold RG at q2; omega))⟩, g0, g1, g2, g3, by rw [ht]; exact hP9, va_K.moved hW.alike hK9, hD9⟩, hS.F ht⟩) hS.2.2 dX9_paste_53
        ·
          obtain rfl : a3 = 3 := Int32.toInt_inj.mp (h_423.trans (by decide))
          refine va_aldq hx hb hK hP 1 0 rfl rfl (vp_in_b (by decide : (3 : Int) ≤ (3 : Int32).toInt ∧ (3 : Int32).toInt ≤ 3) (by decide) (by decide)) dX9_paste_32 ?_
          refine W.eq (g2 := F0 m 33 ls (.ref s3 :: [])) (congrArg (fun v => F0 m 33 ls (va_rf v :: [])) (sf4_3 s0 s1 s2 s3)) ?_
          refine lv_astore (lv' := [(7, .ref s3), (6, .ref s1), (0, .ref h0), (1, .int 1), (2, .int a2), (3, .int 3), (4, .int a4), (5, .int a5)]) hx hb dX9_paste_33 hl (by decide) rfl (fun ls hl => ?_)
          refine lv_aload hx hb dX9_paste_35 (lv_at hl 1 rfl) ?_
          refine vp_callSi (W.runV (As := []) (rest := []) ⟨hx, hb, hml, hown, hts⟩ (kX3_stands2 l dC dI s1 wd1 rz1 n1 b_wd1 b_rz1) (cwV 0 hts gX9_pasteF__X3_stands2_V270 rfl rfl rfl hd_yX3_stands ⟨lel 1 2 rfl, lel 20 88 rfl⟩) ⟨pw_fb, rcv_X3 hK hP (q0 := 3) rfl, (pw_use hP hK hN [3] rfl [] rfl)⟩ rfl rfl hl.1 rfl (lv_room (Nat.le_of_ble_eq_true rfl)) dX9_paste_37 ⟨lel 0 0 rfl, lel 0 0 rfl⟩) (fun r_484 h_r_484 => ?_)
          obtain ⟨b_r_484, nz_r_484, zz_r_484⟩ := h_r_484
          have b_r_484 : (0 : Int) ≤ r_484.toInt ∧ r_484.toInt ≤ 1 := b_r_484
          refine lv_if_eq (tgt := 51) hx hb dX9_paste_40 (by decide) (fun c_485 => ?_) (fun c_485 => ?_)
          ·
            have n_c_485 : (r_484.toInt : Int) = 0 := c_eq rfl (by decide) c_485
            have b_r_484 : (0 : Int) ≤ r_484.toInt ∧ r_484.toInt ≤ 0 := r_eq1 b_r_484 (by decide : (0 : Int) ≤ (0 : Int32).toInt ∧ (0 : Int32).toInt ≤ 0) n_c_485 (by decide)
            have g_486 := zz_r_484 c_485
            refine lv_bipush (v := (-6)) hx hb dX9_paste_51 (by decide) ?_
            have hP9 := hP.sub (ws' := [(h0, .inr (7, [.ref tp, .ref sc, .ref rd, .ref cu, .ref im, .ref ig, .ref sl, .ref se, .ref sm, .ref fc])), (sl, .inl (cS, 4, .inr (.inr (.inr (.inr (sf4 s0 s1 s2 s3)))))), (s0, .inr (2, [.int wd0, .int rz0, .ref n0])), (s1, .inr (2, [.int wd1, .int rz1, .ref n1])), (s2, .inr (2, [.int wd2, .int rz2, .ref n2])), (s3, .inr (2, [.int wd3, .int rz3, .ref n3])), (n0, .inl (cJ0, 60, .inr (.inl g0))), (n1, .inl (cJ1, 60, .inr (.inl g1))), (n2, .inl (cJ2, 60, .inr (.inl g2))), (n3, .inl (cJ3, 60, .inr (.inl g3)))]) [0, 1, 2, 3, 4, 5, 6, 7, 8, 9] rfl
            have hD9 := hD.sub (ws' := [(h0, .inr (7, [.ref tp, .ref sc, .ref rd, .ref cu, .ref im, .ref ig, .ref sl, .ref se, .ref sm, .ref fc])), (sl, .inl (cS, 4, .inr (.inr (.inr (.inr (sf4 s0 s1 s2 s3)))))), (s0, .inr (2, [.int wd0, .int rz0, .ref n0])), (s1, .inr (2, [.int wd1, .int rz1, .ref n1])), (s2, .inr (2, [.int wd2, .int rz2, .ref n2])), (s3, .inr (2, [.int wd3, .int rz3, .ref n3])), (n0, .inl (cJ0, 60, .inr (.inl g0))), (n1, .inl (cJ1, 60, .inr (.inl g1))), (n2, .inl (cJ2, 60, .inr (.inl g2))), (n3, .inl (cJ3, 60, .inr (.inl g3)))]) [0, 1, 2, 3, 4, 5, 6, 7, 8, 9] (by decide) rfl
            have hK9 := hK.sub (tys' := [(cS, .object RX3), (cJ0, .long), (cJ1, .long), (cJ2, .long), (cJ3, .long)]) [0, 1, 2, 3, 4] rfl
            exact W.iret (v := (-6)) hx hb hr (fun t ht hW => ⟨⟨(-6), (), rfl, ⟨(rg_w (by decide : (-6 : Int) ≤ ((-6) : Int32).toInt ∧ ((-6) : Int32).toInt ≤ -6) (by decide) (by decide)), (ps_6 (j := 1) (t := 3) (by decide) (by decide) (by decide) (by have q1 := hg9_1; unfold RG at q1; have q3 := hg9_3; unfold RG at q3; omega))⟩, g0, g1, g2, g3, by rw [ht]; exact hP9, va_K.moved hW.alike hK9, hD9⟩, hS.F ht⟩) hS.2.2 dX9_paste_53
          ·
            have n_c_485 : (r_484.toInt : Int) ≠ 0 := c_ne rfl (by decide) c_485
            have b_r_484 : (1 : Int) ≤ r_484.toInt ∧ r_484.toInt ≤ 1 := r_ne1 b_r_484 (by decide : (0 : Int) ≤ (0 : Int32).toInt ∧ (0 : Int32).toInt ≤ 0) n_c_485 (by decide)
            obtain ⟨b_wd1, g_487⟩ := nz_r_484 c_485
            refine lv_aload hx hb dX9_paste_43 (lv_at hl 0 rfl) ?_
            refine vp_callSi (W.runV (As := []) (rest := []) ⟨hx, hb, hml, hown, hts⟩ (kX3_stands2 l dC dI s3 wd3 rz3 n3 b_wd3 b_rz3) (cwV 0 hts gX9_pasteF__X3_stands2_V270 rfl rfl rfl hd_yX3_stands ⟨lel 1 2 rfl, lel 20 88 rfl⟩) ⟨pw_fb, rcv_X3 hK hP (q0 := 5) rfl, (pw_use hP hK hN [5] rfl [] rfl)⟩ rfl rfl hl.1 rfl (lv_room (Nat.le_of_ble_eq_true rfl)) dX9_paste_45 ⟨lel 0 0 rfl, lel 0 0 rfl⟩) (fun r_488 h_r_488 => ?_)
            obtain ⟨b_r_488, nz_r_488, zz_r_488⟩ := h_r_488
            have b_r_488 : (0 : Int) ≤ r_488.toInt ∧ r_488.toInt ≤ 1 := b_r_488
            refine lv_if_ne (tgt := 54) hx hb dX9_paste_48 (by decide) (fun c_489 => ?_) (fun c_489 => ?_)
            ·
              have n_c_489 : (r_488.toInt : Int) ≠ 0 := c_ne rfl (by decide) c_489
              have b_r_488 : (1 : Int) ≤ r_488.toInt ∧ r_488.toInt ≤ 1 := r_ne1 b_r_488 (by decide : (0 : Int) ≤ (0 : Int32).toInt ∧ (0 : Int32).toInt ≤ 0) n_c_489 (by decide)
              obtain ⟨b_wd3, g_490⟩ := nz_r_488 c_489
              refine lv_aload hx hb dX9_paste_54 (lv_at hl 1 rfl) ?_
              refine va_getN (own := RX9) (index := 350) (ref := RX3) (host := RX9) (D := (dC, dI)) (ci := 2) (v := .int wd1) (C := RX3) (T := TX3) (N := 3) hx hb hts iX9_pasteF_X3 hown hK hP 3 rfl rfl 0 (by decide) (va_Nw.use rfl (hN _ (List.mem_of_getElem? (i := 21) rfl))) (fun _ h9 => h9) rfl dX9_paste_56 ?_
              refine lv_aload hx hb dX9_paste_59 (lv_at hl 0 rfl) ?_
              refine va_getN (own := RX9) (index := 350) (ref := RX3) (host := RX9) (D := (dC, dI)) (ci := 2) (v := .int wd3) (C := RX3) (T := TX3) (N := 3) hx hb hts iX9_pasteF_X3 hown hK hP 5 rfl rfl 0 (by decide) (va_Nw.use rfl (hN _ (List.mem_of_getElem? (i := 21) rfl))) (fun _ h9 => h9) rfl dX9_paste_61 ?_
              refine lv_icmp_eq (tgt := 70) hx hb dX9_paste_64 (by decide) (fun c_491 => ?_) (fun c_491 => ?_)
              ·
                have n_c_491 : (wd1.toInt : Int) = wd3.toInt := c_eq rfl rfl c_491
                refine lv_aload hx hb dX9_paste_70 (lv_at hl 1 rfl) ?_
                refine lv_iload_n hx hb dX9_paste_72 rfl (lv_at hl 4 rfl) ?_
                refine lv_iload hx hb dX9_paste_73 (lv_at hl 7 rfl) ?_
                refine vp_callSi (W.runV (As := [.int a2, .int a5]) (rest := []) ⟨hx, hb, hml, hown, hts⟩ (kX3_hasStretch2 l dC dI s1 wd1 rz1 n1 a2 a5 (rg_w b_wd1 (by decide) (by decide)) b_rz1) (cwV 2 hts gX9_pasteF__X3_hasStretch2_V343 rfl rfl rfl hd_yX3_hasStretch ⟨lel 1 2 rfl, lel 22 88 rfl⟩) ⟨pw_fb, rcv_X3 hK hP (q0 := 3) rfl, (pw_use hP hK hN [3] rfl [] rfl)⟩ rfl rfl hl.1 rfl (lv_room (Nat.le_of_ble_eq_true rfl)) dX9_paste_75 ⟨lel 0 0 rfl, lel 0 0 rfl⟩) (fun r_492 h_r_492 => ?_)
                obtain ⟨b_r_492, nz_r_492, zz_r_492⟩ := h_r_492
                have b_r_492 : (0 : Int) ≤ r_492.toInt ∧ r_492.toInt ≤ 1 := b_r_492
                refine lv_if_eq (tgt := 93) hx hb dX9_paste_78 (by decide) (fun c_493 => ?_) (fun c_493 => ?_)
                ·
                  have n_c_493 : (r_492.toInt : Int) = 0 := c_eq rfl (by decide) c_493
                  have b_r_492 : (0 : Int) ≤ r_492.toInt ∧ r_492.toInt ≤ 0 := r_eq1 b_r_492 (by decide : (0 : Int) ≤ (0 : Int32).toInt ∧ (0 : Int32).toInt ≤ 0) n_c_493 (by decide)
                  have g_494 := zz_r_492 c_493
                  refine lv_bipush (v := (-7)) hx hb dX9_paste_93 (by decide) ?_
                  have hP9 := hP.sub (ws' := [(h0, .inr (7, [.ref tp, .ref sc, .ref rd, .ref cu, .ref im, .ref ig, .ref sl, .ref se, .ref sm, .ref fc])), (sl, .inl (cS, 4, .inr (.inr (.inr (.inr (sf4 s0 s1 s2 s3)))))), (s0, .inr (2, [.int wd0, .int rz0, .ref n0])), (s1, .inr (2, [.int wd1, .int rz1, .ref n1])), (s2, .inr (2, [.int wd2, .int rz2, .ref n2])), (s3, .inr (2, [.int wd3, .int rz3, .ref n3])), (n0, .inl (cJ0, 60, .inr (.inl g0))), (n1, .inl (cJ1, 60, .inr (.inl g1))), (n2, .inl (cJ2, 60, .inr (.inl g2))), (n3, .inl (cJ3, 60, .inr (.inl g3)))]) [0, 1, 2, 3, 4, 5, 6, 7, 8, 9] rfl
                  have hD9 := hD.sub (ws' := [(h0, .inr (7, [.ref tp, .ref sc, .ref rd, .ref cu, .ref im, .ref ig, .ref sl, .ref se, .ref sm, .ref fc])), (sl, .inl (cS, 4, .inr (.inr (.inr (.inr (sf4 s0 s1 s2 s3)))))), (s0, .inr (2, [.int wd0, .int rz0, .ref n0])), (s1, .inr (2, [.int wd1, .int rz1, .ref n1])), (s2, .inr (2, [.int wd2, .int rz2, .ref n2])), (s3, .inr (2, [.int wd3, .int rz3, .ref n3])), (n0, .inl (cJ0, 60, .inr (.inl g0))), (n1, .inl (cJ1, 60, .inr (.inl g1))), (n2, .inl (cJ2, 60, .inr (.inl g2))), (n3, .inl (cJ3, 60, .inr (.inl g3)))]) [0, 1, 2, 3, 4, 5, 6, 7, 8, 9] (by decide) rfl
                  have hK9 := hK.sub (tys' := [(cS, .object RX3), (cJ0, .long), (cJ1, .long), (cJ2, .long), (cJ3, .long)]) [0, 1, 2, 3, 4] rfl
                  exact W.iret (v := (-7)) hx hb hr (fun t ht hW => ⟨⟨(-7), (), rfl, ⟨(rg_w (by decide : (-7 : Int) ≤ ((-7) : Int32).toInt ∧ ((-7) : Int32).toInt ≤ -7) (by decide) (by decide)), (ps_7 (j := 1) (t := 3) (by decide) (by decide) (by decide) (by have q1 := hg9_1; unfold RG at q1; have q3 := hg9_3; unfold RG at q3; omega) (by have q1 := hg9_1; unfold RG at q1; have q3 := hg9_3; unfold RG at q3; omega) (by have q1 := hg9_1; unfold RG at q1; have q3 := hg9_3; unfold RG at q3; omega))⟩, g0, g1, g2, g3, by rw [ht]; exact hP9, va_K.moved hW.alike hK9, hD9⟩, hS.F ht⟩) hS.2.2 dX9_paste_95
                ·
                  have n_c_493 : (r_492.toInt : Int) ≠ 0 := c_ne rfl (by decide) c_493
                  have b_r_492 : (1 : Int) ≤ r_492.toInt ∧ r_492.toInt ≤ 1 := r_ne1 b_r_492 (by decide : (0 : Int) ≤ (0 : Int32).toInt ∧ (0 : Int32).toInt ≤ 0) n_c_493 (by decide)
                  obtain ⟨b_a2, b_a5, g_495⟩ := nz_r_492 c_493
                  refine lv_aload hx hb dX9_paste_81 (lv_at hl 0 rfl) ?_
                  refine lv_iload hx hb dX9_paste_83 (lv_at hl 6 rfl) ?_
                  refine lv_iload hx hb dX9_paste_85 (lv_at hl 7 rfl) ?_
                  refine vp_callSi (W.runV (As := [.int a4, .int a5]) (rest := []) ⟨hx, hb, hml, hown, hts⟩ (kX3_hasStretch2 l dC dI s3 wd3 rz3 n3 a4 a5 (rg_w b_wd3 (by decide) (by decide)) b_rz3) (cwV 2 hts gX9_pasteF__X3_hasStretch2_V343 rfl rfl rfl hd_yX3_hasStretch ⟨lel 1 2 rfl, lel 22 88 rfl⟩) ⟨pw_fb, rcv_X3 hK hP (q0 := 5) rfl, (pw_use hP hK hN [5] rfl [] rfl)⟩ rfl rfl hl.1 rfl (lv_room (Nat.le_of_ble_eq_true rfl)) dX9_paste_87 ⟨lel 0 0 rfl, lel 0 0 rfl⟩) (fun r_496 h_r_496 => ?_)
                  obtain ⟨b_r_496, nz_r_496, zz_r_496⟩ := h_r_496
                  have b_r_496 : (0 : Int) ≤ r_496.toInt ∧ r_496.toInt ≤ 1 := b_r_496
                  refine lv_if_ne (tgt := 96) hx hb dX9_paste_90 (by decide) (fun c_497 => ?_) (fun c_497 => ?_)
                  ·
                    have n_c_497 : (r_496.toInt : Int) ≠ 0 := c_ne rfl (by decide) c_497
                    have b_r_496 : (1 : Int) ≤ r_496.toInt ∧ r_496.toInt ≤ 1 := r_ne1 b_r_496 (by decide : (0 : Int) ≤ (0 : Int32).toInt ∧ (0 : Int32).toInt ≤ 0) n_c_497 (by decide)
                    obtain ⟨b_a4, b_a5, g_498⟩ := nz_r_496 c_497
                    refine lv_aload hx hb dX9_paste_96 (lv_at hl 0 rfl) ?_
                    refine lv_iload hx hb dX9_paste_98 (lv_at hl 6 rfl) ?_
                    refine lv_aload hx hb dX9_paste_100 (lv_at hl 1 rfl) ?_
                    refine lv_iload_n hx hb dX9_paste_102 rfl (lv_at hl 4 rfl) ?_
                    refine lv_iload hx hb dX9_paste_103 (lv_at hl 7 rfl) ?_
                    have hFc := va_free (wc := [(s3, .inr (2, [.int wd3, .int rz3, .ref n3])), (n3, .inl (cJ3, 60, .inr (.inl g3))), (s1, .inr (2, [.int wd1, .int rz1, .ref n1])), (n1, .inl (cJ1, 60, .inr (.inl g1)))]) hD hS hA [5, 9, 3, 7] rfl
                    refine va_callv (va_runV (As := [.int a4, .ref s1, .int a2, .int a5]) (rest := []) ⟨hx, hb, hml, hown, hts⟩ (kX3_take l dC dI s3 wd3 rz3 n3 cJ3 g3 s1 wd1 rz1 n1 cJ1 g1 a4 a2 a5 (s.heap.size) (rg_w b_wd3 (by decide) (by decide)) b_rz3 (rg_w b_wd1 (by decide) (by decide)) b_rz1) (cwV 4 hts gX9_pasteF__X3_take_V353 rfl rfl rfl hd_yX3_take ⟨lel 2 2 rfl, lel 88 88 rfl⟩) ⟨hw_fb, rcv_X3 hK hP (q0 := 5) rfl, (hw_use hP hD hK hN [5, 9, 3, 7] rfl (by decide) rfl [4, 2] rfl)⟩ rfl rfl hl.1 rfl (lv_room (Nat.le_of_ble_eq_true rfl)) dX9_paste_105 ⟨lel 0 0 rfl, lel 0 0 rfl⟩) hS (fun q _ h => hFc q h) hFc (fun u_500 t H1 locs ht hvm hw_r_499 hB hz1 hk1 hS => ?_)
                    obtain ⟨o0_501, hP1, hK1, hD1⟩ := hB
                    rw [ht] at hP1
                    have hK1 := va_K.moved hvm.symm hK1
                    obtain ⟨hP, hD⟩ := va_join (wr := [(h0, .inr (7, [.ref tp, .ref sc, .ref rd, .ref cu, .ref im, .ref ig, .ref sl, .ref se, .ref sm, .ref fc])), (sl, .inl (cS, 4, .inr (.inr (.inr (.inr (sf4 s0 s1 s2 s3)))))), (s0, .inr (2, [.int wd0, .int rz0, .ref n0])), (s2, .inr (2, [.int wd2, .int rz2, .ref n2])), (n0, .inl (cJ0, 60, .inr (.inl g0))), (n2, .inl (cJ2, 60, .inr (.inl g2)))]) (w1 := [(s3, .inr (2, [.int wd3, .int rz3, .ref n3])), (n3, .inl (cJ3, 60, .inr (.inl o0_501))), (s1, .inr (2, [.int wd1, .int rz1, .ref n1])), (n1, .inl (cJ1, 60, .inr (.inl g1)))]) hP hD [5, 9, 3, 7] [0, 1, 2, 4, 6, 8] rfl rfl (by decide) (by decide) hk1 hFc hP1 hD1
                    have hK := (hK.sub (tys' := [(cS, .object RX3), (cJ0, .long), (cJ2, .long)]) [0, 1, 3] rfl).app hK1
                    generalize H1 = H at hP hS ⊢
                    have hP := hP.sub (ws' := [(h0, .inr (7, [.ref tp, .ref sc, .ref rd, .ref cu, .ref im, .ref ig, .ref sl, .ref se, .ref sm, .ref fc])), (sl, .inl (cS, 4, .inr (.inr (.inr (.inr (sf4 s0 s1 s2 s3)))))), (s0, .inr (2, [.int wd0, .int rz0, .ref n0])), (s1, .inr (2, [.int wd1, .int rz1, .ref n1])), (s2, .inr (2, [.int wd2, .int rz2, .ref n2])), (s3, .inr (2, [.int wd3, .int rz3, .ref n3])), (n0, .inl (cJ0, 60, .inr (.inl g0))), (n1, .inl (cJ1, 60, .inr (.inl g1))), (n2, .inl (cJ2, 60, .inr (.inl g2))), (n3, .inl (cJ3, 60, .inr (.inl o0_501)))]) [0, 1, 2, 8, 3, 6, 4, 9, 5, 7] rfl
                    have hD := hD.sub (ws' := [(h0, .inr (7, [.ref tp, .ref sc, .ref rd, .ref cu, .ref im, .ref ig, .ref sl, .ref se, .ref sm, .ref fc])), (sl, .inl (cS, 4, .inr (.inr (.inr (.inr (sf4 s0 s1 s2 s3)))))), (s0, .inr (2, [.int wd0, .int rz0, .ref n0])), (s1, .inr (2, [.int wd1, .int rz1, .ref n1])), (s2, .inr (2, [.int wd2, .int rz2, .ref n2])), (s3, .inr (2, [.int wd3, .int rz3, .ref n3])), (n0, .inl (cJ0, 60, .inr (.inl g0))), (n1, .inl (cJ1, 60, .inr (.inl g1))), (n2, .inl (cJ2, 60, .inr (.inl g2))), (n3, .inl (cJ3, 60, .inr (.inl o0_501)))]) [0, 1, 2, 8, 3, 6, 4, 9, 5, 7] (by decide) rfl
                    have hK := hK.sub (tys' := [(cS, .object RX3), (cJ0, .long), (cJ1, .long), (cJ2, .long), (cJ3, .long)]) [0, 1, 4, 2, 3] rfl
                    have hP : va_P (dC, dI) vwCl [(h0, .inr (7, [.ref tp, .ref sc, .ref rd, .ref cu, .ref im, .ref ig, .ref sl, .ref se, .ref sm, .ref fc])), (sl, .inl (cS, 4, .inr (.inr (.inr (.inr (sf4 s0 s1 s2 s3)))))), (s0, .inr (2, [.int wd0, .int rz0, .ref n0])), (s1, .inr (2, [.int wd1, .int rz1, .ref n1])), (s2, .inr (2, [.int wd2, .int rz2, .ref n2])), (s3, .inr (2, [.int wd3, .int rz3, .ref n3])), (n0, .inl (cJ0, 60, .inr (.inl g0))), (n1, .inl (cJ1, 60, .inr (.inl g1))), (n2, .inl (cJ2, 60, .inr (.inl g2))), (n3, .inl (cJ3, 60, .inr (.inl o0_501)))] H := hP
                    have hD : va_D A [(h0, .inr (7, [.ref tp, .ref sc, .ref rd, .ref cu, .ref im, .ref ig, .ref sl, .ref se, .ref sm, .ref fc])), (sl, .inl (cS, 4, .inr (.inr (.inr (.inr (sf4 s0 s1 s2 s3)))))), (s0, .inr (2, [.int wd0, .int rz0, .ref n0])), (s1, .inr (2, [.int wd1, .int rz1, .ref n1])), (s2, .inr (2, [.int wd2, .int rz2, .ref n2])), (s3, .inr (2, [.int wd3, .int rz3, .ref n3])), (n0, .inl (cJ0, 60, .inr (.inl g0))), (n1, .inl (cJ1, 60, .inr (.inl g1))), (n2, .inl (cJ2, 60, .inr (.inl g2))), (n3, .inl (cJ3, 60, .inr (.inl o0_501)))] := hD
                    have hK : va_K (dC, dI) vwCl [(cS, .object RX3), (cJ0, .long), (cJ1, .long), (cJ2, .long), (cJ3, .long)] s := hK
                    refine lv_iconst (v := 0) hx hb dX9_paste_108 (by decide) ?_
                    have hP9 := hP.sub (ws' := [(h0, .inr (7, [.ref tp, .ref sc, .ref rd, .ref cu, .ref im, .ref ig, .ref sl, .ref se, .ref sm, .ref fc])), (sl, .inl (cS, 4, .inr (.inr (.inr (.inr (sf4 s0 s1 s2 s3)))))), (s0, .inr (2, [.int wd0, .int rz0, .ref n0])), (s1, .inr (2, [.int wd1, .int rz1, .ref n1])), (s2, .inr (2, [.int wd2, .int rz2, .ref n2])), (s3, .inr (2, [.int wd3, .int rz3, .ref n3])), (n0, .inl (cJ0, 60, .inr (.inl g0))), (n1, .inl (cJ1, 60, .inr (.inl g1))), (n2, .inl (cJ2, 60, .inr (.inl g2))), (n3, .inl (cJ3, 60, .inr (.inl o0_501)))]) [0, 1, 2, 3, 4, 5, 6, 7, 8, 9] rfl
                    have hD9 := hD.sub (ws' := [(h0, .inr (7, [.ref tp, .ref sc, .ref rd, .ref cu, .ref im, .ref ig, .ref sl, .ref se, .ref sm, .ref fc])), (sl, .inl (cS, 4, .inr (.inr (.inr (.inr (sf4 s0 s1 s2 s3)))))), (s0, .inr (2, [.int wd0, .int rz0, .ref n0])), (s1, .inr (2, [.int wd1, .int rz1, .ref n1])), (s2, .inr (2, [.int wd2, .int rz2, .ref n2])), (s3, .inr (2, [.int wd3, .int rz3, .ref n3])), (n0, .inl (cJ0, 60, .inr (.inl g0))), (n1, .inl (cJ1, 60, .inr (.inl g1))), (n2, .inl (cJ2, 60, .inr (.inl g2))), (n3, .inl (cJ3, 60, .inr (.inl o0_501)))]) [0, 1, 2, 3, 4, 5, 6, 7, 8, 9] (by decide) rfl
                    have hK9 := hK.sub (tys' := [(cS, .object RX3), (cJ0, .long), (cJ1, .long), (cJ2, .long), (cJ3, .long)]) [0, 1, 2, 3, 4] rfl
                    exact W.iret (v := 0) hx hb hr (fun t ht hW => ⟨⟨0, (), rfl, ⟨(rg_w (by decide : (0 : Int) ≤ (0 : Int32).toInt ∧ (0 : Int32).toInt ≤ 0) (by decide) (by decide)), (ps_0 (j := 1) (t := 3) (by decide) (by decide) (by decide) (by have q1 := hg9_1; unfold RG at q1; have q3 := hg9_3; unfold RG at q3; omega) (by have q1 := hg9_1; unfold RG at q1; have q3 := hg9_3; unfold RG at q3; omega) (by have q1 := hg9_1; unfold RG at q1; have q3 := hg9_3; unfold RG at q3; omega))⟩, g0, g1, g2, o0_501, by rw [ht]; exact hP9, va_K.moved hW.alike hK9, hD9⟩, hS.F ht⟩) hS.2.2 dX9_paste_109
                  ·
                    have n_c_497 : (r_496.toInt : Int) = 0 := c_eq rfl (by decide) c_497
                    have b_r_496 : (0 : Int) ≤ r_496.toInt ∧ r_496.toInt ≤ 0 := r_eq1 b_r_496 (by decide : (0 : Int) ≤ (0 : Int32).toInt ∧ (0 : Int32).toInt ≤ 0) n_c_497 (by decide)
                    have g_502 := zz_r_496 c_497
                    refine lv_bipush (v := (-7)) hx hb dX9_paste_93 (by decide) ?_
                    have hP9 := hP.sub (ws' := [(h0, .inr (7, [.ref tp, .ref sc, .ref rd, .ref cu, .ref im, .ref ig, .ref sl, .ref se, .ref sm, .ref fc])), (sl, .inl (cS, 4, .inr (.inr (.inr (.inr (sf4 s0 s1 s2 s3)))))), (s0, .inr (2, [.int wd0, .int rz0, .ref n0])), (s1, .inr (2, [.int wd1, .int rz1, .ref n1])), (s2, .inr (2, [.int wd2, .int rz2, .ref n2])), (s3, .inr (2, [.int wd3, .int rz3, .ref n3])), (n0, .inl (cJ0, 60, .inr (.inl g0))), (n1, .inl (cJ1, 60, .inr (.inl g1))), (n2, .inl (cJ2, 60, .inr (.inl g2))), (n3, .inl (cJ3, 60, .inr (.inl g3)))]) [0, 1, 2, 3, 4, 5, 6, 7, 8, 9] rfl
                    have hD9 := hD.sub (ws' := [(h0, .inr (7, [.ref tp, .ref sc, .ref rd, .ref cu, .ref im, .ref ig, .ref sl, .ref se, .ref sm, .ref fc])), (sl, .inl (cS, 4, .inr (.inr (.inr (.inr (sf4 s0 s1 s2 s3)))))), (s0, .inr (2, [.int wd0, .int rz0, .ref n0])), (s1, .inr (2, [.int wd1, .int rz1, .ref n1])), (s2, .inr (2, [.int wd2, .int rz2, .ref n2])), (s3, .inr (2, [.int wd3, .int rz3, .ref n3])), (n0, .inl (cJ0, 60, .inr (.inl g0))), (n1, .inl (cJ1, 60, .inr (.inl g1))), (n2, .inl (cJ2, 60, .inr (.inl g2))), (n3, .inl (cJ3, 60, .inr (.inl g3)))]) [0, 1, 2, 3, 4, 5, 6, 7, 8, 9] (by decide) rfl
                    have hK9 := hK.sub (tys' := [(cS, .object RX3), (cJ0, .long), (cJ1, .long), (cJ2, .long), (cJ3, .long)]) [0, 1, 2, 3, 4] rfl
                    exact W.iret (v := (-7)) hx hb hr (fun t ht hW => ⟨⟨(-7), (), rfl, ⟨(rg_w (by decide : (-7 : Int) ≤ ((-7) : Int32).toInt ∧ ((-7) : Int32).toInt ≤ -7) (by decide) (by decide)), (ps_7 (j := 1) (t := 3) (by decide) (by decide) (by decide) (by have q1 := hg9_1; unfold RG at q1; have q3 := hg9_3; unfold RG at q3; omega) (by have q1 := hg9_1; unfold RG at q1; have q3 := hg9_3; unfold RG at q3; omega) (by have q1 := hg9_1; unfold RG at q1; have q3 := hg9_3; unfold RG at q3; omega))⟩, g0, g1, g2, g3, by rw [ht]; exact hP9, va_K.moved hW.alike hK9, hD9⟩, hS.F ht⟩) hS.2.2 dX9_paste_95
              ·
                have n_c_491 : (wd1.toInt : Int) ≠ wd3.toInt := c_ne rfl rfl c_491
                refine lv_bipush (v := (-8)) hx hb dX9_paste_67 (by decide) ?_
                have hP9 := hP.sub (ws' := [(h0, .inr (7, [.ref tp, .ref sc, .ref rd, .ref cu, .ref im, .ref ig, .ref sl, .ref se, .ref sm, .ref fc])), (sl, .inl (cS, 4, .inr (.inr (.inr (.inr (sf4 s0 s1 s2 s3)))))), (s0, .inr (2, [.int wd0, .int rz0, .ref n0])), (s1, .inr (2, [.int wd1, .int rz1, .ref n1])), (s2, .inr (2, [.int wd2, .int rz2, .ref n2])), (s3, .inr (2, [.int wd3, .int rz3, .ref n3])), (n0, .inl (cJ0, 60, .inr (.inl g0))), (n1, .inl (cJ1, 60, .inr (.inl g1))), (n2, .inl (cJ2, 60, .inr (.inl g2))), (n3, .inl (cJ3, 60, .inr (.inl g3)))]) [0, 1, 2, 3, 4, 5, 6, 7, 8, 9] rfl
                have hD9 := hD.sub (ws' := [(h0, .inr (7, [.ref tp, .ref sc, .ref rd, .ref cu, .ref im, .ref ig, .ref sl, .ref se, .ref sm, .ref fc])), (sl, .inl (cS, 4, .inr (.inr (.inr (.inr (sf4 s0 s1 s2 s3)))))), (s0, .inr (2, [.int wd0, .int rz0, .ref n0])), (s1, .inr (2, [.int wd1, .int rz1, .ref n1])), (s2, .inr (2, [.int wd2, .int rz2, .ref n2])), (s3, .inr (2, [.int wd3, .int rz3, .ref n3])), (n0, .inl (cJ0, 60, .inr (.inl g0))), (n1, .inl (cJ1, 60, .inr (.inl g1))), (n2, .inl (cJ2, 60, .inr (.inl g2))), (n3, .inl (cJ3, 60, .inr (.inl g3)))]) [0, 1, 2, 3, 4, 5, 6, 7, 8, 9] (by decide) rfl
                have hK9 := hK.sub (tys' := [(cS, .object RX3), (cJ0, .long), (cJ1, .long), (cJ2, .long), (cJ3, .long)]) [0, 1, 2, 3, 4] rfl
                exact W.iret (v := (-8)) hx hb hr (fun t ht hW => ⟨⟨(-8), (), rfl, ⟨(rg_w (by decide : (-8 : Int) ≤ ((-8) : Int32).toInt ∧ ((-8) : Int32).toInt ≤ -8) (by decide) (by decide)), (ps_8 (j := 1) (t := 3) (by decide) (by decide) (by decide) (by have q1 := hg9_1; unfold RG at q1; have q3 := hg9_3; unfold RG at q3; omega) (by have q1 := hg9_1; unfold RG at q1; have q3 := hg9_3; unfold RG at q3; omega))⟩, g0, g1, g2, g3, by rw [ht]; exact hP9, va_K.moved hW.alike hK9, hD9⟩, hS.F ht⟩) hS.2.2 dX9_paste_69
            ·
              have n_c_489 : (r_488.toInt : Int) = 0 := c_eq rfl (by decide) c_489
              have b_r_488 : (0 : Int) ≤ r_488.toInt ∧ r_488.toInt ≤ 0 := r_eq1 b_r_488 (by decide : (0 : Int) ≤ (0 : Int32).toInt ∧ (0 : Int32).toInt ≤ 0) n_c_489 (by decide)
              have g_503 := zz_r_488 c_489
              refine lv_bipush (v := (-6)) hx hb dX9_paste_51 (by decide) ?_
              have hP9 := hP.sub (ws' := [(h0, .inr (7, [.ref tp, .ref sc, .ref rd, .ref cu, .ref im, .ref ig, .ref sl, .ref se, .ref sm, .ref fc])), (sl, .inl (cS, 4, .inr (.inr (.inr (.inr (sf4 s0 s1 s2 s3)))))), (s0, .inr (2, [.int wd0, .int rz0, .ref n0])), (s1, .inr (2, [.int wd1, .int rz1, .ref n1])), (s2, .inr (2, [.int wd2, .int rz2, .ref n2])), (s3, .inr (2, [.int wd3, .int rz3, .ref n3])), (n0, .inl (cJ0, 60, .inr (.inl g0))), (n1, .inl (cJ1, 60, .inr (.inl g1))), (n2, .inl (cJ2, 60, .inr (.inl g2))), (n3, .inl (cJ3, 60, .inr (.inl g3)))]) [0, 1, 2, 3, 4, 5, 6, 7, 8, 9] rfl
              have hD9 := hD.sub (ws' := [(h0, .inr (7, [.ref tp, .ref sc, .ref rd, .ref cu, .ref im, .ref ig, .ref sl, .ref se, .ref sm, .ref fc])), (sl, .inl (cS, 4, .inr (.inr (.inr (.inr (sf4 s0 s1 s2 s3)))))), (s0, .inr (2, [.int wd0, .int rz0, .ref n0])), (s1, .inr (2, [.int wd1, .int rz1, .ref n1])), (s2, .inr (2, [.int wd2, .int rz2, .ref n2])), (s3, .inr (2, [.int wd3, .int rz3, .ref n3])), (n0, .inl (cJ0, 60, .inr (.inl g0))), (n1, .inl (cJ1, 60, .inr (.inl g1))), (n2, .inl (cJ2, 60, .inr (.inl g2))), (n3, .inl (cJ3, 60, .inr (.inl g3)))]) [0, 1, 2, 3, 4, 5, 6, 7, 8, 9] (by decide) rfl
              have hK9 := hK.sub (tys' := [(cS, .object RX3), (cJ0, .long), (cJ1, .long), (cJ2, .long), (cJ3, .long)]) [0, 1, 2, 3, 4] rfl
              exact W.iret (v := (-6)) hx hb hr (fun t ht hW => ⟨⟨(-6), (), rfl, ⟨(rg_w (by decide : (-6 : Int) ≤ ((-6) : Int32).toInt ∧ ((-6) : Int32).toInt ≤ -6) (by decide) (by decide)), (ps_6 (j := 1) (t := 3) (by decide) (by decide) (by decide) (by have q1 := hg9_1; unfold RG at q1; have q3 := hg9_3; unfold RG at q3; omega))⟩, g0, g1, g2, g3, by rw [ht]; exact hP9, va_K.moved hW.alike hK9, hD9⟩, hS.F ht⟩) hS.2.2 dX9_paste_53
      ·
        obtain rfl : a1 = 2 := Int32.toInt_inj.mp (h_341.trans (by decide))
        refine va_aldq hx hb hK hP 1 0 rfl rfl (vp_in_b (by decide : (2 : Int) ≤ (2 : Int32).toInt ∧ (2 : Int32).toInt ≤ 2) (by decide) (by decide)) dX9_paste_24 ?_
        refine W.eq (g2 := F0 m 25 ls (.ref s2 :: [])) (congrArg (fun v => F0 m 25 ls (va_rf v :: [])) (sf4_2 s0 s1 s2 s3)) ?_
        refine lv_astore (lv' := [(6, .ref s2), (0, .ref h0), (1, .int 2), (2, .int a2), (3, .int a3), (4, .int a4), (5, .int a5)]) hx hb dX9_paste_25 hl (by decide) rfl (fun ls hl => ?_)
        refine lv_aload_n hx hb dX9_paste_27 rfl (lv_at hl 1 rfl) ?_
        refine va_get (D := (dC, dI)) (ci := 7) (v := .ref sl) (C := RX9) (T := TX9) (N := 10) hx hb hts iX9_pasteF_X9 hown hK hP 0 rfl rfl 6 (by decide) (hts (.fieldLink RX9 50 "LuckyTicket" "slots" "[LLuckyTicket$Row;") (List.mem_of_getElem? (i := 5) rfl)) (fun _ h9 => h9) rfl dX9_paste_28 ?_
        refine lv_iload_n hx hb dX9_paste_31 rfl (lv_at hl 4 rfl) ?_
        rcases (show a3.toInt = 0 ∨ a3.toInt = 1 ∨ a3.toInt = 2 ∨ a3.toInt = 3 by omega) with h_504 | h_504 | h_504 | h_504
        ·
          obtain rfl : a3 = 0 := Int32.toInt_inj.mp (h_504.trans (by decide))
          refine va_aldq hx hb hK hP 1 0 rfl rfl (vp_in_b (by decide : (0 : Int) ≤ (0 : Int32).toInt ∧ (0 : Int32).toInt ≤ 0) (by decide) (by decide)) dX9_paste_32 ?_
          refine W.eq (g2 := F0 m 33 ls (.ref s0 :: [])) (congrArg (fun v => F0 m 33 ls (va_rf v :: [])) (sf4_0 s0 s1 s2 s3)) ?_
          refine lv_astore (lv' := [(7, .ref s0), (6, .ref s2), (0, .ref h0), (1, .int 2), (2, .int a2), (3, .int 0), (4, .int a4), (5, .int a5)]) hx hb dX9_paste_33 hl (by decide) rfl (fun ls hl => ?_)
          refine lv_aload hx hb dX9_paste_35 (lv_at hl 1 rfl) ?_
          refine vp_callSi (W.runV (As := []) (rest := []) ⟨hx, hb, hml, hown, hts⟩ (kX3_stands2 l dC dI s2 wd2 rz2 n2 b_wd2 b_rz2) (cwV 0 hts gX9_pasteF__X3_stands2_V270 rfl rfl rfl hd_yX3_stands ⟨lel 1 2 rfl, lel 20 88 rfl⟩) ⟨pw_fb, rcv_X3 hK hP (q0 := 4) rfl, (pw_use hP hK hN [4] rfl [] rfl)⟩ rfl rfl hl.1 rfl (lv_room (Nat.le_of_ble_eq_true rfl)) dX9_paste_37 ⟨lel 0 0 rfl, lel 0 0 rfl⟩) (fun r_505 h_r_505 => ?_)
          obtain ⟨b_r_505, nz_r_505, zz_r_505⟩ := h_r_505
          have b_r_505 : (0 : Int) ≤ r_505.toInt ∧ r_505.toInt ≤ 1 := b_r_505
          refine lv_if_eq (tgt := 51) hx hb dX9_paste_40 (by decide) (fun c_506 => ?_) (fun c_506 => ?_)
          ·
            have n_c_506 : (r_505.toInt : Int) = 0 := c_eq rfl (by decide) c_506
            have b_r_505 : (0 : Int) ≤ r_505.toInt ∧ r_505.toInt ≤ 0 := r_eq1 b_r_505 (by decide : (0 : Int) ≤ (0 : Int32).toInt ∧ (0 : Int32).toInt ≤ 0) n_c_506 (by decide)
            have g_507 := zz_r_505 c_506
            refine lv_bipush (v := (-6)) hx hb dX9_paste_51 (by decide) ?_
            have hP9 := hP.sub (ws' := [(h0, .inr (7, [.ref tp, .ref sc, .ref rd, .ref cu, .ref im, .ref ig, .ref sl, .ref se, .ref sm, .ref fc])), (sl, .inl (cS, 4, .inr (.inr (.inr (.inr (sf4 s0 s1 s2 s3)))))), (s0, .inr (2, [.int wd0, .int rz0, .ref n0])), (s1, .inr (2, [.int wd1, .int rz1, .ref n1])), (s2, .inr (2, [.int wd2, .int rz2, .ref n2])), (s3, .inr (2, [.int wd3, .int rz3, .ref n3])), (n0, .inl (cJ0, 60, .inr (.inl g0))), (n1, .inl (cJ1, 60, .inr (.inl g1))), (n2, .inl (cJ2, 60, .inr (.inl g2))), (n3, .inl (cJ3, 60, .inr (.inl g3)))]) [0, 1, 2, 3, 4, 5, 6, 7, 8, 9] rfl
            have hD9 := hD.sub (ws' := [(h0, .inr (7, [.ref tp, .ref sc, .ref rd, .ref cu, .ref im, .ref ig, .ref sl, .ref se, .ref sm, .ref fc])), (sl, .inl (cS, 4, .inr (.inr (.inr (.inr (sf4 s0 s1 s2 s3)))))), (s0, .inr (2, [.int wd0, .int rz0, .ref n0])), (s1, .inr (2, [.int wd1, .int rz1, .ref n1])), (s2, .inr (2, [.int wd2, .int rz2, .ref n2])), (s3, .inr (2, [.int wd3, .int rz3, .ref n3])), (n0, .inl (cJ0, 60, .inr (.inl g0))), (n1, .inl (cJ1, 60, .inr (.inl g1))), (n2, .inl (cJ2, 60, .inr (.inl g2))), (n3, .inl (cJ3, 60, .inr (.inl g3)))]) [0, 1, 2, 3, 4, 5, 6, 7, 8, 9] (by decide) rfl
            have hK9 := hK.sub (tys' := [(cS, .object RX3), (cJ0, .long), (cJ1, .long), (cJ2, .long), (cJ3, .long)]) [0, 1, 2, 3, 4] rfl
            exact W.iret (v := (-6)) hx hb hr (fun t ht hW => ⟨⟨(-6), (), rfl, ⟨(rg_w (by decide : (-6 : Int) ≤ ((-6) : Int32).toInt ∧ ((-6) : Int32).toInt ≤ -6) (by decide) (by decide)), (ps_6 (j := 2) (t := 0) (by decide) (by decide) (by decide) (by have q0 := hg9_0; unfold RG at q0; have q2 := hg9_2; unfold RG at q2; omega))⟩, g0, g1, g2, g3, by rw [ht]; exact hP9, va_K.moved hW.alike hK9, hD9⟩, hS.F ht⟩) hS.2.2 dX9_paste_53
          ·
            have n_c_506 : (r_505.toInt : Int) ≠ 0 := c_ne rfl (by decide) c_506
            have b_r_505 : (1 : Int) ≤ r_505.toInt ∧ r_505.toInt ≤ 1 := r_ne1 b_r_505 (by decide : (0 : Int) ≤ (0 : Int32).toInt ∧ (0 : Int32).toInt ≤ 0) n_c_506 (by decide)
            obtain ⟨b_wd2, g_508⟩ := nz_r_505 c_506
            refine lv_aload hx hb dX9_paste_43 (lv_at hl 0 rfl) ?_
            refine vp_callSi (W.runV (As := []) (rest := []) ⟨hx, hb, hml, hown, hts⟩ (kX3_stands2 l dC dI s0 wd0 rz0 n0 b_wd0 b_rz0) (cwV 0 hts gX9_pasteF__X3_stands2_V270 rfl rfl rfl hd_yX3_stands ⟨lel 1 2 rfl, lel 20 88 rfl⟩) ⟨pw_fb, rcv_X3 hK hP (q0 := 2) rfl, (pw_use hP hK hN [2] rfl [] rfl)⟩ rfl rfl hl.1 rfl (lv_room (Nat.le_of_ble_eq_true rfl)) dX9_paste_45 ⟨lel 0 0 rfl, lel 0 0 rfl⟩) (fun r_509 h_r_509 => ?_)
            obtain ⟨b_r_509, nz_r_509, zz_r_509⟩ := h_r_509
            have b_r_509 : (0 : Int) ≤ r_509.toInt ∧ r_509.toInt ≤ 1 := b_r_509
            refine lv_if_ne (tgt := 54) hx hb dX9_paste_48 (by decide) (fun c_510 => ?_) (fun c_510 => ?_)
            ·
              have n_c_510 : (r_509.toInt : Int) ≠ 0 := c_ne rfl (by decide) c_510
              have b_r_509 : (1 : Int) ≤ r_509.toInt ∧ r_509.toInt ≤ 1 := r_ne1 b_r_509 (by decide : (0 : Int) ≤ (0 : Int32).toInt ∧ (0 : Int32).toInt ≤ 0) n_c_510 (by decide)
              obtain ⟨b_wd0, g_511⟩ := nz_r_509 c_510
              refine lv_aload hx hb dX9_paste_54 (lv_at hl 1 rfl) ?_
              refine va_getN (own := RX9) (index := 350) (ref := RX3) (host := RX9) (D := (dC, dI)) (ci := 2) (v := .int wd2) (C := RX3) (T := TX3) (N := 3) hx hb hts iX9_pasteF_X3 hown hK hP 4 rfl rfl 0 (by decide) (va_Nw.use rfl (hN _ (List.mem_of_getElem? (i := 21) rfl))) (fun _ h9 => h9) rfl dX9_paste_56 ?_
              refine lv_aload hx hb dX9_paste_59 (lv_at hl 0 rfl) ?_
              refine va_getN (own := RX9) (index := 350) (ref := RX3) (host := RX9) (D := (dC, dI)) (ci := 2) (v := .int wd0) (C := RX3) (T := TX3) (N := 3) hx hb hts iX9_pasteF_X3 hown hK hP 2 rfl rfl 0 (by decide) (va_Nw.use rfl (hN _ (List.mem_of_getElem? (i := 21) rfl))) (fun _ h9 => h9) rfl dX9_paste_61 ?_
              refine lv_icmp_eq (tgt := 70) hx hb dX9_paste_64 (by decide) (fun c_512 => ?_) (fun c_512 => ?_)
              ·
                have n_c_512 : (wd2.toInt : Int) = wd0.toInt := c_eq rfl rfl c_512
                refine lv_aload hx hb dX9_paste_70 (lv_at hl 1 rfl) ?_
                refine lv_iload_n hx hb dX9_paste_72 rfl (lv_at hl 4 rfl) ?_
                refine lv_iload hx hb dX9_paste_73 (lv_at hl 7 rfl) ?_
                refine vp_callSi (W.runV (As := [.int a2, .int a5]) (rest := []) ⟨hx, hb, hml, hown, hts⟩ (kX3_hasStretch2 l dC dI s2 wd2 rz2 n2 a2 a5 (rg_w b_wd2 (by decide) (by decide)) b_rz2) (cwV 2 hts gX9_pasteF__X3_hasStretch2_V343 rfl rfl rfl hd_yX3_hasStretch ⟨lel 1 2 rfl, lel 22 88 rfl⟩) ⟨pw_fb, rcv_X3 hK hP (q0 := 4) rfl, (pw_use hP hK hN [4] rfl [] rfl)⟩ rfl rfl hl.1 rfl (lv_room (Nat.le_of_ble_eq_true rfl)) dX9_paste_75 ⟨lel 0 0 rfl, lel 0 0 rfl⟩) (fun r_513 h_r_513 => ?_)
                obtain ⟨b_r_513, nz_r_513, zz_r_513⟩ := h_r_513
                have b_r_513 : (0 : Int) ≤ r_513.toInt ∧ r_513.toInt ≤ 1 := b_r_513
                refine lv_if_eq (tgt := 93) hx hb dX9_paste_78 (by decide) (fun c_514 => ?_) (fun c_514 => ?_)
                ·
                  have n_c_514 : (r_513.toInt : Int) = 0 := c_eq rfl (by decide) c_514
                  have b_r_513 : (0 : Int) ≤ r_513.toInt ∧ r_513.toInt ≤ 0 := r_eq1 b_r_513 (by decide : (0 : Int) ≤ (0 : Int32).toInt ∧ (0 : Int32).toInt ≤ 0) n_c_514 (by decide)
                  have g_515 := zz_r_513 c_514
                  refine lv_bipush (v := (-7)) hx hb dX9_paste_93 (by decide) ?_
                  have hP9 := hP.sub (ws' := [(h0, .inr (7, [.ref tp, .ref sc, .ref rd, .ref cu, .ref im, .ref ig, .ref sl, .ref se, .ref sm, .ref fc])), (sl, .inl (cS, 4, .inr (.inr (.inr (.inr (sf4 s0 s1 s2 s3)))))), (s0, .inr (2, [.int wd0, .int rz0, .ref n0])), (s1, .inr (2, [.int wd1, .int rz1, .ref n1])), (s2, .inr (2, [.int wd2, .int rz2, .ref n2])), (s3, .inr (2, [.int wd3, .int rz3, .ref n3])), (n0, .inl (cJ0, 60, .inr (.inl g0))), (n1, .inl (cJ1, 60, .inr (.inl g1))), (n2, .inl (cJ2, 60, .inr (.inl g2))), (n3, .inl (cJ3, 60, .inr (.inl g3)))]) [0, 1, 2, 3, 4, 5, 6, 7, 8, 9] rfl
                  have hD9 := hD.sub (ws' := [(h0, .inr (7, [.ref tp, .ref sc, .ref rd, .ref cu, .ref im, .ref ig, .ref sl, .ref se, .ref sm, .ref fc])), (sl, .inl (cS, 4, .inr (.inr (.inr (.inr (sf4 s0 s1 s2 s3)))))), (s0, .inr (2, [.int wd0, .int rz0, .ref n0])), (s1, .inr (2, [.int wd1, .int rz1, .ref n1])), (s2, .inr (2, [.int wd2, .int rz2, .ref n2])), (s3, .inr (2, [.int wd3, .int rz3, .ref n3])), (n0, .inl (cJ0, 60, .inr (.inl g0))), (n1, .inl (cJ1, 60, .inr (.inl g1))), (n2, .inl (cJ2, 60, .inr (.inl g2))), (n3, .inl (cJ3, 60, .inr (.inl g3)))]) [0, 1, 2, 3, 4, 5, 6, 7, 8, 9] (by decide) rfl
                  have hK9 := hK.sub (tys' := [(cS, .object RX3), (cJ0, .long), (cJ1, .long), (cJ2, .long), (cJ3, .long)]) [0, 1, 2, 3, 4] rfl
                  exact W.iret (v := (-7)) hx hb hr (fun t ht hW => ⟨⟨(-7), (), rfl, ⟨(rg_w (by decide : (-7 : Int) ≤ ((-7) : Int32).toInt ∧ ((-7) : Int32).toInt ≤ -7) (by decide) (by decide)), (ps_7 (j := 2) (t := 0) (by decide) (by decide) (by decide) (by have q0 := hg9_0; unfold RG at q0; have q2 := hg9_2; unfold RG at q2; omega) (by have q0 := hg9_0; unfold RG at q0; have q2 := hg9_2; unfold RG at q2; omega) (by have q0 := hg9_0; unfold RG at q0; have q2 := hg9_2; unfold RG at q2; omega))⟩, g0, g1, g2, g3, by rw [ht]; exact hP9, va_K.moved hW.alike hK9, hD9⟩, hS.F ht⟩) hS.2.2 dX9_paste_95
                ·
                  have n_c_514 : (r_513.toInt : Int) ≠ 0 := c_ne rfl (by decide) c_514
                  have b_r_513 : (1 : Int) ≤ r_513.toInt ∧ r_513.toInt ≤ 1 := r_ne1 b_r_513 (by decide : (0 : Int) ≤ (0 : Int32).toInt ∧ (0 : Int32).toInt ≤ 0) n_c_514 (by decide)
                  obtain ⟨b_a2, b_a5, g_516⟩ := nz_r_513 c_514
                  refine lv_aload hx hb dX9_paste_81 (lv_at hl 0 rfl) ?_
                  refine lv_iload hx hb dX9_paste_83 (lv_at hl 6 rfl) ?_
                  refine lv_iload hx hb dX9_paste_85 (lv_at hl 7 rfl) ?_
                  refine vp_callSi (W.runV (As := [.int a4, .int a5]) (rest := []) ⟨hx, hb, hml, hown, hts⟩ (kX3_hasStretch2 l dC dI s0 wd0 rz0 n0 a4 a5 (rg_w b_wd0 (by decide) (by decide)) b_rz0) (cwV 2 hts gX9_pasteF__X3_hasStretch2_V343 rfl rfl rfl hd_yX3_hasStretch ⟨lel 1 2 rfl, lel 22 88 rfl⟩) ⟨pw_fb, rcv_X3 hK hP (q0 := 2) rfl, (pw_use hP hK hN [2] rfl [] rfl)⟩ rfl rfl hl.1 rfl (lv_room (Nat.le_of_ble_eq_true rfl)) dX9_paste_87 ⟨lel 0 0 rfl, lel 0 0 rfl⟩) (fun r_517 h_r_517 => ?_)
                  obtain ⟨b_r_517, nz_r_517, zz_r_517⟩ := h_r_517
                  have b_r_517 : (0 : Int) ≤ r_517.toInt ∧ r_517.toInt ≤ 1 := b_r_517
                  refine lv_if_ne (tgt := 96) hx hb dX9_paste_90 (by decide) (fun c_518 => ?_) (fun c_518 => ?_)
                  ·
                    have n_c_518 : (r_517.toInt : Int) ≠ 0 := c_ne rfl (by decide) c_518
                    have b_r_517 : (1 : Int) ≤ r_517.toInt ∧ r_517.toInt ≤ 1 := r_ne1 b_r_517 (by decide : (0 : Int) ≤ (0 : Int32).toInt ∧ (0 : Int32).toInt ≤ 0) n_c_518 (by decide)
                    obtain ⟨b_a4, b_a5, g_519⟩ := nz_r_517 c_518
                    refine lv_aload hx hb dX9_paste_96 (lv_at hl 0 rfl) ?_
                    refine lv_iload hx hb dX9_paste_98 (lv_at hl 6 rfl) ?_
                    refine lv_aload hx hb dX9_paste_100 (lv_at hl 1 rfl) ?_
                    refine lv_iload_n hx hb dX9_paste_102 rfl (lv_at hl 4 rfl) ?_
                    refine lv_iload hx hb dX9_paste_103 (lv_at hl 7 rfl) ?_
                    have hFc := va_free (wc := [(s0, .inr (2, [.int wd0, .int rz0, .ref n0])), (n0, .inl (cJ0, 60, .inr (.inl g0))), (s2, .inr (2, [.int wd2, .int rz2, .ref n2])), (n2, .inl (cJ2, 60, .inr (.inl g2)))]) hD hS hA [2, 6, 4, 8] rfl
                    refine va_callv (va_runV (As := [.int a4, .ref s2, .int a2, .int a5]) (rest := []) ⟨hx, hb, hml, hown, hts⟩ (kX3_take l dC dI s0 wd0 rz0 n0 cJ0 g0 s2 wd2 rz2 n2 cJ2 g2 a4 a2 a5 (s.heap.size) (rg_w b_wd0 (by decide) (by decide)) b_rz0 (rg_w b_wd2 (by decide) (by decide)) b_rz2) (cwV 4 hts gX9_pasteF__X3_take_V353 rfl rfl rfl hd_yX3_take ⟨lel 2 2 rfl, lel 88 88 rfl⟩) ⟨hw_fb, rcv_X3 hK hP (q0 := 2) rfl, (hw_use hP hD hK hN [2, 6, 4, 8] rfl (by decide) rfl [1, 3] rfl)⟩ rfl rfl hl.1 rfl (lv_room (Nat.le_of_ble_eq_true rfl)) dX9_paste_105 ⟨lel 0 0 rfl, lel 0 0 rfl⟩) hS (fun q _ h => hFc q h) hFc (fun u_521 t H1 locs ht hvm hw_r_520 hB hz1 hk1 hS => ?_)
                    obtain ⟨o0_522, hP1, hK1, hD1⟩ := hB
                    rw [ht] at hP1
                    have hK1 := va_K.moved hvm.symm hK1
                    obtain ⟨hP, hD⟩ := va_join (wr := [(h0, .inr (7, [.ref tp, .ref sc, .ref rd, .ref cu, .ref im, .ref ig, .ref sl, .ref se, .ref sm, .ref fc])), (sl, .inl (cS, 4, .inr (.inr (.inr (.inr (sf4 s0 s1 s2 s3)))))), (s1, .inr (2, [.int wd1, .int rz1, .ref n1])), (s3, .inr (2, [.int wd3, .int rz3, .ref n3])), (n1, .inl (cJ1, 60, .inr (.inl g1))), (n3, .inl (cJ3, 60, .inr (.inl g3)))]) (w1 := [(s0, .inr (2, [.int wd0, .int rz0, .ref n0])), (n0, .inl (cJ0, 60, .inr (.inl o0_522))), (s2, .inr (2, [.int wd2, .int rz2, .ref n2])), (n2, .inl (cJ2, 60, .inr (.inl g2)))]) hP hD [2, 6, 4, 8] [0, 1, 3, 5, 7, 9] rfl rfl (by decide) (by decide) hk1 hFc hP1 hD1
                    have hK := (hK.sub (tys' := [(cS, .object RX3), (cJ1, .long), (cJ3, .long)]) [0, 2, 4] rfl).app hK1
                    generalize H1 = H at hP hS ⊢
                    have hP := hP.sub (ws' := [(h0, .inr (7, [.ref tp, .ref sc, .ref rd, .ref cu, .ref im, .ref ig, .ref sl, .ref se, .ref sm, .ref fc])), (sl, .inl (cS, 4, .inr (.inr (.inr (.inr (sf4 s0 s1 s2 s3)))))), (s0, .inr (2, [.int wd0, .int rz0, .ref n0])), (s1, .inr (2, [.int wd1, .int rz1, .ref n1])), (s2, .inr (2, [.int wd2, .int rz2, .ref n2])), (s3, .inr (2, [.int wd3, .int rz3, .ref n3])), (n0, .inl (cJ0, 60, .inr (.inl o0_522))), (n1, .inl (cJ1, 60, .inr (.inl g1))), (n2, .inl (cJ2, 60, .inr (.inl g2))), (n3, .inl (cJ3, 60, .inr (.inl g3)))]) [0, 1, 6, 2, 8, 3, 7, 4, 9, 5] rfl
                    have hD := hD.sub (ws' := [(h0, .inr (7, [.ref tp, .ref sc, .ref rd, .ref cu, .ref im, .ref ig, .ref sl, .ref se, .ref sm, .ref fc])), (sl, .inl (cS, 4, .inr (.inr (.inr (.inr (sf4 s0 s1 s2 s3)))))), (s0, .inr (2, [.int wd0, .int rz0, .ref n0])), (s1, .inr (2, [.int wd1, .int rz1, .ref n1])), (s2, .inr (2, [.int wd2, .int rz2, .ref n2])), (s3, .inr (2, [.int wd3, .int rz3, .ref n3])), (n0, .inl (cJ0, 60, .inr (.inl o0_522))), (n1, .inl (cJ1, 60, .inr (.inl g1))), (n2, .inl (cJ2, 60, .inr (.inl g2))), (n3, .inl (cJ3, 60, .inr (.inl g3)))]) [0, 1, 6, 2, 8, 3, 7, 4, 9, 5] (by decide) rfl
                    have hK := hK.sub (tys' := [(cS, .object RX3), (cJ0, .long), (cJ1, .long), (cJ2, .long), (cJ3, .long)]) [0, 3, 1, 4, 2] rfl
                    have hP : va_P (dC, dI) vwCl [(h0, .inr (7, [.ref tp, .ref sc, .ref rd, .ref cu, .ref im, .ref ig, .ref sl, .ref se, .ref sm, .ref fc])), (sl, .inl (cS, 4, .inr (.inr (.inr (.inr (sf4 s0 s1 s2 s3)))))), (s0, .inr (2, [.int wd0, .int rz0, .ref n0])), (s1, .inr (2, [.int wd1, .int rz1, .ref n1])), (s2, .inr (2, [.int wd2, .int rz2, .ref n2])), (s3, .inr (2, [.int wd3, .int rz3, .ref n3])), (n0, .inl (cJ0, 60, .inr (.inl o0_522))), (n1, .inl (cJ1, 60, .inr (.inl g1))), (n2, .inl (cJ2, 60, .inr (.inl g2))), (n3, .inl (cJ3, 60, .inr (.inl g3)))] H := hP
                    have hD : va_D A [(h0, .inr (7, [.ref tp, .ref sc, .ref rd, .ref cu, .ref im, .ref ig, .ref sl, .ref se, .ref sm, .ref fc])), (sl, .inl (cS, 4, .inr (.inr (.inr (.inr (sf4 s0 s1 s2 s3)))))), (s0, .inr (2, [.int wd0, .int rz0, .ref n0])), (s1, .inr (2, [.int wd1, .int rz1, .ref n1])), (s2, .inr (2, [.int wd2, .int rz2, .ref n2])), (s3, .inr (2, [.int wd3, .int rz3, .ref n3])), (n0, .inl (cJ0, 60, .inr (.inl o0_522))), (n1, .inl (cJ1, 60, .inr (.inl g1))), (n2, .inl (cJ2, 60, .inr (.inl g2))), (n3, .inl (cJ3, 60, .inr (.inl g3)))] := hD
                    have hK : va_K (dC, dI) vwCl [(cS, .object RX3), (cJ0, .long), (cJ1, .long), (cJ2, .long), (cJ3, .long)] s := hK
                    refine lv_iconst (v := 0) hx hb dX9_paste_108 (by decide) ?_
                    have hP9 := hP.sub (ws' := [(h0, .inr (7, [.ref tp, .ref sc, .ref rd, .ref cu, .ref im, .ref ig, .ref sl, .ref se, .ref sm, .ref fc])), (sl, .inl (cS, 4, .inr (.inr (.inr (.inr (sf4 s0 s1 s2 s3)))))), (s0, .inr (2, [.int wd0, .int rz0, .ref n0])), (s1, .inr (2, [.int wd1, .int rz1, .ref n1])), (s2, .inr (2, [.int wd2, .int rz2, .ref n2])), (s3, .inr (2, [.int wd3, .int rz3, .ref n3])), (n0, .inl (cJ0, 60, .inr (.inl o0_522))), (n1, .inl (cJ1, 60, .inr (.inl g1))), (n2, .inl (cJ2, 60, .inr (.inl g2))), (n3, .inl (cJ3, 60, .inr (.inl g3)))]) [0, 1, 2, 3, 4, 5, 6, 7, 8, 9] rfl
                    have hD9 := hD.sub (ws' := [(h0, .inr (7, [.ref tp, .ref sc, .ref rd, .ref cu, .ref im, .ref ig, .ref sl, .ref se, .ref sm, .ref fc])), (sl, .inl (cS, 4, .inr (.inr (.inr (.inr (sf4 s0 s1 s2 s3)))))), (s0, .inr (2, [.int wd0, .int rz0, .ref n0])), (s1, .inr (2, [.int wd1, .int rz1, .ref n1])), (s2, .inr (2, [.int wd2, .int rz2, .ref n2])), (s3, .inr (2, [.int wd3, .int rz3, .ref n3])), (n0, .inl (cJ0, 60, .inr (.inl o0_522))), (n1, .inl (cJ1, 60, .inr (.inl g1))), (n2, .inl (cJ2, 60, .inr (.inl g2))), (n3, .inl (cJ3, 60, .inr (.inl g3)))]) [0, 1, 2, 3, 4, 5, 6, 7, 8, 9] (by decide) rfl
                    have hK9 := hK.sub (tys' := [(cS, .object RX3), (cJ0, .long), (cJ1, .long), (cJ2, .long), (cJ3, .long)]) [0, 1, 2, 3, 4] rfl
                    exact W.iret (v := 0) hx hb hr (fun t ht hW => ⟨⟨0, (), rfl, ⟨(rg_w (by decide : (0 : Int) ≤ (0 : Int32).toInt ∧ (0 : Int32).toInt ≤ 0) (by decide) (by decide)), (ps_0 (j := 2) (t := 0) (by decide) (by decide) (by decide) (by have q0 := hg9_0; unfold RG at q0; have q2 := hg9_2; unfold RG at q2; omega) (by have q0 := hg9_0; unfold RG at q0; have q2 := hg9_2; unfold RG at q2; omega) (by have q0 := hg9_0; unfold RG at q0; have q2 := hg9_2; unfold RG at q2; omega))⟩, o0_522, g1, g2, g3, by rw [ht]; exact hP9, va_K.moved hW.alike hK9, hD9⟩, hS.F ht⟩) hS.2.2 dX9_paste_109
                  ·
                    have n_c_518 : (r_517.toInt : Int) = 0 := c_eq rfl (by decide) c_518
                    have b_r_517 : (0 : Int) ≤ r_517.toInt ∧ r_517.toInt ≤ 0 := r_eq1 b_r_517 (by decide : (0 : Int) ≤ (0 : Int32).toInt ∧ (0 : Int32).toInt ≤ 0) n_c_518 (by decide)
                    have g_523 := zz_r_517 c_518
                    refine lv_bipush (v := (-7)) hx hb dX9_paste_93 (by decide) ?_
                    have hP9 := hP.sub (ws' := [(h0, .inr (7, [.ref tp, .ref sc, .ref rd, .ref cu, .ref im, .ref ig, .ref sl, .ref se, .ref sm, .ref fc])), (sl, .inl (cS, 4, .inr (.inr (.inr (.inr (sf4 s0 s1 s2 s3)))))), (s0, .inr (2, [.int wd0, .int rz0, .ref n0])), (s1, .inr (2, [.int wd1, .int rz1, .ref n1])), (s2, .inr (2, [.int wd2, .int rz2, .ref n2])), (s3, .inr (2, [.int wd3, .int rz3, .ref n3])), (n0, .inl (cJ0, 60, .inr (.inl g0))), (n1, .inl (cJ1, 60, .inr (.inl g1))), (n2, .inl (cJ2, 60, .inr (.inl g2))), (n3, .inl (cJ3, 60, .inr (.inl g3)))]) [0, 1, 2, 3, 4, 5, 6, 7, 8, 9] rfl
                    have hD9 := hD.sub (ws' := [(h0, .inr (7, [.ref tp, .ref sc, .ref rd, .ref cu, .ref im, .ref ig, .ref sl, .ref se, .ref sm, .ref fc])), (sl, .inl (cS, 4, .inr (.inr (.inr (.inr (sf4 s0 s1 s2 s3)))))), (s0, .inr (2, [.int wd0, .int rz0, .ref n0])), (s1, .inr (2, [.int wd1, .int rz1, .ref n1])), (s2, .inr (2, [.int wd2, .int rz2, .ref n2])), (s3, .inr (2, [.int wd3, .int rz3, .ref n3])), (n0, .inl (cJ0, 60, .inr (.inl g0))), (n1, .inl (cJ1, 60, .inr (.inl g1))), (n2, .inl (cJ2, 60, .inr (.inl g2))), (n3, .inl (cJ3, 60, .inr (.inl g3)))]) [0, 1, 2, 3, 4, 5, 6, 7, 8, 9] (by decide) rfl
                    have hK9 := hK.sub (tys' := [(cS, .object RX3), (cJ0, .long), (cJ1, .long), (cJ2, .long), (cJ3, .long)]) [0, 1, 2, 3, 4] rfl
                    exact W.iret (v := (-7)) hx hb hr (fun t ht hW => ⟨⟨(-7), (), rfl, ⟨(rg_w (by decide : (-7 : Int) ≤ ((-7) : Int32).toInt ∧ ((-7) : Int32).toInt ≤ -7) (by decide) (by decide)), (ps_7 (j := 2) (t := 0) (by decide) (by decide) (by decide) (by have q0 := hg9_0; unfold RG at q0; have q2 := hg9_2; unfold RG at q2; omega) (by have q0 := hg9_0; unfold RG at q0; have q2 := hg9_2; unfold RG at q2; omega) (by have q0 := hg9_0; unfold RG at q0; have q2 := hg9_2; unfold RG at q2; omega))⟩, g0, g1, g2, g3, by rw [ht]; exact hP9, va_K.moved hW.alike hK9, hD9⟩, hS.F ht⟩) hS.2.2 dX9_paste_95
              ·
                have n_c_512 : (wd2.toInt : Int) ≠ wd0.toInt := c_ne rfl rfl c_512
                refine lv_bipush (v := (-8)) hx hb dX9_paste_67 (by decide) ?_
                have hP9 := hP.sub (ws' := [(h0, .inr (7, [.ref tp, .ref sc, .ref rd, .ref cu, .ref im, .ref ig, .ref sl, .ref se, .ref sm, .ref fc])), (sl, .inl (cS, 4, .inr (.inr (.inr (.inr (sf4 s0 s1 s2 s3)))))), (s0, .inr (2, [.int wd0, .int rz0, .ref n0])), (s1, .inr (2, [.int wd1, .int rz1, .ref n1])), (s2, .inr (2, [.int wd2, .int rz2, .ref n2])), (s3, .inr (2, [.int wd3, .int rz3, .ref n3])), (n0, .inl (cJ0, 60, .inr (.inl g0))), (n1, .inl (cJ1, 60, .inr (.inl g1))), (n2, .inl (cJ2, 60, .inr (.inl g2))), (n3, .inl (cJ3, 60, .inr (.inl g3)))]) [0, 1, 2, 3, 4, 5, 6, 7, 8, 9] rfl
                have hD9 := hD.sub (ws' := [(h0, .inr (7, [.ref tp, .ref sc, .ref rd, .ref cu, .ref im, .ref ig, .ref sl, .ref se, .ref sm, .ref fc])), (sl, .inl (cS, 4, .inr (.inr (.inr (.inr (sf4 s0 s1 s2 s3)))))), (s0, .inr (2, [.int wd0, .int rz0, .ref n0])), (s1, .inr (2, [.int wd1, .int rz1, .ref n1])), (s2, .inr (2, [.int wd2, .int rz2, .ref n2])), (s3, .inr (2, [.int wd3, .int rz3, .ref n3])), (n0, .inl (cJ0, 60, .inr (.inl g0))), (n1, .inl (cJ1, 60, .inr (.inl g1))), (n2, .inl (cJ2, 60, .inr (.inl g2))), (n3, .inl (cJ3, 60, .inr (.inl g3)))]) [0, 1, 2, 3, 4, 5, 6, 7, 8, 9] (by decide) rfl
                have hK9 := hK.sub (tys' := [(cS, .object RX3), (cJ0, .long), (cJ1, .long), (cJ2, .long), (cJ3, .long)]) [0, 1, 2, 3, 4] rfl
                exact W.iret (v := (-8)) hx hb hr (fun t ht hW => ⟨⟨(-8), (), rfl, ⟨(rg_w (by decide : (-8 : Int) ≤ ((-8) : Int32).toInt ∧ ((-8) : Int32).toInt ≤ -8) (by decide) (by decide)), (ps_8 (j := 2) (t := 0) (by decide) (by decide) (by decide) (by have q0 := hg9_0; unfold RG at q0; have q2 := hg9_2; unfold RG at q2; omega) (by have q0 := hg9_0; unfold RG at q0; have q2 := hg9_2; unfold RG at q2; omega))⟩, g0, g1, g2, g3, by rw [ht]; exact hP9, va_K.moved hW.alike hK9, hD9⟩, hS.F ht⟩) hS.2.2 dX9_paste_69
            ·
              have n_c_510 : (r_509.toInt : Int) = 0 := c_eq rfl (by decide) c_510
              have b_r_509 : (0 : Int) ≤ r_509.toInt ∧ r_509.toInt ≤ 0 := r_eq1 b_r_509 (by decide : (0 : Int) ≤ (0 : Int32).toInt ∧ (0 : Int32).toInt ≤ 0) n_c_510 (by decide)
              have g_524 := zz_r_509 c_510
              refine lv_bipush (v := (-6)) hx hb dX9_paste_51 (by decide) ?_
              have hP9 := hP.sub (ws' := [(h0, .inr (7, [.ref tp, .ref sc, .ref rd, .ref cu, .ref im, .ref ig, .ref sl, .ref se, .ref sm, .ref fc])), (sl, .inl (cS, 4, .inr (.inr (.inr (.inr (sf4 s0 s1 s2 s3)))))), (s0, .inr (2, [.int wd0, .int rz0, .ref n0])), (s1, .inr (2, [.int wd1, .int rz1, .ref n1])), (s2, .inr (2, [.int wd2, .int rz2, .ref n2])), (s3, .inr (2, [.int wd3, .int rz3, .ref n3])), (n0, .inl (cJ0, 60, .inr (.inl g0))), (n1, .inl (cJ1, 60, .inr (.inl g1))), (n2, .inl (cJ2, 60, .inr (.inl g2))), (n3, .inl (cJ3, 60, .inr (.inl g3)))]) [0, 1, 2, 3, 4, 5, 6, 7, 8, 9] rfl
              have hD9 := hD.sub (ws' := [(h0, .inr (7, [.ref tp, .ref sc, .ref rd, .ref cu, .ref im, .ref ig, .ref sl, .ref se, .ref sm, .ref fc])), (sl, .inl (cS, 4, .inr (.inr (.inr (.inr (sf4 s0 s1 s2 s3)))))), (s0, .inr (2, [.int wd0, .int rz0, .ref n0])), (s1, .inr (2, [.int wd1, .int rz1, .ref n1])), (s2, .inr (2, [.int wd2, .int rz2, .ref n2])), (s3, .inr (2, [.int wd3, .int rz3, .ref n3])), (n0, .inl (cJ0, 60, .inr (.inl g0))), (n1, .inl (cJ1, 60, .inr (.inl g1))), (n2, .inl (cJ2, 60, .inr (.inl g2))), (n3, .inl (cJ3, 60, .inr (.inl g3)))]) [0, 1, 2, 3, 4, 5, 6, 7, 8, 9] (by decide) rfl
              have hK9 := hK.sub (tys' := [(cS, .object RX3), (cJ0, .long), (cJ1, .long), (cJ2, .long), (cJ3, .long)]) [0, 1, 2, 3, 4] rfl
              exact W.iret (v := (-6)) hx hb hr (fun t ht hW => ⟨⟨(-6), (), rfl, ⟨(rg_w (by decide : (-6 : Int) ≤ ((-6) : Int32).toInt ∧ ((-6) : Int32).toInt ≤ -6) (by decide) (by decide)), (ps_6 (j := 2) (t := 0) (by decide) (by decide) (by decide) (by have q0 := hg9_0; unfold RG at q0; have q2 := hg9_2; unfold RG at q2; omega))⟩, g0, g1, g2, g3, by rw [ht]; exact hP9, va_K.moved hW.alike hK9, hD9⟩, hS.F ht⟩) hS.2.2 dX9_paste_53
        ·
          obtain rfl : a3 = 1 := Int32.toInt_inj.mp (h_504.trans (by decide))
          refine va_aldq hx hb hK hP 1 0 rfl rfl (vp_in_b (by decide : (1 : Int) ≤ (1 : Int32).toInt ∧ (1 : Int32).toInt ≤ 1) (by decide) (by decide)) dX9_paste_32 ?_
          refine W.eq (g2 := F0 m 33 ls (.ref s1 :: [])) (congrArg (fun v => F0 m 33 ls (va_rf v :: [])) (sf4_1 s0 s1 s2 s3)) ?_
          refine lv_astore (lv' := [(7, .ref s1), (6, .ref s2), (0, .ref h0), (1, .int 2), (2, .int a2), (3, .int 1), (4, .int a4), (5, .int a5)]) hx hb dX9_paste_33 hl (by decide) rfl (fun ls hl => ?_)
          refine lv_aload hx hb dX9_paste_35 (lv_at hl 1 rfl) ?_
          refine vp_callSi (W.runV (As := []) (rest := []) ⟨hx, hb, hml, hown, hts⟩ (kX3_stands2 l dC dI s2 wd2 rz2 n2 b_wd2 b_rz2) (cwV 0 hts gX9_pasteF__X3_stands2_V270 rfl rfl rfl hd_yX3_stands ⟨lel 1 2 rfl, lel 20 88 rfl⟩) ⟨pw_fb, rcv_X3 hK hP (q0 := 4) rfl, (pw_use hP hK hN [4] rfl [] rfl)⟩ rfl rfl hl.1 rfl (lv_room (Nat.le_of_ble_eq_true rfl)) dX9_paste_37 ⟨lel 0 0 rfl, lel 0 0 rfl⟩) (fun r_525 h_r_525 => ?_)
          obtain ⟨b_r_525, nz_r_525, zz_r_525⟩ := h_r_525
          have b_r_525 : (0 : Int) ≤ r_525.toInt ∧ r_525.toInt ≤ 1 := b_r_525
          refine lv_if_eq (tgt := 51) hx hb dX9_paste_40 (by decide) (fun c_526 => ?_) (fun c_526 => ?_)
          ·
            have n_c_526 : (r_525.toInt : Int) = 0 := c_eq rfl (by decide) c_526
            have b_r_525 : (0 : Int) ≤ r_525.toInt ∧ r_525.toInt ≤ 0 := r_eq1 b_r_525 (by decide : (0 : Int) ≤ (0 : Int32).toInt ∧ (0 : Int32).toInt ≤ 0) n_c_526 (by decide)
            have g_527 := zz_r_525 c_526
            refine lv_bipush (v := (-6)) hx hb dX9_paste_51 (by decide) ?_
            have hP9 := hP.sub (ws' := [(h0, .inr (7, [.ref tp, .ref sc, .ref rd, .ref cu, .ref im, .ref ig, .ref sl, .ref se, .ref sm, .ref fc])), (sl, .inl (cS, 4, .inr (.inr (.inr (.inr (sf4 s0 s1 s2 s3)))))), (s0, .inr (2, [.int wd0, .int rz0, .ref n0])), (s1, .inr (2, [.int wd1, .int rz1, .ref n1])), (s2, .inr (2, [.int wd2, .int rz2, .ref n2])), (s3, .inr (2, [.int wd3, .int rz3, .ref n3])), (n0, .inl (cJ0, 60, .inr (.inl g0))), (n1, .inl (cJ1, 60, .inr (.inl g1))), (n2, .inl (cJ2, 60, .inr (.inl g2))), (n3, .inl (cJ3, 60, .inr (.inl g3)))]) [0, 1, 2, 3, 4, 5, 6, 7, 8, 9] rfl
            have hD9 := hD.sub (ws' := [(h0, .inr (7, [.ref tp, .ref sc, .ref rd, .ref cu, .ref im, .ref ig, .ref sl, .ref se, .ref sm, .ref fc])), (sl, .inl (cS, 4, .inr (.inr (.inr (.inr (sf4 s0 s1 s2 s3)))))), (s0, .inr (2, [.int wd0, .int rz0, .ref n0])), (s1, .inr (2, [.int wd1, .int rz1, .ref n1])), (s2, .inr (2, [.int wd2, .int rz2, .ref n2])), (s3, .inr (2, [.int wd3, .int rz3, .ref n3])), (n0, .inl (cJ0, 60, .inr (.inl g0))), (n1, .inl (cJ1, 60, .inr (.inl g1))), (n2, .inl (cJ2, 60, .inr (.inl g2))), (n3, .inl (cJ3, 60, .inr (.inl g3)))]) [0, 1, 2, 3, 4, 5, 6, 7, 8, 9] (by decide) rfl
            have hK9 := hK.sub (tys' := [(cS, .object RX3), (cJ0, .long), (cJ1, .long), (cJ2, .long), (cJ3, .long)]) [0, 1, 2, 3, 4] rfl
            exact W.iret (v := (-6)) hx hb hr (fun t ht hW => ⟨⟨(-6), (), rfl, ⟨(rg_w (by decide : (-6 : Int) ≤ ((-6) : Int32).toInt ∧ ((-6) : Int32).toInt ≤ -6) (by decide) (by decide)), (ps_6 (j := 2) (t := 1) (by decide) (by decide) (by decide) (by have q1 := hg9_1; unfold RG at q1; have q2 := hg9_2; unfold RG at q2; omega))⟩, g0, g1, g2, g3, by rw [ht]; exact hP9, va_K.moved hW.alike hK9, hD9⟩, hS.F ht⟩) hS.2.2 dX9_paste_53
          ·
            have n_c_526 : (r_525.toInt : Int) ≠ 0 := c_ne rfl (by decide) c_526
            have b_r_525 : (1 : Int) ≤ r_525.toInt ∧ r_525.toInt ≤ 1 := r_ne1 b_r_525 (by decide : (0 : Int) ≤ (0 : Int32).toInt ∧ (0 : Int32).toInt ≤ 0) n_c_526 (by decide)
            obtain ⟨b_wd2, g_528⟩ := nz_r_525 c_526
            refine lv_aload hx hb dX9_paste_43 (lv_at hl 0 rfl) ?_
            refine vp_callSi (W.runV (As := []) (rest := []) ⟨hx, hb, hml, hown, hts⟩ (kX3_stands2 l dC dI s1 wd1 rz1 n1 b_wd1 b_rz1) (cwV 0 hts gX9_pasteF__X3_stands2_V270 rfl rfl rfl hd_yX3_stands ⟨lel 1 2 rfl, lel 20 88 rfl⟩) ⟨pw_fb, rcv_X3 hK hP (q0 := 3) rfl, (pw_use hP hK hN [3] rfl [] rfl)⟩ rfl rfl hl.1 rfl (lv_room (Nat.le_of_ble_eq_true rfl)) dX9_paste_45 ⟨lel 0 0 rfl, lel 0 0 rfl⟩) (fun r_529 h_r_529 => ?_)
            obtain ⟨b_r_529, nz_r_529, zz_r_529⟩ := h_r_529
            have b_r_529 : (0 : Int) ≤ r_529.toInt ∧ r_529.toInt ≤ 1 := b_r_529
            refine lv_if_ne (tgt := 54) hx hb dX9_paste_48 (by decide) (fun c_530 => ?_) (fun c_530 => ?_)
            ·
              have n_c_530 : (r_529.toInt : Int) ≠ 0 := c_ne rfl (by decide) c_530
              have b_r_529 : (1 : Int) ≤ r_529.toInt ∧ r_529.toInt ≤ 1 := r_ne1 b_r_529 (by decide : (0 : Int) ≤ (0 : Int32).toInt ∧ (0 : Int32).toInt ≤ 0) n_c_530 (by decide)
              obtain ⟨b_wd1, g_531⟩ := nz_r_529 c_530
              refine lv_aload hx hb dX9_paste_54 (lv_at hl 1 rfl) ?_
              refine va_getN (own := RX9) (index := 350) (ref := RX3) (host := RX9) (D := (dC, dI)) (ci := 2) (v := .int wd2) (C := RX3) (T := TX3) (N := 3) hx hb hts iX9_pasteF_X3 hown hK hP 4 rfl rfl 0 (by decide) (va_Nw.use rfl (hN _ (List.mem_of_getElem? (i := 21) rfl))) (fun _ h9 => h9) rfl dX9_paste_56 ?_
              refine lv_aload hx hb dX9_paste_59 (lv_at hl 0 rfl) ?_
              refine va_getN (own := RX9) (index := 350) (ref := RX3) (host := RX9) (D := (dC, dI)) (ci := 2) (v := .int wd1) (C := RX3) (T := TX3) (N := 3) hx hb hts iX9_pasteF_X3 hown hK hP 3 rfl rfl 0 (by decide) (va_Nw.use rfl (hN _ (List.mem_of_getElem? (i := 21) rfl))) (fun _ h9 => h9) rfl dX9_paste_61 ?_
              refine lv_icmp_eq (tgt := 70) hx hb dX9_paste_64 (by decide) (fun c_532 => ?_) (fun c_532 => ?_)
              ·
                have n_c_532 : (wd2.toInt : Int) = wd1.toInt := c_eq rfl rfl c_532
                refine lv_aload hx hb dX9_paste_70 (lv_at hl 1 rfl) ?_
                refine lv_iload_n hx hb dX9_paste_72 rfl (lv_at hl 4 rfl) ?_
                refine lv_iload hx hb dX9_paste_73 (lv_at hl 7 rfl) ?_
                refine vp_callSi (W.runV (As := [.int a2, .int a5]) (rest := []) ⟨hx, hb, hml, hown, hts⟩ (kX3_hasStretch2 l dC dI s2 wd2 rz2 n2 a2 a5 (rg_w b_wd2 (by decide) (by decide)) b_rz2) (cwV 2 hts gX9_pasteF__X3_hasStretch2_V343 rfl rfl rfl hd_yX3_hasStretch ⟨lel 1 2 rfl, lel 22 88 rfl⟩) ⟨pw_fb, rcv_X3 hK hP (q0 := 4) rfl, (pw_use hP hK hN [4] rfl [] rfl)⟩ rfl rfl hl.1 rfl (lv_room (Nat.le_of_ble_eq_true rfl)) dX9_paste_75 ⟨lel 0 0 rfl, lel 0 0 rfl⟩) (fun r_533 h_r_533 => ?_)
                obtain ⟨b_r_533, nz_r_533, zz_r_533⟩ := h_r_533
                have b_r_533 : (0 : Int) ≤ r_533.toInt ∧ r_533.toInt ≤ 1 := b_r_533
                refine lv_if_eq (tgt := 93) hx hb dX9_paste_78 (by decide) (fun c_534 => ?_) (fun c_534 => ?_)
                ·
                  have n_c_534 : (r_533.toInt : Int) = 0 := c_eq rfl (by decide) c_534
                  have b_r_533 : (0 : Int) ≤ r_533.toInt ∧ r_533.toInt ≤ 0 := r_eq1 b_r_533 (by decide : (0 : Int) ≤ (0 : Int32).toInt ∧ (0 : Int32).toInt ≤ 0) n_c_534 (by decide)
                  have g_535 := zz_r_533 c_534
                  refine lv_bipush (v := (-7)) hx hb dX9_paste_93 (by decide) ?_
                  have hP9 := hP.sub (ws' := [(h0, .inr (7, [.ref tp, .ref sc, .ref rd, .ref cu, .ref im, .ref ig, .ref sl, .ref se, .ref sm, .ref fc])), (sl, .inl (cS, 4, .inr (.inr (.inr (.inr (sf4 s0 s1 s2 s3)))))), (s0, .inr (2, [.int wd0, .int rz0, .ref n0])), (s1, .inr (2, [.int wd1, .int rz1, .ref n1])), (s2, .inr (2, [.int wd2, .int rz2, .ref n2])), (s3, .inr (2, [.int wd3, .int rz3, .ref n3])), (n0, .inl (cJ0, 60, .inr (.inl g0))), (n1, .inl (cJ1, 60, .inr (.inl g1))), (n2, .inl (cJ2, 60, .inr (.inl g2))), (n3, .inl (cJ3, 60, .inr (.inl g3)))]) [0, 1, 2, 3, 4, 5, 6, 7, 8, 9] rfl
                  have hD9 := hD.sub (ws' := [(h0, .inr (7, [.ref tp, .ref sc, .ref rd, .ref cu, .ref im, .ref ig, .ref sl, .ref se, .ref sm, .ref fc])), (sl, .inl (cS, 4, .inr (.inr (.inr (.inr (sf4 s0 s1 s2 s3)))))), (s0, .inr (2, [.int wd0, .int rz0, .ref n0])), (s1, .inr (2, [.int wd1, .int rz1, .ref n1])), (s2, .inr (2, [.int wd2, .int rz2, .ref n2])), (s3, .inr (2, [.int wd3, .int rz3, .ref n3])), (n0, .inl (cJ0, 60, .inr (.inl g0))), (n1, .inl (cJ1, 60, .inr (.inl g1))), (n2, .inl (cJ2, 60, .inr (.inl g2))), (n3, .inl (cJ3, 60, .inr (.inl g3)))]) [0, 1, 2, 3, 4, 5, 6, 7, 8, 9] (by decide) rfl
                  have hK9 := hK.sub (tys' := [(cS, .object RX3), (cJ0, .long), (cJ1, .long), (cJ2, .long), (cJ3, .long)]) [0, 1, 2, 3, 4] rfl
                  exact W.iret (v := (-7)) hx hb hr (fun t ht hW => ⟨⟨(-7), (), rfl, ⟨(rg_w (by decide : (-7 : Int) ≤ ((-7) : Int32).toInt ∧ ((-7) : Int32).toInt ≤ -7) (by decide) (by decide)), (ps_7 (j := 2) (t := 1) (by decide) (by decide) (by decide) (by have q1 := hg9_1; unfold RG at q1; have q2 := hg9_2; unfold RG at q2; omega) (by have q1 := hg9_1; unfold RG at q1; have q2 := hg9_2; unfold RG at q2; omega) (by have q1 := hg9_1; unfold RG at q1; have q2 := hg9_2; unfold RG at q2; omega))⟩, g0, g1, g2, g3, by rw [ht]; exact hP9, va_K.moved hW.alike hK9, hD9⟩, hS.F ht⟩) hS.2.2 dX9_paste_95
                ·
                  have n_c_534 : (r_533.toInt : Int) ≠ 0 := c_ne rfl (by decide) c_534
                  have b_r_533 : (1 : Int) ≤ r_533.toInt ∧ r_533.toInt ≤ 1 := r_ne1 b_r_533 (by decide : (0 : Int) ≤ (0 : Int32).toInt ∧ (0 : Int32).toInt ≤ 0) n_c_534 (by decide)
                  obtain ⟨b_a2, b_a5, g_536⟩ := nz_r_533 c_534
                  refine lv_aload hx hb dX9_paste_81 (lv_at hl 0 rfl) ?_
                  refine lv_iload hx hb dX9_paste_83 (lv_at hl 6 rfl) ?_
                  refine lv_iload hx hb dX9_paste_85 (lv_at hl 7 rfl) ?_
                  refine vp_callSi (W.runV (As := [.int a4, .int a5]) (rest := []) ⟨hx, hb, hml, hown, hts⟩ (kX3_hasStretch2 l dC dI s1 wd1 rz1 n1 a4 a5 (rg_w b_wd1 (by decide) (by decide)) b_rz1) (cwV 2 hts gX9_pasteF__X3_hasStretch2_V343 rfl rfl rfl hd_yX3_hasStretch ⟨lel 1 2 rfl, lel 22 88 rfl⟩) ⟨pw_fb, rcv_X3 hK hP (q0 := 3) rfl, (pw_use hP hK hN [3] rfl [] rfl)⟩ rfl rfl hl.1 rfl (lv_room (Nat.le_of_ble_eq_true rfl)) dX9_paste_87 ⟨lel 0 0 rfl, lel 0 0 rfl⟩) (fun r_537 h_r_537 => ?_)
                  obtain ⟨b_r_537, nz_r_537, zz_r_537⟩ := h_r_537
                  have b_r_537 : (0 : Int) ≤ r_537.toInt ∧ r_537.toInt ≤ 1 := b_r_537
                  refine lv_if_ne (tgt := 96) hx hb dX9_paste_90 (by decide) (fun c_538 => ?_) (fun c_538 => ?_)
                  ·
                    have n_c_538 : (r_537.toInt : Int) ≠ 0 := c_ne rfl (by decide) c_538
                    have b_r_537 : (1 : Int) ≤ r_537.toInt ∧ r_537.toInt ≤ 1 := r_ne1 b_r_537 (by decide : (0 : Int) ≤ (0 : Int32).toInt ∧ (0 : Int32).toInt ≤ 0) n_c_538 (by decide)
                    obtain ⟨b_a4, b_a5, g_539⟩ := nz_r_537 c_538
                    refine lv_aload hx hb dX9_paste_96 (lv_at hl 0 rfl) ?_
                    refine lv_iload hx hb dX9_paste_98 (lv_at hl 6 rfl) ?_
                    refine lv_aload hx hb dX9_paste_100 (lv_at hl 1 rfl) ?_
                    refine lv_iload_n hx hb dX9_paste_102 rfl (lv_at hl 4 rfl) ?_
                    refine lv_iload hx hb dX9_paste_103 (lv_at hl 7 rfl) ?_
                    have hFc := va_free (wc := [(s1, .inr (2, [.int wd1, .int rz1, .ref n1])), (n1, .inl (cJ1, 60, .inr (.inl g1))), (s2, .inr (2, [.int wd2, .int rz2, .ref n2])), (n2, .inl (cJ2, 60, .inr (.inl g2)))]) hD hS hA [3, 7, 4, 8] rfl
                    refine va_callv (va_runV (As := [.int a4, .ref s2, .int a2, .int a5]) (rest := []) ⟨hx, hb, hml, hown, hts⟩ (kX3_take l dC dI s1 wd1 rz1 n1 cJ1 g1 s2 wd2 rz2 n2 cJ2 g2 a4 a2 a5 (s.heap.size) (rg_w b_wd1 (by decide) (by decide)) b_rz1 (rg_w b_wd2 (by decide) (by decide)) b_rz2) (cwV 4 hts gX9_pasteF__X3_take_V353 rfl rfl rfl hd_yX3_take ⟨lel 2 2 rfl, lel 88 88 rfl⟩) ⟨hw_fb, rcv_X3 hK hP (q0 := 3) rfl, (hw_use hP hD hK hN [3, 7, 4, 8] rfl (by decide) rfl [2, 3] rfl)⟩ rfl rfl hl.1 rfl (lv_room (Nat.le_of_ble_eq_true rfl)) dX9_paste_105 ⟨lel 0 0 rfl, lel 0 0 rfl⟩) hS (fun q _ h => hFc q h) hFc (fun u_541 t H1 locs ht hvm hw_r_540 hB hz1 hk1 hS => ?_)
                    obtain ⟨o0_542, hP1, hK1, hD1⟩ := hB
                    rw [ht] at hP1
                    have hK1 := va_K.moved hvm.symm hK1
                    obtain ⟨hP, hD⟩ := va_join (wr := [(h0, .inr (7, [.ref tp, .ref sc, .ref rd, .ref cu, .ref im, .ref ig, .ref sl, .ref se, .ref sm, .ref fc])), (sl, .inl (cS, 4, .inr (.inr (.inr (.inr (sf4 s0 s1 s2 s3)))))), (s0, .inr (2, [.int wd0, .int rz0, .ref n0])), (s3, .inr (2, [.int wd3, .int rz3, .ref n3])), (n0, .inl (cJ0, 60, .inr (.inl g0))), (n3, .inl (cJ3, 60, .inr (.inl g3)))]) (w1 := [(s1, .inr (2, [.int wd1, .int rz1, .ref n1])), (n1, .inl (cJ1, 60, .inr (.inl o0_542))), (s2, .inr (2, [.int wd2, .int rz2, .ref n2])), (n2, .inl (cJ2, 60, .inr (.inl g2)))]) hP hD [3, 7, 4, 8] [0, 1, 2, 5, 6, 9] rfl rfl (by decide) (by decide) hk1 hFc hP1 hD1
                    have hK := (hK.sub (tys' := [(cS, .object RX3), (cJ0, .long), (cJ3, .long)]) [0, 1, 4] rfl).app hK1
                    generalize H1 = H at hP hS ⊢
                    have hP := hP.sub (ws' := [(h0, .inr (7, [.ref tp, .ref sc, .ref rd, .ref cu, .ref im, .ref ig, .ref sl, .ref se, .ref sm, .ref fc])), (sl, .inl (cS, 4, .inr (.inr (.inr (.inr (sf4 s0 s1 s2 s3)))))), (s0, .inr (2, [.int wd0, .int rz0, .ref n0])), (s1, .inr (2, [.int wd1, .int rz1, .ref n1])), (s2, .inr (2, [.int wd2, .int rz2, .ref n2])), (s3, .inr (2, [.int wd3, .int rz3, .ref n3])), (n0, .inl (cJ0, 60, .inr (.inl g0))), (n1, .inl (cJ1, 60, .inr (.inl o0_542))), (n2, .inl (cJ2, 60, .inr (.inl g2))), (n3, .inl (cJ3, 60, .inr (.inl g3)))]) [0, 1, 2, 6, 8, 3, 4, 7, 9, 5] rfl
                    have hD := hD.sub (ws' := [(h0, .inr (7, [.ref tp, .ref sc, .ref rd, .ref cu, .ref im, .ref ig, .ref sl, .ref se, .ref sm, .ref fc])), (sl, .inl (cS, 4, .inr (.inr (.inr (.inr (sf4 s0 s1 s2 s3)))))), (s0, .inr (2, [.int wd0, .int rz0, .ref n0])), (s1, .inr (2, [.int wd1, .int rz1, .ref n1])), (s2, .inr (2, [.int wd2, .int rz2, .ref n2])), (s3, .inr (2, [.int wd3, .int rz3, .ref n3])), (n0, .inl (cJ0, 60, .inr (.inl g0))), (n1, .inl (cJ1, 60, .inr (.inl o0_542))), (n2, .inl (cJ2, 60, .inr (.inl g2))), (n3, .inl (cJ3, 60, .inr (.inl g3)))]) [0, 1, 2, 6, 8, 3, 4, 7, 9, 5] (by decide) rfl
                    have hK := hK.sub (tys' := [(cS, .object RX3), (cJ0, .long), (cJ1, .long), (cJ2, .long), (cJ3, .long)]) [0, 1, 3, 4, 2] rfl
                    have hP : va_P (dC, dI) vwCl [(h0, .inr (7, [.ref tp, .ref sc, .ref rd, .ref cu, .ref im, .ref ig, .ref sl, .ref se, .ref sm, .ref fc])), (sl, .inl (cS, 4, .inr (.inr (.inr (.inr (sf4 s0 s1 s2 s3)))))), (s0, .inr (2, [.int wd0, .int rz0, .ref n0])), (s1, .inr (2, [.int wd1, .int rz1, .ref n1])), (s2, .inr (2, [.int wd2, .int rz2, .ref n2])), (s3, .inr (2, [.int wd3, .int rz3, .ref n3])), (n0, .inl (cJ0, 60, .inr (.inl g0))), (n1, .inl (cJ1, 60, .inr (.inl o0_542))), (n2, .inl (cJ2, 60, .inr (.inl g2))), (n3, .inl (cJ3, 60, .inr (.inl g3)))] H := hP
                    have hD : va_D A [(h0, .inr (7, [.ref tp, .ref sc, .ref rd, .ref cu, .ref im, .ref ig, .ref sl, .ref se, .ref sm, .ref fc])), (sl, .inl (cS, 4, .inr (.inr (.inr (.inr (sf4 s0 s1 s2 s3)))))), (s0, .inr (2, [.int wd0, .int rz0, .ref n0])), (s1, .inr (2, [.int wd1, .int rz1, .ref n1])), (s2, .inr (2, [.int wd2, .int rz2, .ref n2])), (s3, .inr (2, [.int wd3, .int rz3, .ref n3])), (n0, .inl (cJ0, 60, .inr (.inl g0))), (n1, .inl (cJ1, 60, .inr (.inl o0_542))), (n2, .inl (cJ2, 60, .inr (.inl g2))), (n3, .inl (cJ3, 60, .inr (.inl g3)))] := hD
                    have hK : va_K (dC, dI) vwCl [(cS, .object RX3), (cJ0, .long), (cJ1, .long), (cJ2, .long), (cJ3, .long)] s := hK
                    refine lv_iconst (v := 0) hx hb dX9_paste_108 (by decide) ?_
                    have hP9 := hP.sub (ws' := [(h0, .inr (7, [.ref tp, .ref sc, .ref rd, .ref cu, .ref im, .ref ig, .ref sl, .ref se, .ref sm, .ref fc])), (sl, .inl (cS, 4, .inr (.inr (.inr (.inr (sf4 s0 s1 s2 s3)))))), (s0, .inr (2, [.int wd0, .int rz0, .ref n0])), (s1, .inr (2, [.int wd1, .int rz1, .ref n1])), (s2, .inr (2, [.int wd2, .int rz2, .ref n2])), (s3, .inr (2, [.int wd3, .int rz3, .ref n3])), (n0, .inl (cJ0, 60, .inr (.inl g0))), (n1, .inl (cJ1, 60, .inr (.inl o0_542))), (n2, .inl (cJ2, 60, .inr (.inl g2))), (n3, .inl (cJ3, 60, .inr (.inl g3)))]) [0, 1, 2, 3, 4, 5, 6, 7, 8, 9] rfl
                    have hD9 := hD.sub (ws' := [(h0, .inr (7, [.ref tp, .ref sc, .ref rd, .ref cu, .ref im, .ref ig, .ref sl, .ref se, .ref sm, .ref fc])), (sl, .inl (cS, 4, .inr (.inr (.inr (.inr (sf4 s0 s1 s2 s3)))))), (s0, .inr (2, [.int wd0, .int rz0, .ref n0])), (s1, .inr (2, [.int wd1, .int rz1, .ref n1])), (s2, .inr (2, [.int wd2, .int rz2, .ref n2])), (s3, .inr (2, [.int wd3, .int rz3, .ref n3])), (n0, .inl (cJ0, 60, .inr (.inl g0))), (n1, .inl (cJ1, 60, .inr (.inl o0_542))), (n2, .inl (cJ2, 60, .inr (.inl g2))), (n3, .inl (cJ3, 60, .inr (.inl g3)))]) [0, 1, 2, 3, 4, 5, 6, 7, 8, 9] (by decide) rfl
                    have hK9 := hK.sub (tys' := [(cS, .object RX3), (cJ0, .long), (cJ1, .long), (cJ2, .long), (cJ3, .long)]) [0, 1, 2, 3, 4] rfl
                    exact W.iret (v := 0) hx hb hr (fun t ht hW => ⟨⟨0, (), rfl, ⟨(rg_w (by decide : (0 : Int) ≤ (0 : Int32).toInt ∧ (0 : Int32).toInt ≤ 0) (by decide) (by decide)), (ps_0 (j := 2) (t := 1) (by decide) (by decide) (by decide) (by have q1 := hg9_1; unfold RG at q1; have q2 := hg9_2; unfold RG at q2; omega) (by have q1 := hg9_1; unfold RG at q1; have q2 := hg9_2; unfold RG at q2; omega) (by have q1 := hg9_1; unfold RG at q1; have q2 := hg9_2; unfold RG at q2; omega))⟩, g0, o0_542, g2, g3, by rw [ht]; exact hP9, va_K.moved hW.alike hK9, hD9⟩, hS.F ht⟩) hS.2.2 dX9_paste_109
                  ·
                    have n_c_538 : (r_537.toInt : Int) = 0 := c_eq rfl (by decide) c_538
                    have b_r_537 : (0 : Int) ≤ r_537.toInt ∧ r_537.toInt ≤ 0 := r_eq1 b_r_537 (by decide : (0 : Int) ≤ (0 : Int32).toInt ∧ (0 : Int32).toInt ≤ 0) n_c_538 (by decide)
                    have g_543 := zz_r_537 c_538
                    refine lv_bipush (v := (-7)) hx hb dX9_paste_93 (by decide) ?_
                    have hP9 := hP.sub (ws' := [(h0, .inr (7, [.ref tp, .ref sc, .ref rd, .ref cu, .ref im, .ref ig, .ref sl, .ref se, .ref sm, .ref fc])), (sl, .inl (cS, 4, .inr (.inr (.inr (.inr (sf4 s0 s1 s2 s3)))))), (s0, .inr (2, [.int wd0, .int rz0, .ref n0])), (s1, .inr (2, [.int wd1, .int rz1, .ref n1])), (s2, .inr (2, [.int wd2, .int rz2, .ref n2])), (s3, .inr (2, [.int wd3, .int rz3, .ref n3])), (n0, .inl (cJ0, 60, .inr (.inl g0))), (n1, .inl (cJ1, 60, .inr (.inl g1))), (n2, .inl (cJ2, 60, .inr (.inl g2))), (n3, .inl (cJ3, 60, .inr (.inl g3)))]) [0, 1, 2, 3, 4, 5, 6, 7, 8, 9] rfl
                    have hD9 := hD.sub (ws' := [(h0, .inr (7, [.ref tp, .ref sc, .ref rd, .ref cu, .ref im, .ref ig, .ref sl, .ref se, .ref sm, .ref fc])), (sl, .inl (cS, 4, .inr (.inr (.inr (.inr (sf4 s0 s1 s2 s3)))))), (s0, .inr (2, [.int wd0, .int rz0, .ref n0])), (s1, .inr (2, [.int wd1, .int rz1, .ref n1])), (s2, .inr (2, [.int wd2, .int rz2, .ref n2])), (s3, .inr (2, [.int wd3, .int rz3, .ref n3])), (n0, .inl (cJ0, 60, .inr (.inl g0))), (n1, .inl (cJ1, 60, .inr (.inl g1))), (n2, .inl (cJ2, 60, .inr (.inl g2))), (n3, .inl (cJ3, 60, .inr (.inl g3)))]) [0, 1, 2, 3, 4, 5, 6, 7, 8, 9] (by decide) rfl
                    have hK9 := hK.sub (tys' := [(cS, .object RX3), (cJ0, .long), (cJ1, .long), (cJ2, .long), (cJ3, .long)]) [0, 1, 2, 3, 4] rfl
                    exact W.iret (v := (-7)) hx hb hr (fun t ht hW => ⟨⟨(-7), (), rfl, ⟨(rg_w (by decide : (-7 : Int) ≤ ((-7) : Int32).toInt ∧ ((-7) : Int32).toInt ≤ -7) (by decide) (by decide)), (ps_7 (j := 2) (t := 1) (by decide) (by decide) (by decide) (by have q1 := hg9_1; unfold RG at q1; have q2 := hg9_2; unfold RG at q2; omega) (by have q1 := hg9_1; unfold RG at q1; have q2 := hg9_2; unfold RG at q2; omega) (by have q1 := hg9_1; unfold RG at q1; have q2 := hg9_2; unfold RG at q2; omega))⟩, g0, g1, g2, g3, by rw [ht]; exact hP9, va_K.moved hW.alike hK9, hD9⟩, hS.F ht⟩) hS.2.2 dX9_paste_95
              ·
                have n_c_532 : (wd2.toInt : Int) ≠ wd1.toInt := c_ne rfl rfl c_532
                refine lv_bipush (v := (-8)) hx hb dX9_paste_67 (by decide) ?_
                have hP9 := hP.sub (ws' := [(h0, .inr (7, [.ref tp, .ref sc, .ref rd, .ref cu, .ref im, .ref ig, .ref sl, .ref se, .ref sm, .ref fc])), (sl, .inl (cS, 4, .inr (.inr (.inr (.inr (sf4 s0 s1 s2 s3)))))), (s0, .inr (2, [.int wd0, .int rz0, .ref n0])), (s1, .inr (2, [.int wd1, .int rz1, .ref n1])), (s2, .inr (2, [.int wd2, .int rz2, .ref n2])), (s3, .inr (2, [.int wd3, .int rz3, .ref n3])), (n0, .inl (cJ0, 60, .inr (.inl g0))), (n1, .inl (cJ1, 60, .inr (.inl g1))), (n2, .inl (cJ2, 60, .inr (.inl g2))), (n3, .inl (cJ3, 60, .inr (.inl g3)))]) [0, 1, 2, 3, 4, 5, 6, 7, 8, 9] rfl
                have hD9 := hD.sub (ws' := [(h0, .inr (7, [.ref tp, .ref sc, .ref rd, .ref cu, .ref im, .ref ig, .ref sl, .ref se, .ref sm, .ref fc])), (sl, .inl (cS, 4, .inr (.inr (.inr (.inr (sf4 s0 s1 s2 s3)))))), (s0, .inr (2, [.int wd0, .int rz0, .ref n0])), (s1, .inr (2, [.int wd1, .int rz1, .ref n1])), (s2, .inr (2, [.int wd2, .int rz2, .ref n2])), (s3, .inr (2, [.int wd3, .int rz3, .ref n3])), (n0, .inl (cJ0, 60, .inr (.inl g0))), (n1, .inl (cJ1, 60, .inr (.inl g1))), (n2, .inl (cJ2, 60, .inr (.inl g2))), (n3, .inl (cJ3, 60, .inr (.inl g3)))]) [0, 1, 2, 3, 4, 5, 6, 7, 8, 9] (by decide) rfl
                have hK9 := hK.sub (tys' := [(cS, .object RX3), (cJ0, .long), (cJ1, .long), (cJ2, .long), (cJ3, .long)]) [0, 1, 2, 3, 4] rfl
                exact W.iret (v := (-8)) hx hb hr (fun t ht hW => ⟨⟨(-8), (), rfl, ⟨(rg_w (by decide : (-8 : Int) ≤ ((-8) : Int32).toInt ∧ ((-8) : Int32).toInt ≤ -8) (by decide) (by decide)), (ps_8 (j := 2) (t := 1) (by decide) (by decide) (by decide) (by have q1 := hg9_1; unfold RG at q1; have q2 := hg9_2; unfold RG at q2; omega) (by have q1 := hg9_1; unfold RG at q1; have q2 := hg9_2; unfold RG at q2; omega))⟩, g0, g1, g2, g3, by rw [ht]; exact hP9, va_K.moved hW.alike hK9, hD9⟩, hS.F ht⟩) hS.2.2 dX9_paste_69
            ·
              have n_c_530 : (r_529.toInt : Int) = 0 := c_eq rfl (by decide) c_530
              have b_r_529 : (0 : Int) ≤ r_529.toInt ∧ r_529.toInt ≤ 0 := r_eq1 b_r_529 (by decide : (0 : Int) ≤ (0 : Int32).toInt ∧ (0 : Int32).toInt ≤ 0) n_c_530 (by decide)
              have g_544 := zz_r_529 c_530
              refine lv_bipush (v := (-6)) hx hb dX9_paste_51 (by decide) ?_
              have hP9 := hP.sub (ws' := [(h0, .inr (7, [.ref tp, .ref sc, .ref rd, .ref cu, .ref im, .ref ig, .ref sl, .ref se, .ref sm, .ref fc])), (sl, .inl (cS, 4, .inr (.inr (.inr (.inr (sf4 s0 s1 s2 s3)))))), (s0, .inr (2, [.int wd0, .int rz0, .ref n0])), (s1, .inr (2, [.int wd1, .int rz1, .ref n1])), (s2, .inr (2, [.int wd2, .int rz2, .ref n2])), (s3, .inr (2, [.int wd3, .int rz3, .ref n3])), (n0, .inl (cJ0, 60, .inr (.inl g0))), (n1, .inl (cJ1, 60, .inr (.inl g1))), (n2, .inl (cJ2, 60, .inr (.inl g2))), (n3, .inl (cJ3, 60, .inr (.inl g3)))]) [0, 1, 2, 3, 4, 5, 6, 7, 8, 9] rfl
              have hD9 := hD.sub (ws' := [(h0, .inr (7, [.ref tp, .ref sc, .ref rd, .ref cu, .ref im, .ref ig, .ref sl, .ref se, .ref sm, .ref fc])), (sl, .inl (cS, 4, .inr (.inr (.inr (.inr (sf4 s0 s1 s2 s3)))))), (s0, .inr (2, [.int wd0, .int rz0, .ref n0])), (s1, .inr (2, [.int wd1, .int rz1, .ref n1])), (s2, .inr (2, [.int wd2, .int rz2, .ref n2])), (s3, .inr (2, [.int wd3, .int rz3, .ref n3])), (n0, .inl (cJ0, 60, .inr (.inl g0))), (n1, .inl (cJ1, 60, .inr (.inl g1))), (n2, .inl (cJ2, 60, .inr (.inl g2))), (n3, .inl (cJ3, 60, .inr (.inl g3)))]) [0, 1, 2, 3, 4, 5, 6, 7, 8, 9] (by decide) rfl
              have hK9 := hK.sub (tys' := [(cS, .object RX3), (cJ0, .long), (cJ1, .long), (cJ2, .long), (cJ3, .long)]) [0, 1, 2, 3, 4] rfl
              exact W.iret (v := (-6)) hx hb hr (fun t ht hW => ⟨⟨(-6), (), rfl, ⟨(rg_w (by decide : (-6 : Int) ≤ ((-6) : Int32).toInt ∧ ((-6) : Int32).toInt ≤ -6) (by decide) (by decide)), (ps_6 (j := 2) (t := 1) (by decide) (by decide) (by decide) (by have q1 := hg9_1; unfold RG at q1; have q2 := hg9_2; unfold RG at q2; omega))⟩, g0, g1, g2, g3, by rw [ht]; exact hP9, va_K.moved hW.alike hK9, hD9⟩, hS.F ht⟩) hS.2.2 dX9_paste_53
        ·
          obtain rfl : a3 = 2 := Int32.toInt_inj.mp (h_504.trans (by decide))
          refine va_aldq hx hb hK hP 1 0 rfl rfl (vp_in_b (by decide : (2 : Int) ≤ (2 : Int32).toInt ∧ (2 : Int32).toInt ≤ 2) (by decide) (by decide)) dX9_paste_32 ?_
          refine W.eq (g2 := F0 m 33 ls (.ref s2 :: [])) (congrArg (fun v => F0 m 33 ls (va_rf v :: [])) (sf4_2 s0 s1 s2 s3)) ?_
          refine lv_astore (lv' := [(7, .ref s2), (6, .ref s2), (0, .ref h0), (1, .int 2), (2, .int a2), (3, .int 2), (4, .int a4), (5, .int a5)]) hx hb dX9_paste_33 hl (by decide) rfl (fun ls hl => ?_)
          refine lv_aload hx hb dX9_paste_35 (lv_at hl 1 rfl) ?_
          refine vp_callSi (W.runV (As := []) (rest := []) ⟨hx, hb, hml, hown, hts⟩ (kX3_stands2 l dC dI s2 wd2 rz2 n2 b_wd2 b_rz2) (cwV 0 hts gX9_pasteF__X3_stands2_V270 rfl rfl rfl hd_yX3_stands ⟨lel 1 2 rfl, lel 20 88 rfl⟩) ⟨pw_fb, rcv_X3 hK hP (q0 := 4) rfl, (pw_use hP hK hN [4] rfl [] rfl)⟩ rfl rfl hl.1 rfl (lv_room (Nat.le_of_ble_eq_true rfl)) dX9_paste_37 ⟨lel 0 0 rfl, lel 0 0 rfl⟩) (fun r_545 h_r_545 => ?_)
          obtain ⟨b_r_545, nz_r_545, zz_r_545⟩ := h_r_545
          have b_r_545 : (0 : Int) ≤ r_545.toInt ∧ r_545.toInt ≤ 1 := b_r_545
          refine lv_if_eq (tgt := 51) hx hb dX9_paste_40 (by decide) (fun c_546 => ?_) (fun c_546 => ?_)
          ·
            have n_c_546 : (r_545.toInt : Int) = 0 := c_eq rfl (by decide) c_546
            have b_r_545 : (0 : Int) ≤ r_545.toInt ∧ r_545.toInt ≤ 0 := r_eq1 b_r_545 (by decide : (0 : Int) ≤ (0 : Int32).toInt ∧ (0 : Int32).toInt ≤ 0) n_c_546 (by decide)
            have g_547 := zz_r_545 c_546
            refine lv_bipush (v := (-6)) hx hb dX9_paste_51 (by decide) ?_
            have hP9 := hP.sub (ws' := [(h0, .inr (7, [.ref tp, .ref sc, .ref rd, .ref cu, .ref im, .ref ig, .ref sl, .ref se, .ref sm, .ref fc])), (sl, .inl (cS, 4, .inr (.inr (.inr (.inr (sf4 s0 s1 s2 s3)))))), (s0, .inr (2, [.int wd0, .int rz0, .ref n0])), (s1, .inr (2, [.int wd1, .int rz1, .ref n1])), (s2, .inr (2, [.int wd2, .int rz2, .ref n2])), (s3, .inr (2, [.int wd3, .int rz3, .ref n3])), (n0, .inl (cJ0, 60, .inr (.inl g0))), (n1, .inl (cJ1, 60, .inr (.inl g1))), (n2, .inl (cJ2, 60, .inr (.inl g2))), (n3, .inl (cJ3, 60, .inr (.inl g3)))]) [0, 1, 2, 3, 4, 5, 6, 7, 8, 9] rfl
            have hD9 := hD.sub (ws' := [(h0, .inr (7, [.ref tp, .ref sc, .ref rd, .ref cu, .ref im, .ref ig, .ref sl, .ref se, .ref sm, .ref fc])), (sl, .inl (cS, 4, .inr (.inr (.inr (.inr (sf4 s0 s1 s2 s3)))))), (s0, .inr (2, [.int wd0, .int rz0, .ref n0])), (s1, .inr (2, [.int wd1, .int rz1, .ref n1])), (s2, .inr (2, [.int wd2, .int rz2, .ref n2])), (s3, .inr (2, [.int wd3, .int rz3, .ref n3])), (n0, .inl (cJ0, 60, .inr (.inl g0))), (n1, .inl (cJ1, 60, .inr (.inl g1))), (n2, .inl (cJ2, 60, .inr (.inl g2))), (n3, .inl (cJ3, 60, .inr (.inl g3)))]) [0, 1, 2, 3, 4, 5, 6, 7, 8, 9] (by decide) rfl
            have hK9 := hK.sub (tys' := [(cS, .object RX3), (cJ0, .long), (cJ1, .long), (cJ2, .long), (cJ3, .long)]) [0, 1, 2, 3, 4] rfl
            exact W.iret (v := (-6)) hx hb hr (fun t ht hW => ⟨⟨(-6), (), rfl, ⟨(rg_w (by decide : (-6 : Int) ≤ ((-6) : Int32).toInt ∧ ((-6) : Int32).toInt ≤ -6) (by decide) (by decide)), (ps_6 (j := 2) (t := 2) (by decide) (by decide) (by decide) (by have q2 := hg9_2; unfold RG at q2; omega))⟩, g0, g1, g2, g3, by rw [ht]; exact hP9, va_K.moved hW.alike hK9, hD9⟩, hS.F ht⟩) hS.2.2 dX9_paste_53
          ·
            have n_c_546 : (r_545.toInt : Int) ≠ 0 := c_ne rfl (by decide) c_546
            have b_r_545 : (1 : Int) ≤ r_545.toInt ∧ r_545.toInt ≤ 1 := r_ne1 b_r_545 (by decide : (0 : Int) ≤ (0 : Int32).toInt ∧ (0 : Int32).toInt ≤ 0) n_c_546 (by decide)
            obtain ⟨b_wd2, g_548⟩ := nz_r_545 c_546
            refine lv_aload hx hb dX9_paste_43 (lv_at hl 0 rfl) ?_
            refine vp_callSi (W.runV (As := []) (rest := []) ⟨hx, hb, hml, hown, hts⟩ (kX3_stands2 l dC dI s2 wd2 rz2 n2 (rg_w b_wd2 (by decide) (by decide)) b_rz2) (cwV 0 hts gX9_pasteF__X3_stands2_V270 rfl rfl rfl hd_yX3_stands ⟨lel 1 2 rfl, lel 20 88 rfl⟩) ⟨pw_fb, rcv_X3 hK hP (q0 := 4) rfl, (pw_use hP hK hN [4] rfl [] rfl)⟩ rfl rfl hl.1 rfl (lv_room (Nat.le_of_ble_eq_true rfl)) dX9_paste_45 ⟨lel 0 0 rfl, lel 0 0 rfl⟩) (fun r_549 h_r_549 => ?_)
            obtain ⟨b_r_549, nz_r_549, zz_r_549⟩ := h_r_549
            have b_r_549 : (0 : Int) ≤ r_549.toInt ∧ r_549.toInt ≤ 1 := b_r_549
            refine lv_if_ne (tgt := 54) hx hb dX9_paste_48 (by decide) (fun c_550 => ?_) (fun c_550 => ?_)
            ·
              have n_c_550 : (r_549.toInt : Int) ≠ 0 := c_ne rfl (by decide) c_550
              have b_r_549 : (1 : Int) ≤ r_549.toInt ∧ r_549.toInt ≤ 1 := r_ne1 b_r_549 (by decide : (0 : Int) ≤ (0 : Int32).toInt ∧ (0 : Int32).toInt ≤ 0) n_c_550 (by decide)
              obtain ⟨b_wd2, g_551⟩ := nz_r_549 c_550
              refine lv_aload hx hb dX9_paste_54 (lv_at hl 1 rfl) ?_
              refine va_getN (own := RX9) (index := 350) (ref := RX3) (host := RX9) (D := (dC, dI)) (ci := 2) (v := .int wd2) (C := RX3) (T := TX3) (N := 3) hx hb hts iX9_pasteF_X3 hown hK hP 4 rfl rfl 0 (by decide) (va_Nw.use rfl (hN _ (List.mem_of_getElem? (i := 21) rfl))) (fun _ h9 => h9) rfl dX9_paste_56 ?_
              refine lv_aload hx hb dX9_paste_59 (lv_at hl 0 rfl) ?_
              refine va_getN (own := RX9) (index := 350) (ref := RX3) (host := RX9) (D := (dC, dI)) (ci := 2) (v := .int wd2) (C := RX3) (T := TX3) (N := 3) hx hb hts iX9_pasteF_X3 hown hK hP 4 rfl rfl 0 (by decide) (va_Nw.use rfl (hN _ (List.mem_of_getElem? (i := 21) rfl))) (fun _ h9 => h9) rfl dX9_paste_61 ?_
              refine lv_icmp_eq (tgt := 70) hx hb dX9_paste_64 (by decide) (fun c_552 => ?_) (fun c_552 => ?_)
              ·
                have n_c_552 : (wd2.toInt : Int) = wd2.toInt := c_eq rfl rfl c_552
                refine lv_aload hx hb dX9_paste_70 (lv_at hl 1 rfl) ?_
                refine lv_iload_n hx hb dX9_paste_72 rfl (lv_at hl 4 rfl) ?_
                refine lv_iload hx hb dX9_paste_73 (lv_at hl 7 rfl) ?_
                refine vp_callSi (W.runV (As := [.int a2, .int a5]) (rest := []) ⟨hx, hb, hml, hown, hts⟩ (kX3_hasStretch2 l dC dI s2 wd2 rz2 n2 a2 a5 (rg_w b_wd2 (by decide) (by decide)) b_rz2) (cwV 2 hts gX9_pasteF__X3_hasStretch2_V343 rfl rfl rfl hd_yX3_hasStretch ⟨lel 1 2 rfl, lel 22 88 rfl⟩) ⟨pw_fb, rcv_X3 hK hP (q0 := 4) rfl, (pw_use hP hK hN [4] rfl [] rfl)⟩ rfl rfl hl.1 rfl (lv_room (Nat.le_of_ble_eq_true rfl)) dX9_paste_75 ⟨lel 0 0 rfl, lel 0 0 rfl⟩) (fun r_553 h_r_553 => ?_)
                obtain ⟨b_r_553, nz_r_553, zz_r_553⟩ := h_r_553
                have b_r_553 : (0 : Int) ≤ r_553.toInt ∧ r_553.toInt ≤ 1 := b_r_553
                refine lv_if_eq (tgt := 93) hx hb dX9_paste_78 (by decide) (fun c_554 => ?_) (fun c_554 => ?_)
                ·
                  have n_c_554 : (r_553.toInt : Int) = 0 := c_eq rfl (by decide) c_554
                  have b_r_553 : (0 : Int) ≤ r_553.toInt ∧ r_553.toInt ≤ 0 := r_eq1 b_r_553 (by decide : (0 : Int) ≤ (0 : Int32).toInt ∧ (0 : Int32).toInt ≤ 0) n_c_554 (by decide)
                  have g_555 := zz_r_553 c_554
                  refine lv_bipush (v := (-7)) hx hb dX9_paste_93 (by decide) ?_
                  have hP9 := hP.sub (ws' := [(h0, .inr (7, [.ref tp, .ref sc, .ref rd, .ref cu, .ref im, .ref ig, .ref sl, .ref se, .ref sm, .ref fc])), (sl, .inl (cS, 4, .inr (.inr (.inr (.inr (sf4 s0 s1 s2 s3)))))), (s0, .inr (2, [.int wd0, .int rz0, .ref n0])), (s1, .inr (2, [.int wd1, .int rz1, .ref n1])), (s2, .inr (2, [.int wd2, .int rz2, .ref n2])), (s3, .inr (2, [.int wd3, .int rz3, .ref n3])), (n0, .inl (cJ0, 60, .inr (.inl g0))), (n1, .inl (cJ1, 60, .inr (.inl g1))), (n2, .inl (cJ2, 60, .inr (.inl g2))), (n3, .inl (cJ3, 60, .inr (.inl g3)))]) [0, 1, 2, 3, 4, 5, 6, 7, 8, 9] rfl
                  have hD9 := hD.sub (ws' := [(h0, .inr (7, [.ref tp, .ref sc, .ref rd, .ref cu, .ref im, .ref ig, .ref sl, .ref se, .ref sm, .ref fc])), (sl, .inl (cS, 4, .inr (.inr (.inr (.inr (sf4 s0 s1 s2 s3)))))), (s0, .inr (2, [.int wd0, .int rz0, .ref n0])), (s1, .inr (2, [.int wd1, .int rz1, .ref n1])), (s2, .inr (2, [.int wd2, .int rz2, .ref n2])), (s3, .inr (2, [.int wd3, .int rz3, .ref n3])), (n0, .inl (cJ0, 60, .inr (.inl g0))), (n1, .inl (cJ1, 60, .inr (.inl g1))), (n2, .inl (cJ2, 60, .inr (.inl g2))), (n3, .inl (cJ3, 60, .inr (.inl g3)))]) [0, 1, 2, 3, 4, 5, 6, 7, 8, 9] (by decide) rfl
                  have hK9 := hK.sub (tys' := [(cS, .object RX3), (cJ0, .long), (cJ1, .long), (cJ2, .long), (cJ3, .long)]) [0, 1, 2, 3, 4] rfl
                  exact W.iret (v := (-7)) hx hb hr (fun t ht hW => ⟨⟨(-7), (), rfl, ⟨(rg_w (by decide : (-7 : Int) ≤ ((-7) : Int32).toInt ∧ ((-7) : Int32).toInt ≤ -7) (by decide) (by decide)), (ps_7 (j := 2) (t := 2) (by decide) (by decide) (by decide) (by have q2 := hg9_2; unfold RG at q2; omega) (by have q2 := hg9_2; unfold RG at q2; omega) (by have q2 := hg9_2; unfold RG at q2; omega))⟩, g0, g1, g2, g3, by rw [ht]; exact hP9, va_K.moved hW.alike hK9, hD9⟩, hS.F ht⟩) hS.2.2 dX9_paste_95
                ·
                  have n_c_554 : (r_553.toInt : Int) ≠ 0 := c_ne rfl (by decide) c_554
                  have b_r_553 : (1 : Int) ≤ r_553.toInt ∧ r_553.toInt ≤ 1 := r_ne1 b_r_553 (by decide : (0 : Int) ≤ (0 : Int32).toInt ∧ (0 : Int32).toInt ≤ 0) n_c_554 (by decide)
                  obtain ⟨b_a2, b_a5, g_556⟩ := nz_r_553 c_554
                  refine lv_aload hx hb dX9_paste_81 (lv_at hl 0 rfl) ?_
                  refine lv_iload hx hb dX9_paste_83 (lv_at hl 6 rfl) ?_
                  refine lv_iload hx hb dX9_paste_85 (lv_at hl 7 rfl) ?_
                  refine vp_callSi (W.runV (As := [.int a4, .int a5]) (rest := []) ⟨hx, hb, hml, hown, hts⟩ (kX3_hasStretch2 l dC dI s2 wd2 rz2 n2 a4 a5 (rg_w b_wd2 (by decide) (by decide)) b_rz2) (cwV 2 hts gX9_pasteF__X3_hasStretch2_V343 rfl rfl rfl hd_yX3_hasStretch ⟨lel 1 2 rfl, lel 22 88 rfl⟩) ⟨pw_fb, rcv_X3 hK hP (q0 := 4) rfl, (pw_use hP hK hN [4] rfl [] rfl)⟩ rfl rfl hl.1 rfl (lv_room (Nat.le_of_ble_eq_true rfl)) dX9_paste_87 ⟨lel 0 0 rfl, lel 0 0 rfl⟩) (fun r_557 h_r_557 => ?_)
                  obtain ⟨b_r_557, nz_r_557, zz_r_557⟩ := h_r_557
                  have b_r_557 : (0 : Int) ≤ r_557.toInt ∧ r_557.toInt ≤ 1 := b_r_557
                  refine lv_if_ne (tgt := 96) hx hb dX9_paste_90 (by decide) (fun c_558 => ?_) (fun c_558 => ?_)
                  ·
                    have n_c_558 : (r_557.toInt : Int) ≠ 0 := c_ne rfl (by decide) c_558
                    have b_r_557 : (1 : Int) ≤ r_557.toInt ∧ r_557.toInt ≤ 1 := r_ne1 b_r_557 (by decide : (0 : Int) ≤ (0 : Int32).toInt ∧ (0 : Int32).toInt ≤ 0) n_c_558 (by decide)
                    obtain ⟨b_a4, b_a5, g_559⟩ := nz_r_557 c_558
                    refine lv_aload hx hb dX9_paste_96 (lv_at hl 0 rfl) ?_
                    refine lv_iload hx hb dX9_paste_98 (lv_at hl 6 rfl) ?_
                    refine lv_aload hx hb dX9_paste_100 (lv_at hl 1 rfl) ?_
                    refine lv_iload_n hx hb dX9_paste_102 rfl (lv_at hl 4 rfl) ?_
                    refine lv_iload hx hb dX9_paste_103 (lv_at hl 7 rfl) ?_
                    have hFc := va_free (wc := [(s2, .inr (2, [.int wd2, .int rz2, .ref n2])), (n2, .inl (cJ2, 60, .inr (.inl g2)))]) hD hS hA [4, 8] rfl
                    refine va_callv (va_runV (As := [.int a4, .ref s2, .int a2, .int a5]) (rest := []) ⟨hx, hb, hml, hown, hts⟩ (kX3_takeS l dC dI s2 wd2 rz2 n2 cJ2 g2 a4 a2 a5 (s.heap.size) (rg_w b_wd2 (by decide) (by decide)) b_rz2) (cwV 4 hts gX9_pasteF__X3_takeS_V353 rfl rfl rfl hd_yX3_take ⟨lel 2 2 rfl, lel 88 88 rfl⟩) ⟨hw_fb, rcv_X3 hK hP (q0 := 4) rfl, (hw_use hP hD hK hN [4, 8] rfl (by decide) rfl [3] rfl)⟩ rfl rfl hl.1 rfl (lv_room (Nat.le_of_ble_eq_true rfl)) dX9_paste_105 ⟨lel 0 0 rfl, lel 0 0 rfl⟩) hS (fun q _ h => hFc q h) hFc (fun u_561 t H1 locs ht hvm hw_r_560 hB hz1 hk1 hS => ?_)
                    obtain ⟨o0_562, hP1, hK1, hD1⟩ := hB
                    rw [ht] at hP1
                    have hK1 := va_K.moved hvm.symm hK1
                    obtain ⟨hP, hD⟩ := va_join (wr := [(h0, .inr (7, [.ref tp, .ref sc, .ref rd, .ref cu, .ref im, .ref ig, .ref sl, .ref se, .ref sm, .ref fc])), (sl, .inl (cS, 4, .inr (.inr (.inr (.inr (sf4 s0 s1 s2 s3)))))), (s0, .inr (2, [.int wd0, .int rz0, .ref n0])), (s1, .inr (2, [.int wd1, .int rz1, .ref n1])), (s3, .inr (2, [.int wd3, .int rz3, .ref n3])), (n0, .inl (cJ0, 60, .inr (.inl g0))), (n1, .inl (cJ1, 60, .inr (.inl g1))), (n3, .inl (cJ3, 60, .inr (.inl g3)))]) (w1 := [(s2, .inr (2, [.int wd2, .int rz2, .ref n2])), (n2, .inl (cJ2, 60, .inr (.inl o0_562)))]) hP hD [4, 8] [0, 1, 2, 3, 5, 6, 7, 9] rfl rfl (by decide) (by decide) hk1 hFc hP1 hD1
                    have hK := (hK.sub (tys' := [(cS, .object RX3), (cJ0, .long), (cJ1, .long), (cJ3, .long)]) [0, 1, 2, 4] rfl).app hK1
                    generalize H1 = H at hP hS ⊢
                    have hP := hP.sub (ws' := [(h0, .inr (7, [.ref tp, .ref sc, .ref rd, .ref cu, .ref im, .ref ig, .ref sl, .ref se, .ref sm, .ref fc])), (sl, .inl (cS, 4, .inr (.inr (.inr (.inr (sf4 s0 s1 s2 s3)))))), (s0, .inr (2, [.int wd0, .int rz0, .ref n0])), (s1, .inr (2, [.int wd1, .int rz1, .ref n1])), (s2, .inr (2, [.int wd2, .int rz2, .ref n2])), (s3, .inr (2, [.int wd3, .int rz3, .ref n3])), (n0, .inl (cJ0, 60, .inr (.inl g0))), (n1, .inl (cJ1, 60, .inr (.inl g1))), (n2, .inl (cJ2, 60, .inr (.inl o0_562))), (n3, .inl (cJ3, 60, .inr (.inl g3)))]) [0, 1, 2, 3, 8, 4, 5, 6, 9, 7] rfl
                    have hD := hD.sub (ws' := [(h0, .inr (7, [.ref tp, .ref sc, .ref rd, .ref cu, .ref im, .ref ig, .ref sl, .ref se, .ref sm, .ref fc])), (sl, .inl (cS, 4, .inr (.inr (.inr (.inr (sf4 s0 s1 s2 s3)))))), (s0, .inr (2, [.int wd0, .int rz0, .ref n0])), (s1, .inr (2, [.int wd1, .int rz1, .ref n1])), (s2, .inr (2, [.int wd2, .int rz2, .ref n2])), (s3, .inr (2, [.int wd3, .int rz3, .ref n3])), (n0, .inl (cJ0, 60, .inr (.inl g0))), (n1, .inl (cJ1, 60, .inr (.inl g1))), (n2, .inl (cJ2, 60, .inr (.inl o0_562))), (n3, .inl (cJ3, 60, .inr (.inl g3)))]) [0, 1, 2, 3, 8, 4, 5, 6, 9, 7] (by decide) rfl
                    have hK := hK.sub (tys' := [(cS, .object RX3), (cJ0, .long), (cJ1, .long), (cJ2, .long), (cJ3, .long)]) [0, 1, 2, 4, 3] rfl
                    have hP : va_P (dC, dI) vwCl [(h0, .inr (7, [.ref tp, .ref sc, .ref rd, .ref cu, .ref im, .ref ig, .ref sl, .ref se, .ref sm, .ref fc])), (sl, .inl (cS, 4, .inr (.inr (.inr (.inr (sf4 s0 s1 s2 s3)))))), (s0, .inr (2, [.int wd0, .int rz0, .ref n0])), (s1, .inr (2, [.int wd1, .int rz1, .ref n1])), (s2, .inr (2, [.int wd2, .int rz2, .ref n2])), (s3, .inr (2, [.int wd3, .int rz3, .ref n3])), (n0, .inl (cJ0, 60, .inr (.inl g0))), (n1, .inl (cJ1, 60, .inr (.inl g1))), (n2, .inl (cJ2, 60, .inr (.inl o0_562))), (n3, .inl (cJ3, 60, .inr (.inl g3)))] H := hP
                    have hD : va_D A [(h0, .inr (7, [.ref tp, .ref sc, .ref rd, .ref cu, .ref im, .ref ig, .ref sl, .ref se, .ref sm, .ref fc])), (sl, .inl (cS, 4, .inr (.inr (.inr (.inr (sf4 s0 s1 s2 s3)))))), (s0, .inr (2, [.int wd0, .int rz0, .ref n0])), (s1, .inr (2, [.int wd1, .int rz1, .ref n1])), (s2, .inr (2, [.int wd2, .int rz2, .ref n2])), (s3, .inr (2, [.int wd3, .int rz3, .ref n3])), (n0, .inl (cJ0, 60, .inr (.inl g0))), (n1, .inl (cJ1, 60, .inr (.inl g1))), (n2, .inl (cJ2, 60, .inr (.inl o0_562))), (n3, .inl (cJ3, 60, .inr (.inl g3)))] := hD
                    have hK : va_K (dC, dI) vwCl [(cS, .object RX3), (cJ0, .long), (cJ1, .long), (cJ2, .long), (cJ3, .long)] s := hK
                    refine lv_iconst (v := 0) hx hb dX9_paste_108 (by decide) ?_
                    have hP9 := hP.sub (ws' := [(h0, .inr (7, [.ref tp, .ref sc, .ref rd, .ref cu, .ref im, .ref ig, .ref sl, .ref se, .ref sm, .ref fc])), (sl, .inl (cS, 4, .inr (.inr (.inr (.inr (sf4 s0 s1 s2 s3)))))), (s0, .inr (2, [.int wd0, .int rz0, .ref n0])), (s1, .inr (2, [.int wd1, .int rz1, .ref n1])), (s2, .inr (2, [.int wd2, .int rz2, .ref n2])), (s3, .inr (2, [.int wd3, .int rz3, .ref n3])), (n0, .inl (cJ0, 60, .inr (.inl g0))), (n1, .inl (cJ1, 60, .inr (.inl g1))), (n2, .inl (cJ2, 60, .inr (.inl o0_562))), (n3, .inl (cJ3, 60, .inr (.inl g3)))]) [0, 1, 2, 3, 4, 5, 6, 7, 8, 9] rfl
                    have hD9 := hD.sub (ws' := [(h0, .inr (7, [.ref tp, .ref sc, .ref rd, .ref cu, .ref im, .ref ig, .ref sl, .ref se, .ref sm, .ref fc])), (sl, .inl (cS, 4, .inr (.inr (.inr (.inr (sf4 s0 s1 s2 s3)))))), (s0, .inr (2, [.int wd0, .int rz0, .ref n0])), (s1, .inr (2, [.int wd1, .int rz1, .ref n1])), (s2, .inr (2, [.int wd2, .int rz2, .ref n2])), (s3, .inr (2, [.int wd3, .int rz3, .ref n3])), (n0, .inl (cJ0, 60, .inr (.inl g0))), (n1, .inl (cJ1, 60, .inr (.inl g1))), (n2, .inl (cJ2, 60, .inr (.inl o0_562))), (n3, .inl (cJ3, 60, .inr (.inl g3)))]) [0, 1, 2, 3, 4, 5, 6, 7, 8, 9] (by decide) rfl
                    have hK9 := hK.sub (tys' := [(cS, .object RX3), (cJ0, .long), (cJ1, .long), (cJ2, .long), (cJ3, .long)]) [0, 1, 2, 3, 4] rfl
                    exact W.iret (v := 0) hx hb hr (fun t ht hW => ⟨⟨0, (), rfl, ⟨(rg_w (by decide : (0 : Int) ≤ (0 : Int32).toInt ∧ (0 : Int32).toInt ≤ 0) (by decide) (by decide)), (ps_0 (j := 2) (t := 2) (by decide) (by decide) (by decide) (by have q2 := hg9_2; unfold RG at q2; omega) (by have q2 := hg9_2; unfold RG at q2; omega) (by have q2 := hg9_2; unfold RG at q2; omega))⟩, g0, g1, o0_562, g3, by rw [ht]; exact hP9, va_K.moved hW.alike hK9, hD9⟩, hS.F ht⟩) hS.2.2 dX9_paste_109
                  ·
                    have n_c_558 : (r_557.toInt : Int) = 0 := c_eq rfl (by decide) c_558
                    have b_r_557 : (0 : Int) ≤ r_557.toInt ∧ r_557.toInt ≤ 0 := r_eq1 b_r_557 (by decide : (0 : Int) ≤ (0 : Int32).toInt ∧ (0 : Int32).toInt ≤ 0) n_c_558 (by decide)
                    have g_563 := zz_r_557 c_558
                    refine lv_bipush (v := (-7)) hx hb dX9_paste_93 (by decide) ?_
                    have hP9 := hP.sub (ws' := [(h0, .inr (7, [.ref tp, .ref sc, .ref rd, .ref cu, .ref im, .ref ig, .ref sl, .ref se, .ref sm, .ref fc])), (sl, .inl (cS, 4, .inr (.inr (.inr (.inr (sf4 s0 s1 s2 s3)))))), (s0, .inr (2, [.int wd0, .int rz0, .ref n0])), (s1, .inr (2, [.int wd1, .int rz1, .ref n1])), (s2, .inr (2, [.int wd2, .int rz2, .ref n2])), (s3, .inr (2, [.int wd3, .int rz3, .ref n3])), (n0, .inl (cJ0, 60, .inr (.inl g0))), (n1, .inl (cJ1, 60, .inr (.inl g1))), (n2, .inl (cJ2, 60, .inr (.inl g2))), (n3, .inl (cJ3, 60, .inr (.inl g3)))]) [0, 1, 2, 3, 4, 5, 6, 7, 8, 9] rfl
                    have hD9 := hD.sub (ws' := [(h0, .inr (7, [.ref tp, .ref sc, .ref rd, .ref cu, .ref im, .ref ig, .ref sl, .ref se, .ref sm, .ref fc])), (sl, .inl (cS, 4, .inr (.inr (.inr (.inr (sf4 s0 s1 s2 s3)))))), (s0, .inr (2, [.int wd0, .int rz0, .ref n0])), (s1, .inr (2, [.int wd1, .int rz1, .ref n1])), (s2, .inr (2, [.int wd2, .int rz2, .ref n2])), (s3, .inr (2, [.int wd3, .int rz3, .ref n3])), (n0, .inl (cJ0, 60, .inr (.inl g0))), (n1, .inl (cJ1, 60, .inr (.inl g1))), (n2, .inl (cJ2, 60, .inr (.inl g2))), (n3, .inl (cJ3, 60, .inr (.inl g3)))]) [0, 1, 2, 3, 4, 5, 6, 7, 8, 9] (by decide) rfl
                    have hK9 := hK.sub (tys' := [(cS, .object RX3), (cJ0, .long), (cJ1, .long), (cJ2, .long), (cJ3, .long)]) [0, 1, 2, 3, 4] rfl
                    exact W.iret (v := (-7)) hx hb hr (fun t ht hW => ⟨⟨(-7), (), rfl, ⟨(rg_w (by decide : (-7 : Int) ≤ ((-7) : Int32).toInt ∧ ((-7) : Int32).toInt ≤ -7) (by decide) (by decide)), (ps_7 (j := 2) (t := 2) (by decide) (by decide) (by decide) (by have q2 := hg9_2; unfold RG at q2; omega) (by have q2 := hg9_2; unfold RG at q2; omega) (by have q2 := hg9_2; unfold RG at q2; omega))⟩, g0, g1, g2, g3, by rw [ht]; exact hP9, va_K.moved hW.alike hK9, hD9⟩, hS.F ht⟩) hS.2.2 dX9_paste_95
              ·
                have n_c_552 : (wd2.toInt : Int) ≠ wd2.toInt := c_ne rfl rfl c_552
                refine lv_bipush (v := (-8)) hx hb dX9_paste_67 (by decide) ?_
                have hP9 := hP.sub (ws' := [(h0, .inr (7, [.ref tp, .ref sc, .ref rd, .ref cu, .ref im, .ref ig, .ref sl, .ref se, .ref sm, .ref fc])), (sl, .inl (cS, 4, .inr (.inr (.inr (.inr (sf4 s0 s1 s2 s3)))))), (s0, .inr (2, [.int wd0, .int rz0, .ref n0])), (s1, .inr (2, [.int wd1, .int rz1, .ref n1])), (s2, .inr (2, [.int wd2, .int rz2, .ref n2])), (s3, .inr (2, [.int wd3, .int rz3, .ref n3])), (n0, .inl (cJ0, 60, .inr (.inl g0))), (n1, .inl (cJ1, 60, .inr (.inl g1))), (n2, .inl (cJ2, 60, .inr (.inl g2))), (n3, .inl (cJ3, 60, .inr (.inl g3)))]) [0, 1, 2, 3, 4, 5, 6, 7, 8, 9] rfl
                have hD9 := hD.sub (ws' := [(h0, .inr (7, [.ref tp, .ref sc, .ref rd, .ref cu, .ref im, .ref ig, .ref sl, .ref se, .ref sm, .ref fc])), (sl, .inl (cS, 4, .inr (.inr (.inr (.inr (sf4 s0 s1 s2 s3)))))), (s0, .inr (2, [.int wd0, .int rz0, .ref n0])), (s1, .inr (2, [.int wd1, .int rz1, .ref n1])), (s2, .inr (2, [.int wd2, .int rz2, .ref n2])), (s3, .inr (2, [.int wd3, .int rz3, .ref n3])), (n0, .inl (cJ0, 60, .inr (.inl g0))), (n1, .inl (cJ1, 60, .inr (.inl g1))), (n2, .inl (cJ2, 60, .inr (.inl g2))), (n3, .inl (cJ3, 60, .inr (.inl g3)))]) [0, 1, 2, 3, 4, 5, 6, 7, 8, 9] (by decide) rfl
                have hK9 := hK.sub (tys' := [(cS, .object RX3), (cJ0, .long), (cJ1, .long), (cJ2, .long), (cJ3, .long)]) [0, 1, 2, 3, 4] rfl
                exact W.iret (v := (-8)) hx hb hr (fun t ht hW => ⟨⟨(-8), (), rfl, ⟨(rg_w (by decide : (-8 : Int) ≤ ((-8) : Int32).toInt ∧ ((-8) : Int32).toInt ≤ -8) (by decide) (by decide)), (ps_8 (j := 2) (t := 2) (by decide) (by decide) (by decide) (by have q2 := hg9_2; unfold RG at q2; omega) (by have q2 := hg9_2; unfold RG at q2; omega))⟩, g0, g1, g2, g3, by rw [ht]; exact hP9, va_K.moved hW.alike hK9, hD9⟩, hS.F ht⟩) hS.2.2 dX9_paste_69
            ·
              have n_c_550 : (r_549.toInt : Int) = 0 := c_eq rfl (by decide) c_550
              have b_r_549 : (0 : Int) ≤ r_549.toInt ∧ r_549.toInt ≤ 0 := r_eq1 b_r_549 (by decide : (0 : Int) ≤ (0 : Int32).toInt ∧ (0 : Int32).toInt ≤ 0) n_c_550 (by decide)
              have g_564 := zz_r_549 c_550
              refine lv_bipush (v := (-6)) hx hb dX9_paste_51 (by decide) ?_
              have hP9 := hP.sub (ws' := [(h0, .inr (7, [.ref tp, .ref sc, .ref rd, .ref cu, .ref im, .ref ig, .ref sl, .ref se, .ref sm, .ref fc])), (sl, .inl (cS, 4, .inr (.inr (.inr (.inr (sf4 s0 s1 s2 s3)))))), (s0, .inr (2, [.int wd0, .int rz0, .ref n0])), (s1, .inr (2, [.int wd1, .int rz1, .ref n1])), (s2, .inr (2, [.int wd2, .int rz2, .ref n2])), (s3, .inr (2, [.int wd3, .int rz3, .ref n3])), (n0, .inl (cJ0, 60, .inr (.inl g0))), (n1, .inl (cJ1, 60, .inr (.inl g1))), (n2, .inl (cJ2, 60, .inr (.inl g2))), (n3, .inl (cJ3, 60, .inr (.inl g3)))]) [0, 1, 2, 3, 4, 5, 6, 7, 8, 9] rfl
              have hD9 := hD.sub (ws' := [(h0, .inr (7, [.ref tp, .ref sc, .ref rd, .ref cu, .ref im, .ref ig, .ref sl, .ref se, .ref sm, .ref fc])), (sl, .inl (cS, 4, .inr (.inr (.inr (.inr (sf4 s0 s1 s2 s3)))))), (s0, .inr (2, [.int wd0, .int rz0, .ref n0])), (s1, .inr (2, [.int wd1, .int rz1, .ref n1])), (s2, .inr (2, [.int wd2, .int rz2, .ref n2])), (s3, .inr (2, [.int wd3, .int rz3, .ref n3])), (n0, .inl (cJ0, 60, .inr (.inl g0))), (n1, .inl (cJ1, 60, .inr (.inl g1))), (n2, .inl (cJ2, 60, .inr (.inl g2))), (n3, .inl (cJ3, 60, .inr (.inl g3)))]) [0, 1, 2, 3, 4, 5, 6, 7, 8, 9] (by decide) rfl
              have hK9 := hK.sub (tys' := [(cS, .object RX3), (cJ0, .long), (cJ1, .long), (cJ2, .long), (cJ3, .long)]) [0, 1, 2, 3, 4] rfl
              exact W.iret (v := (-6)) hx hb hr (fun t ht hW => ⟨⟨(-6), (), rfl, ⟨(rg_w (by decide : (-6 : Int) ≤ ((-6) : Int32).toInt ∧ ((-6) : Int32).toInt ≤ -6) (by decide) (by decide)), (ps_6 (j := 2) (t := 2) (by decide) (by decide) (by decide) (by have q2 := hg9_2; unfold RG at q2; omega))⟩, g0, g1, g2, g3, by rw [ht]; exact hP9, va_K.moved hW.alike hK9, hD9⟩, hS.F ht⟩) hS.2.2 dX9_paste_53
        ·
          obtain rfl : a3 = 3 := Int32.toInt_inj.mp (h_504.trans (by decide))
          refine va_aldq hx hb hK hP 1 0 rfl rfl (vp_in_b (by decide : (3 : Int) ≤ (3 : Int32).toInt ∧ (3 : Int32).toInt ≤ 3) (by decide) (by decide)) dX9_paste_32 ?_
          refine W.eq (g2 := F0 m 33 ls (.ref s3 :: [])) (congrArg (fun v => F0 m 33 ls (va_rf v :: [])) (sf4_3 s0 s1 s2 s3)) ?_
          refine lv_astore (lv' := [(7, .ref s3), (6, .ref s2), (0, .ref h0), (1, .int 2), (2, .int a2), (3, .int 3), (4, .int a4), (5, .int a5)]) hx hb dX9_paste_33 hl (by decide) rfl (fun ls hl => ?_)
          refine lv_aload hx hb dX9_paste_35 (lv_at hl 1 rfl) ?_
          refine vp_callSi (W.runV (As := []) (rest := []) ⟨hx, hb, hml, hown, hts⟩ (kX3_stands2 l dC dI s2 wd2 rz2 n2 b_wd2 b_rz2) (cwV 0 hts gX9_pasteF__X3_stands2_V270 rfl rfl rfl hd_yX3_stands ⟨lel 1 2 rfl, lel 20 88 rfl⟩) ⟨pw_fb, rcv_X3 hK hP (q0 := 4) rfl, (pw_use hP hK hN [4] rfl [] rfl)⟩ rfl rfl hl.1 rfl (lv_room (Nat.le_of_ble_eq_true rfl)) dX9_paste_37 ⟨lel 0 0 rfl, lel 0 0 rfl⟩) (fun r_565 h_r_565 => ?_)
          obtain ⟨b_r_565, nz_r_565, zz_r_565⟩ := h_r_565
          have b_r_565 : (0 : Int) ≤ r_565.toInt ∧ r_565.toInt ≤ 1 := b_r_565
          refine lv_if_eq (tgt := 51) hx hb dX9_paste_40 (by decide) (fun c_566 => ?_) (fun c_566 => ?_)
          ·
            have n_c_566 : (r_565.toInt : Int) = 0 := c_eq rfl (by decide) c_566
            have b_r_565 : (0 : Int) ≤ r_565.toInt ∧ r_565.toInt ≤ 0 := r_eq1 b_r_565 (by decide : (0 : Int) ≤ (0 : Int32).toInt ∧ (0 : Int32).toInt ≤ 0) n_c_566 (by decide)
            have g_567 := zz_r_565 c_566
            refine lv_bipush (v := (-6)) hx hb dX9_paste_51 (by decide) ?_
            have hP9 := hP.sub (ws' := [(h0, .inr (7, [.ref tp, .ref sc, .ref rd, .ref cu, .ref im, .ref ig, .ref sl, .ref se, .ref sm, .ref fc])), (sl, .inl (cS, 4, .inr (.inr (.inr (.inr (sf4 s0 s1 s2 s3)))))), (s0, .inr (2, [.int wd0, .int rz0, .ref n0])), (s1, .inr (2, [.int wd1, .int rz1, .ref n1])), (s2, .inr (2, [.int wd2, .int rz2, .ref n2])), (s3, .inr (2, [.int wd3, .int rz3, .ref n3])), (n0, .inl (cJ0, 60, .inr (.inl g0))), (n1, .inl (cJ1, 60, .inr (.inl g1))), (n2, .inl (cJ2, 60, .inr (.inl g2))), (n3, .inl (cJ3, 60, .inr (.inl g3)))]) [0, 1, 2, 3, 4, 5, 6, 7, 8, 9] rfl
            have hD9 := hD.sub (ws' := [(h0, .inr (7, [.ref tp, .ref sc, .ref rd, .ref cu, .ref im, .ref ig, .ref sl, .ref se, .ref sm, .ref fc])), (sl, .inl (cS, 4, .inr (.inr (.inr (.inr (sf4 s0 s1 s2 s3)))))), (s0, .inr (2, [.int wd0, .int rz0, .ref n0])), (s1, .inr (2, [.int wd1, .int rz1, .ref n1])), (s2, .inr (2, [.int wd2, .int rz2, .ref n2])), (s3, .inr (2, [.int wd3, .int rz3, .ref n3])), (n0, .inl (cJ0, 60, .inr (.inl g0))), (n1, .inl (cJ1, 60, .inr (.inl g1))), (n2, .inl (cJ2, 60, .inr (.inl g2))), (n3, .inl (cJ3, 60, .inr (.inl g3)))]) [0, 1, 2, 3, 4, 5, 6, 7, 8, 9] (by decide) rfl
            have hK9 := hK.sub (tys' := [(cS, .object RX3), (cJ0, .long), (cJ1, .long), (cJ2, .long), (cJ3, .long)]) [0, 1, 2, 3, 4] rfl
            exact W.iret (v := (-6)) hx hb hr (fun t ht hW => ⟨⟨(-6), (), rfl, ⟨(rg_w (by decide : (-6 : Int) ≤ ((-6) : Int32).toInt ∧ ((-6) : Int32).toInt ≤ -6) (by decide) (by decide)), (ps_6 (j := 2) (t := 3) (by decide) (by decide) (by decide) (by have q2 := hg9_2; unfold RG at q2; have q3 := hg9_3; unfold RG at q3; omega))⟩, g0, g1, g2, g3, by rw [ht]; exact hP9, va_K.moved hW.alike hK9, hD9⟩, hS.F ht⟩) hS.2.2 dX9_paste_53
          ·
            have n_c_566 : (r_565.toInt : Int) ≠ 0 := c_ne rfl (by decide) c_566
            have b_r_565 : (1 : Int) ≤ r_565.toInt ∧ r_565.toInt ≤ 1 := r_ne1 b_r_565 (by decide : (0 : Int) ≤ (0 : Int32).toInt ∧ (0 : Int32).toInt ≤ 0) n_c_566 (by decide)
            obtain ⟨b_wd2, g_568⟩ := nz_r_565 c_566
            refine lv_aload hx hb dX9_paste_43 (lv_at hl 0 rfl) ?_
            refine vp_callSi (W.runV (As := []) (rest := []) ⟨hx, hb, hml, hown, hts⟩ (kX3_stands2 l dC dI s3 wd3 rz3 n3 b_wd3 b_rz3) (cwV 0 hts gX9_pasteF__X3_stands2_V270 rfl rfl rfl hd_yX3_stands ⟨lel 1 2 rfl, lel 20 88 rfl⟩) ⟨pw_fb, rcv_X3 hK hP (q0 := 5) rfl, (pw_use hP hK hN [5] rfl [] rfl)⟩ rfl rfl hl.1 rfl (lv_room (Nat.le_of_ble_eq_true rfl)) dX9_paste_45 ⟨lel 0 0 rfl, lel 0 0 rfl⟩) (fun r_569 h_r_569 => ?_)
            obtain ⟨b_r_569, nz_r_569, zz_r_569⟩ := h_r_569
            have b_r_569 : (0 : Int) ≤ r_569.toInt ∧ r_569.toInt ≤ 1 := b_r_569
            refine lv_if_ne (tgt := 54) hx hb dX9_paste_48 (by decide) (fun c_570 => ?_) (fun c_570 => ?_)
            ·
              have n_c_570 : (r_569.toInt : Int) ≠ 0 := c_ne rfl (by decide) c_570
              have b_r_569 : (1 : Int) ≤ r_569.toInt ∧ r_569.toInt ≤ 1 := r_ne1 b_r_569 (by decide : (0 : Int) ≤ (0 : Int32).toInt ∧ (0 : Int32).toInt ≤ 0) n_c_570 (by decide)
              obtain ⟨b_wd3, g_571⟩ := nz_r_569 c_570
              refine lv_aload hx hb dX9_paste_54 (lv_at hl 1 rfl) ?_
              refine va_getN (own := RX9) (index := 350) (ref := RX3) (host := RX9) (D := (dC, dI)) (ci := 2) (v := .int wd2) (C := RX3) (T := TX3) (N := 3) hx hb hts iX9_pasteF_X3 hown hK hP 4 rfl rfl 0 (by decide) (va_Nw.use rfl (hN _ (List.mem_of_getElem? (i := 21) rfl))) (fun _ h9 => h9) rfl dX9_paste_56 ?_
              refine lv_aload hx hb dX9_paste_59 (lv_at hl 0 rfl) ?_
              refine va_getN (own := RX9) (index := 350) (ref := RX3) (host := RX9) (D := (dC, dI)) (ci := 2) (v := .int wd3) (C := RX3) (T := TX3) (N := 3) hx hb hts iX9_pasteF_X3 hown hK hP 5 rfl rfl 0 (by decide) (va_Nw.use rfl (hN _ (List.mem_of_getElem? (i := 21) rfl))) (fun _ h9 => h9) rfl dX9_paste_61 ?_
              refine lv_icmp_eq (tgt := 70) hx hb dX9_paste_64 (by decide) (fun c_572 => ?_) (fun c_572 => ?_)
              ·
                have n_c_572 : (wd2.toInt : Int) = wd3.toInt := c_eq rfl rfl c_572
                refine lv_aload hx hb dX9_paste_70 (lv_at hl 1 rfl) ?_
                refine lv_iload_n hx hb dX9_paste_72 rfl (lv_at hl 4 rfl) ?_
                refine lv_iload hx hb dX9_paste_73 (lv_at hl 7 rfl) ?_
                refine vp_callSi (W.runV (As := [.int a2, .int a5]) (rest := []) ⟨hx, hb, hml, hown, hts⟩ (kX3_hasStretch2 l dC dI s2 wd2 rz2 n2 a2 a5 (rg_w b_wd2 (by decide) (by decide)) b_rz2) (cwV 2 hts gX9_pasteF__X3_hasStretch2_V343 rfl rfl rfl hd_yX3_hasStretch ⟨lel 1 2 rfl, lel 22 88 rfl⟩) ⟨pw_fb, rcv_X3 hK hP (q0 := 4) rfl, (pw_use hP hK hN [4] rfl [] rfl)⟩ rfl rfl hl.1 rfl (lv_room (Nat.le_of_ble_eq_true rfl)) dX9_paste_75 ⟨lel 0 0 rfl, lel 0 0 rfl⟩) (fun r_573 h_r_573 => ?_)
                obtain ⟨b_r_573, nz_r_573, zz_r_573⟩ := h_r_573
                have b_r_573 : (0 : Int) ≤ r_573.toInt ∧ r_573.toInt ≤ 1 := b_r_573
                refine lv_if_eq (tgt := 93) hx hb dX9_paste_78 (by decide) (fun c_574 => ?_) (fun c_574 => ?_)
                ·
                  have n_c_574 : (r_573.toInt : Int) = 0 := c_eq rfl (by decide) c_574
                  have b_r_573 : (0 : Int) ≤ r_573.toInt ∧ r_573.toInt ≤ 0 := r_eq1 b_r_573 (by decide : (0 : Int) ≤ (0 : Int32).toInt ∧ (0 : Int32).toInt ≤ 0) n_c_574 (by decide)
                  have g_575 := zz_r_573 c_574
                  refine lv_bipush (v := (-7)) hx hb dX9_paste_93 (by decide) ?_
                  have hP9 := hP.sub (ws' := [(h0, .inr (7, [.ref tp, .ref sc, .ref rd, .ref cu, .ref im, .ref ig, .ref sl, .ref se, .ref sm, .ref fc])), (sl, .inl (cS, 4, .inr (.inr (.inr (.inr (sf4 s0 s1 s2 s3)))))), (s0, .inr (2, [.int wd0, .int rz0, .ref n0])), (s1, .inr (2, [.int wd1, .int rz1, .ref n1])), (s2, .inr (2, [.int wd2, .int rz2, .ref n2])), (s3, .inr (2, [.int wd3, .int rz3, .ref n3])), (n0, .inl (cJ0, 60, .inr (.inl g0))), (n1, .inl (cJ1, 60, .inr (.inl g1))), (n2, .inl (cJ2, 60, .inr (.inl g2))), (n3, .inl (cJ3, 60, .inr (.inl g3)))]) [0, 1, 2, 3, 4, 5, 6, 7, 8, 9] rfl
                  have hD9 := hD.sub (ws' := [(h0, .inr (7, [.ref tp, .ref sc, .ref rd, .ref cu, .ref im, .ref ig, .ref sl, .ref se, .ref sm, .ref fc])), (sl, .inl (cS, 4, .inr (.inr (.inr (.inr (sf4 s0 s1 s2 s3)))))), (s0, .inr (2, [.int wd0, .int rz0, .ref n0])), (s1, .inr (2, [.int wd1, .int rz1, .ref n1])), (s2, .inr (2, [.int wd2, .int rz2, .ref n2])), (s3, .inr (2, [.int wd3, .int rz3, .ref n3])), (n0, .inl (cJ0, 60, .inr (.inl g0))), (n1, .inl (cJ1, 60, .inr (.inl g1))), (n2, .inl (cJ2, 60, .inr (.inl g2))), (n3, .inl (cJ3, 60, .inr (.inl g3)))]) [0, 1, 2, 3, 4, 5, 6, 7, 8, 9] (by decide) rfl
                  have hK9 := hK.sub (tys' := [(cS, .object RX3), (cJ0, .long), (cJ1, .long), (cJ2, .long), (cJ3, .long)]) [0, 1, 2, 3, 4] rfl
                  exact W.iret (v := (-7)) hx hb hr (fun t ht hW => ⟨⟨(-7), (), rfl, ⟨(rg_w (by decide : (-7 : Int) ≤ ((-7) : Int32).toInt ∧ ((-7) : Int32).toInt ≤ -7) (by decide) (by decide)), (ps_7 (j := 2) (t := 3) (by decide) (by decide) (by decide) (by have q2 := hg9_2; unfold RG at q2; have q3 := hg9_3; unfold RG at q3; omega) (by have q2 := hg9_2; unfold RG at q2; have q3 := hg9_3; unfold RG at q3; omega) (by have q2 := hg9_2; unfold RG at q2; have q3 := hg9_3; unfold RG at q3; omega))⟩, g0, g1, g2, g3, by rw [ht]; exact hP9, va_K.moved hW.alike hK9, hD9⟩, hS.F ht⟩) hS.2.2 dX9_paste_95
                ·
                  have n_c_574 : (r_573.toInt : Int) ≠ 0 := c_ne rfl (by decide) c_574
                  have b_r_573 : (1 : Int) ≤ r_573.toInt ∧ r_573.toInt ≤ 1 := r_ne1 b_r_573 (by decide : (0 : Int) ≤ (0 : Int32).toInt ∧ (0 : Int32).toInt ≤ 0) n_c_574 (by decide)
                  obtain ⟨b_a2, b_a5, g_576⟩ := nz_r_573 c_574
                  refine lv_aload hx hb dX9_paste_81 (lv_at hl 0 rfl) ?_
                  refine lv_iload hx hb dX9_paste_83 (lv_at hl 6 rfl) ?_
                  refine lv_iload hx hb dX9_paste_85 (lv_at hl 7 rfl) ?_
                  refine vp_callSi (W.runV (As := [.int a4, .int a5]) (rest := []) ⟨hx, hb, hml, hown, hts⟩ (kX3_hasStretch2 l dC dI s3 wd3 rz3 n3 a4 a5 (rg_w b_wd3 (by decide) (by decide)) b_rz3) (cwV 2 hts gX9_pasteF__X3_hasStretch2_V343 rfl rfl rfl hd_yX3_hasStretch ⟨lel 1 2 rfl, lel 22 88 rfl⟩) ⟨pw_fb, rcv_X3 hK hP (q0 := 5) rfl, (pw_use hP hK hN [5] rfl [] rfl)⟩ rfl rfl hl.1 rfl (lv_room (Nat.le_of_ble_eq_true rfl)) dX9_paste_87 ⟨lel 0 0 rfl, lel 0 0 rfl⟩) (fun r_577 h_r_577 => ?_)
                  obtain ⟨b_r_577, nz_r_577, zz_r_577⟩ := h_r_577
                  have b_r_577 : (0 : Int) ≤ r_577.toInt ∧ r_577.toInt ≤ 1 := b_r_577
                  refine lv_if_ne (tgt := 96) hx hb dX9_paste_90 (by decide) (fun c_578 => ?_) (fun c_578 => ?_)
                  ·
                    have n_c_578 : (r_577.toInt : Int) ≠ 0 := c_ne rfl (by decide) c_578
                    have b_r_577 : (1 : Int) ≤ r_577.toInt ∧ r_577.toInt ≤ 1 := r_ne1 b_r_577 (by decide : (0 : Int) ≤ (0 : Int32).toInt ∧ (0 : Int32).toInt ≤ 0) n_c_578 (by decide)
                    obtain ⟨b_a4, b_a5, g_579⟩ := nz_r_577 c_578
                    refine lv_aload hx hb dX9_paste_96 (lv_at hl 0 rfl) ?_
                    refine lv_iload hx hb dX9_paste_98 (lv_at hl 6 rfl) ?_
                    refine lv_aload hx hb dX9_paste_100 (lv_at hl 1 rfl) ?_
                    refine lv_iload_n hx hb dX9_paste_102 rfl (lv_at hl 4 rfl) ?_
                    refine lv_iload hx hb dX9_paste_103 (lv_at hl 7 rfl) ?_
                    have hFc := va_free (wc := [(s3, .inr (2, [.int wd3, .int rz3, .ref n3])), (n3, .inl (cJ3, 60, .inr (.inl g3))), (s2, .inr (2, [.int wd2, .int rz2, .ref n2])), (n2, .inl (cJ2, 60, .inr (.inl g2)))]) hD hS hA [5, 9, 4, 8] rfl
                    refine va_callv (va_runV (As := [.int a4, .ref s2, .int a2, .int a5]) (rest := []) ⟨hx, hb, hml, hown, hts⟩ (kX3_take l dC dI s3 wd3 rz3 n3 cJ3 g3 s2 wd2 rz2 n2 cJ2 g2 a4 a2 a5 (s.heap.size) (rg_w b_wd3 (by decide) (by decide)) b_rz3 (rg_w b_wd2 (by decide) (by decide)) b_rz2) (cwV 4 hts gX9_pasteF__X3_take_V353 rfl rfl rfl hd_yX3_take ⟨lel 2 2 rfl, lel 88 88 rfl⟩) ⟨hw_fb, rcv_X3 hK hP (q0 := 5) rfl, (hw_use hP hD hK hN [5, 9, 4, 8] rfl (by decide) rfl [4, 3] rfl)⟩ rfl rfl hl.1 rfl (lv_room (Nat.le_of_ble_eq_true rfl)) dX9_paste_105 ⟨lel 0 0 rfl, lel 0 0 rfl⟩) hS (fun q _ h => hFc q h) hFc (fun u_581 t H1 locs ht hvm hw_r_580 hB hz1 hk1 hS => ?_)
                    obtain ⟨o0_582, hP1, hK1, hD1⟩ := hB
                    rw [ht] at hP1
                    have hK1 := va_K.moved hvm.symm hK1
                    obtain ⟨hP, hD⟩ := va_join (wr := [(h0, .inr (7, [.ref tp, .ref sc, .ref rd, .ref cu, .ref im, .ref ig, .ref sl, .ref se, .ref sm, .ref fc])), (sl, .inl (cS, 4, .inr (.inr (.inr (.inr (sf4 s0 s1 s2 s3)))))), (s0, .inr (2, [.int wd0, .int rz0, .ref n0])), (s1, .inr (2, [.int wd1, .int rz1, .ref n1])), (n0, .inl (cJ0, 60, .inr (.inl g0))), (n1, .inl (cJ1, 60, .inr (.inl g1)))]) (w1 := [(s3, .inr (2, [.int wd3, .int rz3, .ref n3])), (n3, .inl (cJ3, 60, .inr (.inl o0_582))), (s2, .inr (2, [.int wd2, .int rz2, .ref n2])), (n2, .inl (cJ2, 60, .inr (.inl g2)))]) hP hD [5, 9, 4, 8] [0, 1, 2, 3, 6, 7] rfl rfl (by decide) (by decide) hk1 hFc hP1 hD1
                    have hK := (hK.sub (tys' := [(cS, .object RX3), (cJ0, .long), (cJ1, .long)]) [0, 1, 2] rfl).app hK1
                    generalize H1 = H at hP hS ⊢
                    have hP := hP.sub (ws' := [(h0, .inr (7, [.ref tp, .ref sc, .ref rd, .ref cu, .ref im, .ref ig, .ref sl, .ref se, .ref sm, .ref fc])), (sl, .inl (cS, 4, .inr (.inr (.inr (.inr (sf4 s0 s1 s2 s3)))))), (s0, .inr (2, [.int wd0, .int rz0, .ref n0])), (s1, .inr (2, [.int wd1, .int rz1, .ref n1])), (s2, .inr (2, [.int wd2, .int rz2, .ref n2])), (s3, .inr (2, [.int wd3, .int rz3, .ref n3])), (n0, .inl (cJ0, 60, .inr (.inl g0))), (n1, .inl (cJ1, 60, .inr (.inl g1))), (n2, .inl (cJ2, 60, .inr (.inl g2))), (n3, .inl (cJ3, 60, .inr (.inl o0_582)))]) [0, 1, 2, 3, 8, 6, 4, 5, 9, 7] rfl
                    have hD := hD.sub (ws' := [(h0, .inr (7, [.ref tp, .ref sc, .ref rd, .ref cu, .ref im, .ref ig, .ref sl, .ref se, .ref sm, .ref fc])), (sl, .inl (cS, 4, .inr (.inr (.inr (.inr (sf4 s0 s1 s2 s3)))))), (s0, .inr (2, [.int wd0, .int rz0, .ref n0])), (s1, .inr (2, [.int wd1, .int rz1, .ref n1])), (s2, .inr (2, [.int wd2, .int rz2, .ref n2])), (s3, .inr (2, [.int wd3, .int rz3, .ref n3])), (n0, .inl (cJ0, 60, .inr (.inl g0))), (n1, .inl (cJ1, 60, .inr (.inl g1))), (n2, .inl (cJ2, 60, .inr (.inl g2))), (n3, .inl (cJ3, 60, .inr (.inl o0_582)))]) [0, 1, 2, 3, 8, 6, 4, 5, 9, 7] (by decide) rfl
                    have hK := hK.sub (tys' := [(cS, .object RX3), (cJ0, .long), (cJ1, .long), (cJ2, .long), (cJ3, .long)]) [0, 1, 2, 4, 3] rfl
                    have hP : va_P (dC, dI) vwCl [(h0, .inr (7, [.ref tp, .ref sc, .ref rd, .ref cu, .ref im, .ref ig, .ref sl, .ref se, .ref sm, .ref fc])), (sl, .inl (cS, 4, .inr (.inr (.inr (.inr (sf4 s0 s1 s2 s3)))))), (s0, .inr (2, [.int wd0, .int rz0, .ref n0])), (s1, .inr (2, [.int wd1, .int rz1, .ref n1])), (s2, .inr (2, [.int wd2, .int rz2, .ref n2])), (s3, .inr (2, [.int wd3, .int rz3, .ref n3])), (n0, .inl (cJ0, 60, .inr (.inl g0))), (n1, .inl (cJ1, 60, .inr (.inl g1))), (n2, .inl (cJ2, 60, .inr (.inl g2))), (n3, .inl (cJ3, 60, .inr (.inl o0_582)))] H := hP
                    have hD : va_D A [(h0, .inr (7, [.ref tp, .ref sc, .ref rd, .ref cu, .ref im, .ref ig, .ref sl, .ref se, .ref sm, .ref fc])), (sl, .inl (cS, 4, .inr (.inr (.inr (.inr (sf4 s0 s1 s2 s3)))))), (s0, .inr (2, [.int wd0, .int rz0, .ref n0])), (s1, .inr (2, [.int wd1, .int rz1, .ref n1])), (s2, .inr (2, [.int wd2, .int rz2, .ref n2])), (s3, .inr (2, [.int wd3, .int rz3, .ref n3])), (n0, .inl (cJ0, 60, .inr (.inl g0))), (n1, .inl (cJ1, 60, .inr (.inl g1))), (n2, .inl (cJ2, 60, .inr (.inl g2))), (n3, .inl (cJ3, 60, .inr (.inl o0_582)))] := hD
                    have hK : va_K (dC, dI) vwCl [(cS, .object RX3), (cJ0, .long), (cJ1, .long), (cJ2, .long), (cJ3, .long)] s := hK
                    refine lv_iconst (v := 0) hx hb dX9_paste_108 (by decide) ?_
                    have hP9 := hP.sub (ws' := [(h0, .inr (7, [.ref tp, .ref sc, .ref rd, .ref cu, .ref im, .ref ig, .ref sl, .ref se, .ref sm, .ref fc])), (sl, .inl (cS, 4, .inr (.inr (.inr (.inr (sf4 s0 s1 s2 s3)))))), (s0, .inr (2, [.int wd0, .int rz0, .ref n0])), (s1, .inr (2, [.int wd1, .int rz1, .ref n1])), (s2, .inr (2, [.int wd2, .int rz2, .ref n2])), (s3, .inr (2, [.int wd3, .int rz3, .ref n3])), (n0, .inl (cJ0, 60, .inr (.inl g0))), (n1, .inl (cJ1, 60, .inr (.inl g1))), (n2, .inl (cJ2, 60, .inr (.inl g2))), (n3, .inl (cJ3, 60, .inr (.inl o0_582)))]) [0, 1, 2, 3, 4, 5, 6, 7, 8, 9] rfl
                    have hD9 := hD.sub (ws' := [(h0, .inr (7, [.ref tp, .ref sc, .ref rd, .ref cu, .ref im, .ref ig, .ref sl, .ref se, .ref sm, .ref fc])), (sl, .inl (cS, 4, .inr (.inr (.inr (.inr (sf4 s0 s1 s2 s3)))))), (s0, .inr (2, [.int wd0, .int rz0, .ref n0])), (s1, .inr (2, [.int wd1, .int rz1, .ref n1])), (s2, .inr (2, [.int wd2, .int rz2, .ref n2])), (s3, .inr (2, [.int wd3, .int rz3, .ref n3])), (n0, .inl (cJ0, 60, .inr (.inl g0))), (n1, .inl (cJ1, 60, .inr (.inl g1))), (n2, .inl (cJ2, 60, .inr (.inl g2))), (n3, .inl (cJ3, 60, .inr (.inl o0_582)))]) [0, 1, 2, 3, 4, 5, 6, 7, 8, 9] (by decide) rfl
                    have hK9 := hK.sub (tys' := [(cS, .object RX3), (cJ0, .long), (cJ1, .long), (cJ2, .long), (cJ3, .long)]) [0, 1, 2, 3, 4] rfl
                    exact W.iret (v := 0) hx hb hr (fun t ht hW => ⟨⟨0, (), rfl, ⟨(rg_w (by decide : (0 : Int) ≤ (0 : Int32).toInt ∧ (0 : Int32).toInt ≤ 0) (by decide) (by decide)), (ps_0 (j := 2) (t := 3) (by decide) (by decide) (by decide) (by have q2 := hg9_2; unfold RG at q2; have q3 := hg9_3; unfold RG at q3; omega) (by have q2 := hg9_2; unfold RG at q2; have q3 := hg9_3; unfold RG at q3; omega) (by have q2 := hg9_2; unfold RG at q2; have q3 := hg9_3; unfold RG at q3; omega))⟩, g0, g1, g2, o0_582, by rw [ht]; exact hP9, va_K.moved hW.alike hK9, hD9⟩, hS.F ht⟩) hS.2.2 dX9_paste_109
                  ·
                    have n_c_578 : (r_577.toInt : Int) = 0 := c_eq rfl (by decide) c_578
                    have b_r_577 : (0 : Int) ≤ r_577.toInt ∧ r_577.toInt ≤ 0 := r_eq1 b_r_577 (by decide : (0 : Int) ≤ (0 : Int32).toInt ∧ (0 : Int32).toInt ≤ 0) n_c_578 (by decide)
                    have g_583 := zz_r_577 c_578
                    refine lv_bipush (v := (-7)) hx hb dX9_paste_93 (by decide) ?_
                    have hP9 := hP.sub (ws' := [(h0, .inr (7, [.ref tp, .ref sc, .ref rd, .ref cu, .ref im, .ref ig, .ref sl, .ref se, .ref sm, .ref fc])), (sl, .inl (cS, 4, .inr (.inr (.inr (.inr (sf4 s0 s1 s2 s3)))))), (s0, .inr (2, [.int wd0, .int rz0, .ref n0])), (s1, .inr (2, [.int wd1, .int rz1, .ref n1])), (s2, .inr (2, [.int wd2, .int rz2, .ref n2])), (s3, .inr (2, [.int wd3, .int rz3, .ref n3])), (n0, .inl (cJ0, 60, .inr (.inl g0))), (n1, .inl (cJ1, 60, .inr (.inl g1))), (n2, .inl (cJ2, 60, .inr (.inl g2))), (n3, .inl (cJ3, 60, .inr (.inl g3)))]) [0, 1, 2, 3, 4, 5, 6, 7, 8, 9] rfl
                    have hD9 := hD.sub (ws' := [(h0, .inr (7, [.ref tp, .ref sc, .ref rd, .ref cu, .ref im, .ref ig, .ref sl, .ref se, .ref sm, .ref fc])), (sl, .inl (cS, 4, .inr (.inr (.inr (.inr (sf4 s0 s1 s2 s3)))))), (s0, .inr (2, [.int wd0, .int rz0, .ref n0])), (s1, .inr (2, [.int wd1, .int rz1, .ref n1])), (s2, .inr (2, [.int wd2, .int rz2, .ref n2])), (s3, .inr (2, [.int wd3, .int rz3, .ref n3])), (n0, .inl (cJ0, 60, .inr (.inl g0))), (n1, .inl (cJ1, 60, .inr (.inl g1))), (n2, .inl (cJ2, 60, .inr (.inl g2))), (n3, .inl (cJ3, 60, .inr (.inl g3)))]) [0, 1, 2, 3, 4, 5, 6, 7, 8, 9] (by decide) rfl
                    have hK9 := hK.sub (tys' := [(cS, .object RX3), (cJ0, .long), (cJ1, .long), (cJ2, .long), (cJ3, .long)]) [0, 1, 2, 3, 4] rfl
                    exact W.iret (v := (-7)) hx hb hr (fun t ht hW => ⟨⟨(-7), (), rfl, ⟨(rg_w (by decide : (-7 : Int) ≤ ((-7) : Int32).toInt ∧ ((-7) : Int32).toInt ≤ -7) (by decide) (by decide)), (ps_7 (j := 2) (t := 3) (by decide) (by decide) (by decide) (by have q2 := hg9_2; unfold RG at q2; have q3 := hg9_3; unfold RG at q3; omega) (by have q2 := hg9_2; unfold RG at q2; have q3 := hg9_3; unfold RG at q3; omega) (by have q2 := hg9_2; unfold RG at q2; have q3 := hg9_3; unfold RG at q3; omega))⟩, g0, g1, g2, g3, by rw [ht]; exact hP9, va_K.moved hW.alike hK9, hD9⟩, hS.F ht⟩) hS.2.2 dX9_paste_95
              ·
                have n_c_572 : (wd2.toInt : Int) ≠ wd3.toInt := c_ne rfl rfl c_572
                refine lv_bipush (v := (-8)) hx hb dX9_paste_67 (by decide) ?_
                have hP9 := hP.sub (ws' := [(h0, .inr (7, [.ref tp, .ref sc, .ref rd, .ref cu, .ref im, .ref ig, .ref sl, .ref se, .ref sm, .ref fc])), (sl, .inl (cS, 4, .inr (.inr (.inr (.inr (sf4 s0 s1 s2 s3)))))), (s0, .inr (2, [.int wd0, .int rz0, .ref n0])), (s1, .inr (2, [.int wd1, .int rz1, .ref n1])), (s2, .inr (2, [.int wd2, .int rz2, .ref n2])), (s3, .inr (2, [.int wd3, .int rz3, .ref n3])), (n0, .inl (cJ0, 60, .inr (.inl g0))), (n1, .inl (cJ1, 60, .inr (.inl g1))), (n2, .inl (cJ2, 60, .inr (.inl g2))), (n3, .inl (cJ3, 60, .inr (.inl g3)))]) [0, 1, 2, 3, 4, 5, 6, 7, 8, 9] rfl
                have hD9 := hD.sub (ws' := [(h0, .inr (7, [.ref tp, .ref sc, .ref rd, .ref cu, .ref im, .ref ig, .ref sl, .ref se, .ref sm, .ref fc])), (sl, .inl (cS, 4, .inr (.inr (.inr (.inr (sf4 s0 s1 s2 s3)))))), (s0, .inr (2, [.int wd0, .int rz0, .ref n0])), (s1, .inr (2, [.int wd1, .int rz1, .ref n1])), (s2, .inr (2, [.int wd2, .int rz2, .ref n2])), (s3, .inr (2, [.int wd3, .int rz3, .ref n3])), (n0, .inl (cJ0, 60, .inr (.inl g0))), (n1, .inl (cJ1, 60, .inr (.inl g1))), (n2, .inl (cJ2, 60, .inr (.inl g2))), (n3, .inl (cJ3, 60, .inr (.inl g3)))]) [0, 1, 2, 3, 4, 5, 6, 7, 8, 9] (by decide) rfl
                have hK9 := hK.sub (tys' := [(cS, .object RX3), (cJ0, .long), (cJ1, .long), (cJ2, .long), (cJ3, .long)]) [0, 1, 2, 3, 4] rfl
                exact W.iret (v := (-8)) hx hb hr (fun t ht hW => ⟨⟨(-8), (), rfl, ⟨(rg_w (by decide : (-8 : Int) ≤ ((-8) : Int32).toInt ∧ ((-8) : Int32).toInt ≤ -8) (by decide) (by decide)), (ps_8 (j := 2) (t := 3) (by decide) (by decide) (by decide) (by have q2 := hg9_2; unfold RG at q2; have q3 := hg9_3; unfold RG at q3; omega) (by have q2 := hg9_2; unfold RG at q2; have q3 := hg9_3; unfold RG at q3; omega))⟩, g0, g1, g2, g3, by rw [ht]; exact hP9, va_K.moved hW.alike hK9, hD9⟩, hS.F ht⟩) hS.2.2 dX9_paste_69
            ·
              have n_c_570 : (r_569.toInt : Int) = 0 := c_eq rfl (by decide) c_570
              have b_r_569 : (0 : Int) ≤ r_569.toInt ∧ r_569.toInt ≤ 0 := r_eq1 b_r_569 (by decide : (0 : Int) ≤ (0 : Int32).toInt ∧ (0 : Int32).toInt ≤ 0) n_c_570 (by decide)
              have g_584 := zz_r_569 c_570
              refine lv_bipush (v := (-6)) hx hb dX9_paste_51 (by decide) ?_
              have hP9 := hP.sub (ws' := [(h0, .inr (7, [.ref tp, .ref sc, .ref rd, .ref cu, .ref im, .ref ig, .ref sl, .ref se, .ref sm, .ref fc])), (sl, .inl (cS, 4, .inr (.inr (.inr (.inr (sf4 s0 s1 s2 s3)))))), (s0, .inr (2, [.int wd0, .int rz0, .ref n0])), (s1, .inr (2, [.int wd1, .int rz1, .ref n1])), (s2, .inr (2, [.int wd2, .int rz2, .ref n2])), (s3, .inr (2, [.int wd3, .int rz3, .ref n3])), (n0, .inl (cJ0, 60, .inr (.inl g0))), (n1, .inl (cJ1, 60, .inr (.inl g1))), (n2, .inl (cJ2, 60, .inr (.inl g2))), (n3, .inl (cJ3, 60, .inr (.inl g3)))]) [0, 1, 2, 3, 4, 5, 6, 7, 8, 9] rfl
              have hD9 := hD.sub (ws' := [(h0, .inr (7, [.ref tp, .ref sc, .ref rd, .ref cu, .ref im, .ref ig, .ref sl, .ref se, .ref sm, .ref fc])), (sl, .inl (cS, 4, .inr (.inr (.inr (.inr (sf4 s0 s1 s2 s3)))))), (s0, .inr (2, [.int wd0, .int rz0, .ref n0])), (s1, .inr (2, [.int wd1, .int rz1, .ref n1])), (s2, .inr (2, [.int wd2, .int rz2, .ref n2])), (s3, .inr (2, [.int wd3, .int rz3, .ref n3])), (n0, .inl (cJ0, 60, .inr (.inl g0))), (n1, .inl (cJ1, 60, .inr (.inl g1))), (n2, .inl (cJ2, 60, .inr (.inl g2))), (n3, .inl (cJ3, 60, .inr (.inl g3)))]) [0, 1, 2, 3, 4, 5, 6, 7, 8, 9] (by decide) rfl
              have hK9 := hK.sub (tys' := [(cS, .object RX3), (cJ0, .long), (cJ1, .long), (cJ2, .long), (cJ3, .long)]) [0, 1, 2, 3, 4] rfl
              exact W.iret (v := (-6)) hx hb hr (fun t ht hW => ⟨⟨(-6), (), rfl, ⟨(rg_w (by decide : (-6 : Int) ≤ ((-6) : Int32).toInt ∧ ((-6) : Int32).toInt ≤ -6) (by decide) (by decide)), (ps_6 (j := 2) (t := 3) (by decide) (by decide) (by decide) (by have q2 := hg9_2; unfold RG at q2; have q3 := hg9_3; unfold RG at q3; omega))⟩, g0, g1, g2, g3, by rw [ht]; exact hP9, va_K.moved hW.alike hK9, hD9⟩, hS.F ht⟩) hS.2.2 dX9_paste_53
      ·
        obtain rfl : a1 = 3 := Int32.toInt_inj.mp (h_341.trans (by decide))
        refine va_aldq hx hb hK hP 1 0 rfl rfl (vp_in_b (by decide : (3 : Int) ≤ (3 : Int32).toInt ∧ (3 : Int32).toInt ≤ 3) (by decide) (by decide)) dX9_paste_24 ?_
        refine W.eq (g2 := F0 m 25 ls (.ref s3 :: [])) (congrArg (fun v => F0 m 25 ls (va_rf v :: [])) (sf4_3 s0 s1 s2 s3)) ?_
        refine lv_astore (lv' := [(6, .ref s3), (0, .ref h0), (1, .int 3), (2, .int a2), (3, .int a3), (4, .int a4), (5, .int a5)]) hx hb dX9_paste_25 hl (by decide) rfl (fun ls hl => ?_)
        refine lv_aload_n hx hb dX9_paste_27 rfl (lv_at hl 1 rfl) ?_
        refine va_get (D := (dC, dI)) (ci := 7) (v := .ref sl) (C := RX9) (T := TX9) (N := 10) hx hb hts iX9_pasteF_X9 hown hK hP 0 rfl rfl 6 (by decide) (hts (.fieldLink RX9 50 "LuckyTicket" "slots" "[LLuckyTicket$Row;") (List.mem_of_getElem? (i := 5) rfl)) (fun _ h9 => h9) rfl dX9_paste_28 ?_
        refine lv_iload_n hx hb dX9_paste_31 rfl (lv_at hl 4 rfl) ?_
        rcases (show a3.toInt = 0 ∨ a3.toInt = 1 ∨ a3.toInt = 2 ∨ a3.toInt = 3 by omega) with h_585 | h_585 | h_585 | h_585
        ·
          obtain rfl : a3 = 0 := Int32.toInt_inj.mp (h_585.trans (by decide))
          refine va_aldq hx hb hK hP 1 0 rfl rfl (vp_in_b (by decide : (0 : Int) ≤ (0 : Int32).toInt ∧ (0 : Int32).toInt ≤ 0) (by decide) (by decide)) dX9_paste_32 ?_
          refine W.eq (g2 := F0 m 33 ls (.ref s0 :: [])) (congrArg (fun v => F0 m 33 ls (va_rf v :: [])) (sf4_0 s0 s1 s2 s3)) ?_
          refine lv_astore (lv' := [(7, .ref s0), (6, .ref s3), (0, .ref h0), (1, .int 3), (2, .int a2), (3, .int 0), (4, .int a4), (5, .int a5)]) hx hb dX9_paste_33 hl (by decide) rfl (fun ls hl => ?_)
          refine lv_aload hx hb dX9_paste_35 (lv_at hl 1 rfl) ?_
          refine vp_callSi (W.runV (As := []) (rest := []) ⟨hx, hb, hml, hown, hts⟩ (kX3_stands2 l dC dI s3 wd3 rz3 n3 b_wd3 b_rz3) (cwV 0 hts gX9_pasteF__X3_stands2_V270 rfl rfl rfl hd_yX3_stands ⟨lel 1 2 rfl, lel 20 88 rfl⟩) ⟨pw_fb, rcv_X3 hK hP (q0 := 5) rfl, (pw_use hP hK hN [5] rfl [] rfl)⟩ rfl rfl hl.1 rfl (lv_room (Nat.le_of_ble_eq_true rfl)) dX9_paste_37 ⟨lel 0 0 rfl, lel 0 0 rfl⟩) (fun r_586 h_r_586 => ?_)
          obtain ⟨b_r_586, nz_r_586, zz_r_586⟩ := h_r_586
          have b_r_586 : (0 : Int) ≤ r_586.toInt ∧ r_586.toInt ≤ 1 := b_r_586
          refine lv_if_eq (tgt := 51) hx hb dX9_paste_40 (by decide) (fun c_587 => ?_) (fun c_587 => ?_)
          ·
            have n_c_587 : (r_586.toInt : Int) = 0 := c_eq rfl (by decide) c_587
            have b_r_586 : (0 : Int) ≤ r_586.toInt ∧ r_586.toInt ≤ 0 := r_eq1 b_r_586 (by decide : (0 : Int) ≤ (0 : Int32).toInt ∧ (0 : Int32).toInt ≤ 0) n_c_587 (by decide)
            have g_588 := zz_r_586 c_587
            refine lv_bipush (v := (-6)) hx hb dX9_paste_51 (by decide) ?_
            have hP9 := hP.sub (ws' := [(h0, .inr (7, [.ref tp, .ref sc, .ref rd, .ref cu, .ref im, .ref ig, .ref sl, .ref se, .ref sm, .ref fc])), (sl, .inl (cS, 4, .inr (.inr (.inr (.inr (sf4 s0 s1 s2 s3)))))), (s0, .inr (2, [.int wd0, .int rz0, .ref n0])), (s1, .inr (2, [.int wd1, .int rz1, .ref n1])), (s2, .inr (2, [.int wd2, .int rz2, .ref n2])), (s3, .inr (2, [.int wd3, .int rz3, .ref n3])), (n0, .inl (cJ0, 60, .inr (.inl g0))), (n1, .inl (cJ1, 60, .inr (.inl g1))), (n2, .inl (cJ2, 60, .inr (.inl g2))), (n3, .inl (cJ3, 60, .inr (.inl g3)))]) [0, 1, 2, 3, 4, 5, 6, 7, 8, 9] rfl
            have hD9 := hD.sub (ws' := [(h0, .inr (7, [.ref tp, .ref sc, .ref rd, .ref cu, .ref im, .ref ig, .ref sl, .ref se, .ref sm, .ref fc])), (sl, .inl (cS, 4, .inr (.inr (.inr (.inr (sf4 s0 s1 s2 s3)))))), (s0, .inr (2, [.int wd0, .int rz0, .ref n0])), (s1, .inr (2, [.int wd1, .int rz1, .ref n1])), (s2, .inr (2, [.int wd2, .int rz2, .ref n2])), (s3, .inr (2, [.int wd3, .int rz3, .ref n3])), (n0, .inl (cJ0, 60, .inr (.inl g0))), (n1, .inl (cJ1, 60, .inr (.inl g1))), (n2, .inl (cJ2, 60, .inr (.inl g2))), (n3, .inl (cJ3, 60, .inr (.inl g3)))]) [0, 1, 2, 3, 4, 5, 6, 7, 8, 9] (by decide) rfl
            have hK9 := hK.sub (tys' := [(cS, .object RX3), (cJ0, .long), (cJ1, .long), (cJ2, .long), (cJ3, .long)]) [0, 1, 2, 3, 4] rfl
            exact W.iret (v := (-6)) hx hb hr (fun t ht hW => ⟨⟨(-6), (), rfl, ⟨(rg_w (by decide : (-6 : Int) ≤ ((-6) : Int32).toInt ∧ ((-6) : Int32).toInt ≤ -6) (by decide) (by decide)), (ps_6 (j := 3) (t := 0) (by decide) (by decide) (by decide) (by have q0 := hg9_0; unfold RG at q0; have q3 := hg9_3; unfold RG at q3; omega))⟩, g0, g1, g2, g3, by rw [ht]; exact hP9, va_K.moved hW.alike hK9, hD9⟩, hS.F ht⟩) hS.2.2 dX9_paste_53
          ·
            have n_c_587 : (r_586.toInt : Int) ≠ 0 := c_ne rfl (by decide) c_587
            have b_r_586 : (1 : Int) ≤ r_586.toInt ∧ r_586.toInt ≤ 1 := r_ne1 b_r_586 (by decide : (0 : Int) ≤ (0 : Int32).toInt ∧ (0 : Int32).toInt ≤ 0) n_c_587 (by decide)
            obtain ⟨b_wd3, g_589⟩ := nz_r_586 c_587
            refine lv_aload hx hb dX9_paste_43 (lv_at hl 0 rfl) ?_
            refine vp_callSi (W.runV (As := []) (rest := []) ⟨hx, hb, hml, hown, hts⟩ (kX3_stands2 l dC dI s0 wd0 rz0 n0 b_wd0 b_rz0) (cwV 0 hts gX9_pasteF__X3_stands2_V270 rfl rfl rfl hd_yX3_stands ⟨lel 1 2 rfl, lel 20 88 rfl⟩) ⟨pw_fb, rcv_X3 hK hP (q0 := 2) rfl, (pw_use hP hK hN [2] rfl [] rfl)⟩ rfl rfl hl.1 rfl (lv_room (Nat.le_of_ble_eq_true rfl)) dX9_paste_45 ⟨lel 0 0 rfl, lel 0 0 rfl⟩) (fun r_590 h_r_590 => ?_)
            obtain ⟨b_r_590, nz_r_590, zz_r_590⟩ := h_r_590
            have b_r_590 : (0 : Int) ≤ r_590.toInt ∧ r_590.toInt ≤ 1 := b_r_590
            refine lv_if_ne (tgt := 54) hx hb dX9_paste_48 (by decide) (fun c_591 => ?_) (fun c_591 => ?_)
            ·
              have n_c_591 : (r_590.toInt : Int) ≠ 0 := c_ne rfl (by decide) c_591
              have b_r_590 : (1 : Int) ≤ r_590.toInt ∧ r_590.toInt ≤ 1 := r_ne1 b_r_590 (by decide : (0 : Int) ≤ (0 : Int32).toInt ∧ (0 : Int32).toInt ≤ 0) n_c_591 (by decide)
              obtain ⟨b_wd0, g_592⟩ := nz_r_590 c_591
              refine lv_aload hx hb dX9_paste_54 (lv_at hl 1 rfl) ?_
              refine va_getN (own := RX9) (index := 350) (ref := RX3) (host := RX9) (D := (dC, dI)) (ci := 2) (v := .int wd3) (C := RX3) (T := TX3) (N := 3) hx hb hts iX9_pasteF_X3 hown hK hP 5 rfl rfl 0 (by decide) (va_Nw.use rfl (hN _ (List.mem_of_getElem? (i := 21) rfl))) (fun _ h9 => h9) rfl dX9_paste_56 ?_
              refine lv_aload hx hb dX9_paste_59 (lv_at hl 0 rfl) ?_
              refine va_getN (own := RX9) (index := 350) (ref := RX3) (host := RX9) (D := (dC, dI)) (ci := 2) (v := .int wd0) (C := RX3) (T := TX3) (N := 3) hx hb hts iX9_pasteF_X3 hown hK hP 2 rfl rfl 0 (by decide) (va_Nw.use rfl (hN _ (List.mem_of_getElem? (i := 21) rfl))) (fun _ h9 => h9) rfl dX9_paste_61 ?_
              refine lv_icmp_eq (tgt := 70) hx hb dX9_paste_64 (by decide) (fun c_593 => ?_) (fun c_593 => ?_)
              ·
                have n_c_593 : (wd3.toInt : Int) = wd0.toInt := c_eq rfl rfl c_593
                refine lv_aload hx hb dX9_paste_70 (lv_at hl 1 rfl) ?_
                refine lv_iload_n hx hb dX9_paste_72 rfl (lv_at hl 4 rfl) ?_
                refine lv_iload hx hb dX9_paste_73 (lv_at hl 7 rfl) ?_
                refine vp_callSi (W.runV (As := [.int a2, .int a5]) (rest := []) ⟨hx, hb, hml, hown, hts⟩ (kX3_hasStretch2 l dC dI s3 wd3 rz3 n3 a2 a5 (rg_w b_wd3 (by decide) (by decide)) b_rz3) (cwV 2 hts gX9_pasteF__X3_hasStretch2_V343 rfl rfl rfl hd_yX3_hasStretch ⟨lel 1 2 rfl, lel 22 88 rfl⟩) ⟨pw_fb, rcv_X3 hK hP (q0 := 5) rfl, (pw_use hP hK hN [5] rfl [] rfl)⟩ rfl rfl hl.1 rfl (lv_room (Nat.le_of_ble_eq_true rfl)) dX9_paste_75 ⟨lel 0 0 rfl, lel 0 0 rfl⟩) (fun r_594 h_r_594 => ?_)
                obtain ⟨b_r_594, nz_r_594, zz_r_594⟩ := h_r_594
                have b_r_594 : (0 : Int) ≤ r_594.toInt ∧ r_594.toInt ≤ 1 := b_r_594
                refine lv_if_eq (tgt := 93) hx hb dX9_paste_78 (by decide) (fun c_595 => ?_) (fun c_595 => ?_)
                ·
                  have n_c_595 : (r_594.toInt : Int) = 0 := c_eq rfl (by decide) c_595
                  have b_r_594 : (0 : Int) ≤ r_594.toInt ∧ r_594.toInt ≤ 0 := r_eq1 b_r_594 (by decide : (0 : Int) ≤ (0 : Int32).toInt ∧ (0 : Int32).toInt ≤ 0) n_c_595 (by decide)
                  have g_596 := zz_r_594 c_595
                  refine lv_bipush (v := (-7)) hx hb dX9_paste_93 (by decide) ?_
                  have hP9 := hP.sub (ws' := [(h0, .inr (7, [.ref tp, .ref sc, .ref rd, .ref cu, .ref im, .ref ig, .ref sl, .ref se, .ref sm, .ref fc])), (sl, .inl (cS, 4, .inr (.inr (.inr (.inr (sf4 s0 s1 s2 s3)))))), (s0, .inr (2, [.int wd0, .int rz0, .ref n0])), (s1, .inr (2, [.int wd1, .int rz1, .ref n1])), (s2, .inr (2, [.int wd2, .int rz2, .ref n2])), (s3, .inr (2, [.int wd3, .int rz3, .ref n3])), (n0, .inl (cJ0, 60, .inr (.inl g0))), (n1, .inl (cJ1, 60, .inr (.inl g1))), (n2, .inl (cJ2, 60, .inr (.inl g2))), (n3, .inl (cJ3, 60, .inr (.inl g3)))]) [0, 1, 2, 3, 4, 5, 6, 7, 8, 9] rfl
                  have hD9 := hD.sub (ws' := [(h0, .inr (7, [.ref tp, .ref sc, .ref rd, .ref cu, .ref im, .ref ig, .ref sl, .ref se, .ref sm, .ref fc])), (sl, .inl (cS, 4, .inr (.inr (.inr (.inr (sf4 s0 s1 s2 s3)))))), (s0, .inr (2, [.int wd0, .int rz0, .ref n0])), (s1, .inr (2, [.int wd1, .int rz1, .ref n1])), (s2, .inr (2, [.int wd2, .int rz2, .ref n2])), (s3, .inr (2, [.int wd3, .int rz3, .ref n3])), (n0, .inl (cJ0, 60, .inr (.inl g0))), (n1, .inl (cJ1, 60, .inr (.inl g1))), (n2, .inl (cJ2, 60, .inr (.inl g2))), (n3, .inl (cJ3, 60, .inr (.inl g3)))]) [0, 1, 2, 3, 4, 5, 6, 7, 8, 9] (by decide) rfl
                  have hK9 := hK.sub (tys' := [(cS, .object RX3), (cJ0, .long), (cJ1, .long), (cJ2, .long), (cJ3, .long)]) [0, 1, 2, 3, 4] rfl
                  exact W.iret (v := (-7)) hx hb hr (fun t ht hW => ⟨⟨(-7), (), rfl, ⟨(rg_w (by decide : (-7 : Int) ≤ ((-7) : Int32).toInt ∧ ((-7) : Int32).toInt ≤ -7) (by decide) (by decide)), (ps_7 (j := 3) (t := 0) (by decide) (by decide) (by decide) (by have q0 := hg9_0; unfold RG at q0; have q3 := hg9_3; unfold RG at q3; omega) (by have q0 := hg9_0; unfold RG at q0; have q3 := hg9_3; unfold RG at q3; omega) (by have q0 := hg9_0; unfold RG at q0; have q3 := hg9_3; unfold RG at q3; omega))⟩, g0, g1, g2, g3, by rw [ht]; exact hP9, va_K.moved hW.alike hK9, hD9⟩, hS.F ht⟩) hS.2.2 dX9_paste_95
                ·
                  have n_c_595 : (r_594.toInt : Int) ≠ 0 := c_ne rfl (by decide) c_595
                  have b_r_594 : (1 : Int) ≤ r_594.toInt ∧ r_594.toInt ≤ 1 := r_ne1 b_r_594 (by decide : (0 : Int) ≤ (0 : Int32).toInt ∧ (0 : Int32).toInt ≤ 0) n_c_595 (by decide)
                  obtain ⟨b_a2, b_a5, g_597⟩ := nz_r_594 c_595
                  refine lv_aload hx hb dX9_paste_81 (lv_at hl 0 rfl) ?_
                  refine lv_iload hx hb dX9_paste_83 (lv_at hl 6 rfl) ?_
                  refine lv_iload hx hb dX9_paste_85 (lv_at hl 7 rfl) ?_
                  refine vp_callSi (W.runV (As := [.int a4, .int a5]) (rest := []) ⟨hx, hb, hml, hown, hts⟩ (kX3_hasStretch2 l dC dI s0 wd0 rz0 n0 a4 a5 (rg_w b_wd0 (by decide) (by decide)) b_rz0) (cwV 2 hts gX9_pasteF__X3_hasStretch2_V343 rfl rfl rfl hd_yX3_hasStretch ⟨lel 1 2 rfl, lel 22 88 rfl⟩) ⟨pw_fb, rcv_X3 hK hP (q0 := 2) rfl, (pw_use hP hK hN [2] rfl [] rfl)⟩ rfl rfl hl.1 rfl (lv_room (Nat.le_of_ble_eq_true rfl)) dX9_paste_87 ⟨lel 0 0 rfl, lel 0 0 rfl⟩) (fun r_598 h_r_598 => ?_)
                  obtain ⟨b_r_598, nz_r_598, zz_r_598⟩ := h_r_598
                  have b_r_598 : (0 : Int) ≤ r_598.toInt ∧ r_598.toInt ≤ 1 := b_r_598
                  refine lv_if_ne (tgt := 96) hx hb dX9_paste_90 (by decide) (fun c_599 => ?_) (fun c_599 => ?_)
                  ·
                    have n_c_599 : (r_598.toInt : Int) ≠ 0 := c_ne rfl (by decide) c_599
                    have b_r_598 : (1 : Int) ≤ r_598.toInt ∧ r_598.toInt ≤ 1 := r_ne1 b_r_598 (by decide : (0 : Int) ≤ (0 : Int32).toInt ∧ (0 : Int32).toInt ≤ 0) n_c_599 (by decide)
                    obtain ⟨b_a4, b_a5, g_600⟩ := nz_r_598 c_599
                    refine lv_aload hx hb dX9_paste_96 (lv_at hl 0 rfl) ?_
                    refine lv_iload hx hb dX9_paste_98 (lv_at hl 6 rfl) ?_
                    refine lv_aload hx hb dX9_paste_100 (lv_at hl 1 rfl) ?_
                    refine lv_iload_n hx hb dX9_paste_102 rfl (lv_at hl 4 rfl) ?_
                    refine lv_iload hx hb dX9_paste_103 (lv_at hl 7 rfl) ?_
                    have hFc := va_free (wc := [(s0, .inr (2, [.int wd0, .int rz0, .ref n0])), (n0, .inl (cJ0, 60, .inr (.inl g0))), (s3, .inr (2, [.int wd3, .int rz3, .ref n3])), (n3, .inl (cJ3, 60, .inr (.inl g3)))]) hD hS hA [2, 6, 5, 9] rfl
                    refine va_callv (va_runV (As := [.int a4, .ref s3, .int a2, .int a5]) (rest := []) ⟨hx, hb, hml, hown, hts⟩ (kX3_take l dC dI s0 wd0 rz0 n0 cJ0 g0 s3 wd3 rz3 n3 cJ3 g3 a4 a2 a5 (s.heap.size) (rg_w b_wd0 (by decide) (by decide)) b_rz0 (rg_w b_wd3 (by decide) (by decide)) b_rz3) (cwV 4 hts gX9_pasteF__X3_take_V353 rfl rfl rfl hd_yX3_take ⟨lel 2 2 rfl, lel 88 88 rfl⟩) ⟨hw_fb, rcv_X3 hK hP (q0 := 2) rfl, (hw_use hP hD hK hN [2, 6, 5, 9] rfl (by decide) rfl [1, 4] rfl)⟩ rfl rfl hl.1 rfl (lv_room (Nat.le_of_ble_eq_true rfl)) dX9_paste_105 ⟨lel 0 0 rfl, lel 0 0 rfl⟩) hS (fun q _ h => hFc q h) hFc (fun u_602 t H1 locs ht hvm hw_r_601 hB hz1 hk1 hS => ?_)
                    obtain ⟨o0_603, hP1, hK1, hD1⟩ := hB
                    rw [ht] at hP1
                    have hK1 := va_K.moved hvm.symm hK1
                    obtain ⟨hP, hD⟩ := va_join (wr := [(h0, .inr (7, [.ref tp, .ref sc, .ref rd, .ref cu, .ref im, .ref ig, .ref sl, .ref se, .ref sm, .ref fc])), (sl, .inl (cS, 4, .inr (.inr (.inr (.inr (sf4 s0 s1 s2 s3)))))), (s1, .inr (2, [.int wd1, .int rz1, .ref n1])), (s2, .inr (2, [.int wd2, .int rz2, .ref n2])), (n1, .inl (cJ1, 60, .inr (.inl g1))), (n2, .inl (cJ2, 60, .inr (.inl g2)))]) (w1 := [(s0, .inr (2, [.int wd0, .int rz0, .ref n0])), (n0, .inl (cJ0, 60, .inr (.inl o0_603))), (s3, .inr (2, [.int wd3, .int rz3, .ref n3])), (n3, .inl (cJ3, 60, .inr (.inl g3)))]) hP hD [2, 6, 5, 9] [0, 1, 3, 4, 7, 8] rfl rfl (by decide) (by decide) hk1 hFc hP1 hD1
                    have hK := (hK.sub (tys' := [(cS, .object RX3), (cJ1, .long), (cJ2, .long)]) [0, 2, 3] rfl).app hK1
                    generalize H1 = H at hP hS ⊢
                    have hP := hP.sub (ws' := [(h0, .inr (7, [.ref tp, .ref sc, .ref rd, .ref cu, .ref im, .ref ig, .ref sl, .ref se, .ref sm, .ref fc])), (sl, .inl (cS, 4, .inr (.inr (.inr (.inr (sf4 s0 s1 s2 s3)))))), (s0, .inr (2, [.int wd0, .int rz0, .ref n0])), (s1, .inr (2, [.int wd1, .int rz1, .ref n1])), (s2, .inr (2, [.int wd2, .int rz2, .ref n2])), (s3, .inr (2, [.int wd3, .int rz3, .ref n3])), (n0, .inl (cJ0, 60, .inr (.inl o0_603))), (n1, .inl (cJ1, 60, .inr (.inl g1))), (n2, .inl (cJ2, 60, .inr (.inl g2))), (n3, .inl (cJ3, 60, .inr (.inl g3)))]) [0, 1, 6, 2, 3, 8, 7, 4, 5, 9] rfl
                    have hD := hD.sub (ws' := [(h0, .inr (7, [.ref tp, .ref sc, .ref rd, .ref cu, .ref im, .ref ig, .ref sl, .ref se, .ref sm, .ref fc])), (sl, .inl (cS, 4, .inr (.inr (.inr (.inr (sf4 s0 s1 s2 s3)))))), (s0, .inr (2, [.int wd0, .int rz0, .ref n0])), (s1, .inr (2, [.int wd1, .int rz1, .ref n1])), (s2, .inr (2, [.int wd2, .int rz2, .ref n2])), (s3, .inr (2, [.int wd3, .int rz3, .ref n3])), (n0, .inl (cJ0, 60, .inr (.inl o0_603))), (n1, .inl (cJ1, 60, .inr (.inl g1))), (n2, .inl (cJ2, 60, .inr (.inl g2))), (n3, .inl (cJ3, 60, .inr (.inl g3)))]) [0, 1, 6, 2, 3, 8, 7, 4, 5, 9] (by decide) rfl
                    have hK := hK.sub (tys' := [(cS, .object RX3), (cJ0, .long), (cJ1, .long), (cJ2, .long), (cJ3, .long)]) [0, 3, 1, 2, 4] rfl
                    have hP : va_P (dC, dI) vwCl [(h0, .inr (7, [.ref tp, .ref sc, .ref rd, .ref cu, .ref im, .ref ig, .ref sl, .ref se, .ref sm, .ref fc])), (sl, .inl (cS, 4, .inr (.inr (.inr (.inr (sf4 s0 s1 s2 s3)))))), (s0, .inr (2, [.int wd0, .int rz0, .ref n0])), (s1, .inr (2, [.int wd1, .int rz1, .ref n1])), (s2, .inr (2, [.int wd2, .int rz2, .ref n2])), (s3, .inr (2, [.int wd3, .int rz3, .ref n3])), (n0, .inl (cJ0, 60, .inr (.inl o0_603))), (n1, .inl (cJ1, 60, .inr (.inl g1))), (n2, .inl (cJ2, 60, .inr (.inl g2))), (n3, .inl (cJ3, 60, .inr (.inl g3)))] H := hP
                    have hD : va_D A [(h0, .inr (7, [.ref tp, .ref sc, .ref rd, .ref cu, .ref im, .ref ig, .ref sl, .ref se, .ref sm, .ref fc])), (sl, .inl (cS, 4, .inr (.inr (.inr (.inr (sf4 s0 s1 s2 s3)))))), (s0, .inr (2, [.int wd0, .int rz0, .ref n0])), (s1, .inr (2, [.int wd1, .int rz1, .ref n1])), (s2, .inr (2, [.int wd2, .int rz2, .ref n2])), (s3, .inr (2, [.int wd3, .int rz3, .ref n3])), (n0, .inl (cJ0, 60, .inr (.inl o0_603))), (n1, .inl (cJ1, 60, .inr (.inl g1))), (n2, .inl (cJ2, 60, .inr (.inl g2))), (n3, .inl (cJ3, 60, .inr (.inl g3)))] := hD
                    have hK : va_K (dC, dI) vwCl [(cS, .object RX3), (cJ0, .long), (cJ1, .long), (cJ2, .long), (cJ3, .long)] s := hK
                    refine lv_iconst (v := 0) hx hb dX9_paste_108 (by decide) ?_
                    have hP9 := hP.sub (ws' := [(h0, .inr (7, [.ref tp, .ref sc, .ref rd, .ref cu, .ref im, .ref ig, .ref sl, .ref se, .ref sm, .ref fc])), (sl, .inl (cS, 4, .inr (.inr (.inr (.inr (sf4 s0 s1 s2 s3)))))), (s0, .inr (2, [.int wd0, .int rz0, .ref n0])), (s1, .inr (2, [.int wd1, .int rz1, .ref n1])), (s2, .inr (2, [.int wd2, .int rz2, .ref n2])), (s3, .inr (2, [.int wd3, .int rz3, .ref n3])), (n0, .inl (cJ0, 60, .inr (.inl o0_603))), (n1, .inl (cJ1, 60, .inr (.inl g1))), (n2, .inl (cJ2, 60, .inr (.inl g2))), (n3, .inl (cJ3, 60, .inr (.inl g3)))]) [0, 1, 2, 3, 4, 5, 6, 7, 8, 9] rfl
                    have hD9 := hD.sub (ws' := [(h0, .inr (7, [.ref tp, .ref sc, .ref rd, .ref cu, .ref im, .ref ig, .ref sl, .ref se, .ref sm, .ref fc])), (sl, .inl (cS, 4, .inr (.inr (.inr (.inr (sf4 s0 s1 s2 s3)))))), (s0, .inr (2, [.int wd0, .int rz0, .ref n0])), (s1, .inr (2, [.int wd1, .int rz1, .ref n1])), (s2, .inr (2, [.int wd2, .int rz2, .ref n2])), (s3, .inr (2, [.int wd3, .int rz3, .ref n3])), (n0, .inl (cJ0, 60, .inr (.inl o0_603))), (n1, .inl (cJ1, 60, .inr (.inl g1))), (n2, .inl (cJ2, 60, .inr (.inl g2))), (n3, .inl (cJ3, 60, .inr (.inl g3)))]) [0, 1, 2, 3, 4, 5, 6, 7, 8, 9] (by decide) rfl
                    have hK9 := hK.sub (tys' := [(cS, .object RX3), (cJ0, .long), (cJ1, .long), (cJ2, .long), (cJ3, .long)]) [0, 1, 2, 3, 4] rfl
                    exact W.iret (v := 0) hx hb hr (fun t ht hW => ⟨⟨0, (), rfl, ⟨(rg_w (by decide : (0 : Int) ≤ (0 : Int32).toInt ∧ (0 : Int32).toInt ≤ 0) (by decide) (by decide)), (ps_0 (j := 3) (t := 0) (by decide) (by decide) (by decide) (by have q0 := hg9_0; unfold RG at q0; have q3 := hg9_3; unfold RG at q3; omega) (by have q0 := hg9_0; unfold RG at q0; have q3 := hg9_3; unfold RG at q3; omega) (by have q0 := hg9_0; unfold RG at q0; have q3 := hg9_3; unfold RG at q3; omega))⟩, o0_603, g1, g2, g3, by rw [ht]; exact hP9, va_K.moved hW.alike hK9, hD9⟩, hS.F ht⟩) hS.2.2 dX9_paste_109
                  ·
                    have n_c_599 : (r_598.toInt : Int) = 0 := c_eq rfl (by decide) c_599
                    have b_r_598 : (0 : Int) ≤ r_598.toInt ∧ r_598.toInt ≤ 0 := r_eq1 b_r_598 (by decide : (0 : Int) ≤ (0 : Int32).toInt ∧ (0 : Int32).toInt ≤ 0) n_c_599 (by decide)
                    have g_604 := zz_r_598 c_599
                    refine lv_bipush (v := (-7)) hx hb dX9_paste_93 (by decide) ?_
                    have hP9 := hP.sub (ws' := [(h0, .inr (7, [.ref tp, .ref sc, .ref rd, .ref cu, .ref im, .ref ig, .ref sl, .ref se, .ref sm, .ref fc])), (sl, .inl (cS, 4, .inr (.inr (.inr (.inr (sf4 s0 s1 s2 s3)))))), (s0, .inr (2, [.int wd0, .int rz0, .ref n0])), (s1, .inr (2, [.int wd1, .int rz1, .ref n1])), (s2, .inr (2, [.int wd2, .int rz2, .ref n2])), (s3, .inr (2, [.int wd3, .int rz3, .ref n3])), (n0, .inl (cJ0, 60, .inr (.inl g0))), (n1, .inl (cJ1, 60, .inr (.inl g1))), (n2, .inl (cJ2, 60, .inr (.inl g2))), (n3, .inl (cJ3, 60, .inr (.inl g3)))]) [0, 1, 2, 3, 4, 5, 6, 7, 8, 9] rfl
                    have hD9 := hD.sub (ws' := [(h0, .inr (7, [.ref tp, .ref sc, .ref rd, .ref cu, .ref im, .ref ig, .ref sl, .ref se, .ref sm, .ref fc])), (sl, .inl (cS, 4, .inr (.inr (.inr (.inr (sf4 s0 s1 s2 s3)))))), (s0, .inr (2, [.int wd0, .int rz0, .ref n0])), (s1, .inr (2, [.int wd1, .int rz1, .ref n1])), (s2, .inr (2, [.int wd2, .int rz2, .ref n2])), (s3, .inr (2, [.int wd3, .int rz3, .ref n3])), (n0, .inl (cJ0, 60, .inr (.inl g0))), (n1, .inl (cJ1, 60, .inr (.inl g1))), (n2, .inl (cJ2, 60, .inr (.inl g2))), (n3, .inl (cJ3, 60, .inr (.inl g3)))]) [0, 1, 2, 3, 4, 5, 6, 7, 8, 9] (by decide) rfl
                    have hK9 := hK.sub (tys' := [(cS, .object RX3), (cJ0, .long), (cJ1, .long), (cJ2, .long), (cJ3, .long)]) [0, 1, 2, 3, 4] rfl
                    exact W.iret (v := (-7)) hx hb hr (fun t ht hW => ⟨⟨(-7), (), rfl, ⟨(rg_w (by decide : (-7 : Int) ≤ ((-7) : Int32).toInt ∧ ((-7) : Int32).toInt ≤ -7) (by decide) (by decide)), (ps_7 (j := 3) (t := 0) (by decide) (by decide) (by decide) (by have q0 := hg9_0; unfold RG at q0; have q3 := hg9_3; unfold RG at q3; omega) (by have q0 := hg9_0; unfold RG at q0; have q3 := hg9_3; unfold RG at q3; omega) (by have q0 := hg9_0; unfold RG at q0; have q3 := hg9_3; unfold RG at q3; omega))⟩, g0, g1, g2, g3, by rw [ht]; exact hP9, va_K.moved hW.alike hK9, hD9⟩, hS.F ht⟩) hS.2.2 dX9_paste_95
              ·
                have n_c_593 : (wd3.toInt : Int) ≠ wd0.toInt := c_ne rfl rfl c_593
                refine lv_bipush (v := (-8)) hx hb dX9_paste_67 (by decide) ?_
                have hP9 := hP.sub (ws' := [(h0, .inr (7, [.ref tp, .ref sc, .ref rd, .ref cu, .ref im, .ref ig, .ref sl, .ref se, .ref sm, .ref fc])), (sl, .inl (cS, 4, .inr (.inr (.inr (.inr (sf4 s0 s1 s2 s3)))))), (s0, .inr (2, [.int wd0, .int rz0, .ref n0])), (s1, .inr (2, [.int wd1, .int rz1, .ref n1])), (s2, .inr (2, [.int wd2, .int rz2, .ref n2])), (s3, .inr (2, [.int wd3, .int rz3, .ref n3])), (n0, .inl (cJ0, 60, .inr (.inl g0))), (n1, .inl (cJ1, 60, .inr (.inl g1))), (n2, .inl (cJ2, 60, .inr (.inl g2))), (n3, .inl (cJ3, 60, .inr (.inl g3)))]) [0, 1, 2, 3, 4, 5, 6, 7, 8, 9] rfl
                have hD9 := hD.sub (ws' := [(h0, .inr (7, [.ref tp, .ref sc, .ref rd, .ref cu, .ref im, .ref ig, .ref sl, .ref se, .ref sm, .ref fc])), (sl, .inl (cS, 4, .inr (.inr (.inr (.inr (sf4 s0 s1 s2 s3)))))), (s0, .inr (2, [.int wd0, .int rz0, .ref n0])), (s1, .inr (2, [.int wd1, .int rz1, .ref n1])), (s2, .inr (2, [.int wd2, .int rz2, .ref n2])), (s3, .inr (2, [.int wd3, .int rz3, .ref n3])), (n0, .inl (cJ0, 60, .inr (.inl g0))), (n1, .inl (cJ1, 60, .inr (.inl g1))), (n2, .inl (cJ2, 60, .inr (.inl g2))), (n3, .inl (cJ3, 60, .inr (.inl g3)))]) [0, 1, 2, 3, 4, 5, 6, 7, 8, 9] (by decide) rfl
                have hK9 := hK.sub (tys' := [(cS, .object RX3), (cJ0, .long), (cJ1, .long), (cJ2, .long), (cJ3, .long)]) [0, 1, 2, 3, 4] rfl
                exact W.iret (v := (-8)) hx hb hr (fun t ht hW => ⟨⟨(-8), (), rfl, ⟨(rg_w (by decide : (-8 : Int) ≤ ((-8) : Int32).toInt ∧ ((-8) : Int32).toInt ≤ -8) (by decide) (by decide)), (ps_8 (j := 3) (t := 0) (by decide) (by decide) (by decide) (by have q0 := hg9_0; unfold RG at q0; have q3 := hg9_3; unfold RG at q3; omega) (by have q0 := hg9_0; unfold RG at q0; have q3 := hg9_3; unfold RG at q3; omega))⟩, g0, g1, g2, g3, by rw [ht]; exact hP9, va_K.moved hW.alike hK9, hD9⟩, hS.F ht⟩) hS.2.2 dX9_paste_69
            ·
              have n_c_591 : (r_590.toInt : Int) = 0 := c_eq rfl (by decide) c_591
              have b_r_590 : (0 : Int) ≤ r_590.toInt ∧ r_590.toInt ≤ 0 := r_eq1 b_r_590 (by decide : (0 : Int) ≤ (0 : Int32).toInt ∧ (0 : Int32).toInt ≤ 0) n_c_591 (by decide)
              have g_605 := zz_r_590 c_591
              refine lv_bipush (v := (-6)) hx hb dX9_paste_51 (by decide) ?_
              have hP9 := hP.sub (ws' := [(h0, .inr (7, [.ref tp, .ref sc, .ref rd, .ref cu, .ref im, .ref ig, .ref sl, .ref se, .ref sm, .ref fc])), (sl, .inl (cS, 4, .inr (.inr (.inr (.inr (sf4 s0 s1 s2 s3)))))), (s0, .inr (2, [.int wd0, .int rz0, .ref n0])), (s1, .inr (2, [.int wd1, .int rz1, .ref n1])), (s2, .inr (2, [.int wd2, .int rz2, .ref n2])), (s3, .inr (2, [.int wd3, .int rz3, .ref n3])), (n0, .inl (cJ0, 60, .inr (.inl g0))), (n1, .inl (cJ1, 60, .inr (.inl g1))), (n2, .inl (cJ2, 60, .inr (.inl g2))), (n3, .inl (cJ3, 60, .inr (.inl g3)))]) [0, 1, 2, 3, 4, 5, 6, 7, 8, 9] rfl
              have hD9 := hD.sub (ws' := [(h0, .inr (7, [.ref tp, .ref sc, .ref rd, .ref cu, .ref im, .ref ig, .ref sl, .ref se, .ref sm, .ref fc])), (sl, .inl (cS, 4, .inr (.inr (.inr (.inr (sf4 s0 s1 s2 s3)))))), (s0, .inr (2, [.int wd0, .int rz0, .ref n0])), (s1, .inr (2, [.int wd1, .int rz1, .ref n1])), (s2, .inr (2, [.int wd2, .int rz2, .ref n2])), (s3, .inr (2, [.int wd3, .int rz3, .ref n3])), (n0, .inl (cJ0, 60, .inr (.inl g0))), (n1, .inl (cJ1, 60, .inr (.inl g1))), (n2, .inl (cJ2, 60, .inr (.inl g2))), (n3, .inl (cJ3, 60, .inr (.inl g3)))]) [0, 1, 2, 3, 4, 5, 6, 7, 8, 9] (by decide) rfl
              have hK9 := hK.sub (tys' := [(cS, .object RX3), (cJ0, .long), (cJ1, .long), (cJ2, .long), (cJ3, .long)]) [0, 1, 2, 3, 4] rfl
              exact W.iret (v := (-6)) hx hb hr (fun t ht hW => ⟨⟨(-6), (), rfl, ⟨(rg_w (by decide : (-6 : Int) ≤ ((-6) : Int32).toInt ∧ ((-6) : Int32).toInt ≤ -6) (by decide) (by decide)), (ps_6 (j := 3) (t := 0) (by decide) (by decide) (by decide) (by have q0 := hg9_0; unfold RG at q0; have q3 := hg9_3; unfold RG at q3; omega))⟩, g0, g1, g2, g3, by rw [ht]; exact hP9, va_K.moved hW.alike hK9, hD9⟩, hS.F ht⟩) hS.2.2 dX9_paste_53
        ·
          obtain rfl : a3 = 1 := Int32.toInt_inj.mp (h_585.trans (by decide))
          refine va_aldq hx hb hK hP 1 0 rfl rfl (vp_in_b (by decide : (1 : Int) ≤ (1 : Int32).toInt ∧ (1 : Int32).toInt ≤ 1) (by decide) (by decide)) dX9_paste_32 ?_
          refine W.eq (g2 := F0 m 33 ls (.ref s1 :: [])) (congrArg (fun v => F0 m 33 ls (va_rf v :: [])) (sf4_1 s0 s1 s2 s3)) ?_
          refine lv_astore (lv' := [(7, .ref s1), (6, .ref s3), (0, .ref h0), (1, .int 3), (2, .int a2), (3, .int 1), (4, .int a4), (5, .int a5)]) hx hb dX9_paste_33 hl (by decide) rfl (fun ls hl => ?_)
          refine lv_aload hx hb dX9_paste_35 (lv_at hl 1 rfl) ?_
          refine vp_callSi (W.runV (As := []) (rest := []) ⟨hx, hb, hml, hown, hts⟩ (kX3_stands2 l dC dI s3 wd3 rz3 n3 b_wd3 b_rz3) (cwV 0 hts gX9_pasteF__X3_stands2_V270 rfl rfl rfl hd_yX3_stands ⟨lel 1 2 rfl, lel 20 88 rfl⟩) ⟨pw_fb, rcv_X3 hK hP (q0 := 5) rfl, (pw_use hP hK hN [5] rfl [] rfl)⟩ rfl rfl hl.1 rfl (lv_room (Nat.le_of_ble_eq_true rfl)) dX9_paste_37 ⟨lel 0 0 rfl, lel 0 0 rfl⟩) (fun r_606 h_r_606 => ?_)
          obtain ⟨b_r_606, nz_r_606, zz_r_606⟩ := h_r_606
          have b_r_606 : (0 : Int) ≤ r_606.toInt ∧ r_606.toInt ≤ 1 := b_r_606
          refine lv_if_eq (tgt := 51) hx hb dX9_paste_40 (by decide) (fun c_607 => ?_) (fun c_607 => ?_)
          ·
            have n_c_607 : (r_606.toInt : Int) = 0 := c_eq rfl (by decide) c_607
            have b_r_606 : (0 : Int) ≤ r_606.toInt ∧ r_606.toInt ≤ 0 := r_eq1 b_r_606 (by decide : (0 : Int) ≤ (0 : Int32).toInt ∧ (0 : Int32).toInt ≤ 0) n_c_607 (by decide)
            have g_608 := zz_r_606 c_607
            refine lv_bipush (v := (-6)) hx hb dX9_paste_51 (by decide) ?_
            have hP9 := hP.sub (ws' := [(h0, .inr (7, [.ref tp, .ref sc, .ref rd, .ref cu, .ref im, .ref ig, .ref sl, .ref se, .ref sm, .ref fc])), (sl, .inl (cS, 4, .inr (.inr (.inr (.inr (sf4 s0 s1 s2 s3)))))), (s0, .inr (2, [.int wd0, .int rz0, .ref n0])), (s1, .inr (2, [.int wd1, .int rz1, .ref n1])), (s2, .inr (2, [.int wd2, .int rz2, .ref n2])), (s3, .inr (2, [.int wd3, .int rz3, .ref n3])), (n0, .inl (cJ0, 60, .inr (.inl g0))), (n1, .inl (cJ1, 60, .inr (.inl g1))), (n2, .inl (cJ2, 60, .inr (.inl g2))), (n3, .inl (cJ3, 60, .inr (.inl g3)))]) [0, 1, 2, 3, 4, 5, 6, 7, 8, 9] rfl
            have hD9 := hD.sub (ws' := [(h0, .inr (7, [.ref tp, .ref sc, .ref rd, .ref cu, .ref im, .ref ig, .ref sl, .ref se, .ref sm, .ref fc])), (sl, .inl (cS, 4, .inr (.inr (.inr (.inr (sf4 s0 s1 s2 s3)))))), (s0, .inr (2, [.int wd0, .int rz0, .ref n0])), (s1, .inr (2, [.int wd1, .int rz1, .ref n1])), (s2, .inr (2, [.int wd2, .int rz2, .ref n2])), (s3, .inr (2, [.int wd3, .int rz3, .ref n3])), (n0, .inl (cJ0, 60, .inr (.inl g0))), (n1, .inl (cJ1, 60, .inr (.inl g1))), (n2, .inl (cJ2, 60, .inr (.inl g2))), (n3, .inl (cJ3, 60, .inr (.inl g3)))]) [0, 1, 2, 3, 4, 5, 6, 7, 8, 9] (by decide) rfl
            have hK9 := hK.sub (tys' := [(cS, .object RX3), (cJ0, .long), (cJ1, .long), (cJ2, .long), (cJ3, .long)]) [0, 1, 2, 3, 4] rfl
            exact W.iret (v := (-6)) hx hb hr (fun t ht hW => ⟨⟨(-6), (), rfl, ⟨(rg_w (by decide : (-6 : Int) ≤ ((-6) : Int32).toInt ∧ ((-6) : Int32).toInt ≤ -6) (by decide) (by decide)), (ps_6 (j := 3) (t := 1) (by decide) (by decide) (by decide) (by have q1 := hg9_1; unfold RG at q1; have q3 := hg9_3; unfold RG at q3; omega))⟩, g0, g1, g2, g3, by rw [ht]; exact hP9, va_K.moved hW.alike hK9, hD9⟩, hS.F ht⟩) hS.2.2 dX9_paste_53
          ·
            have n_c_607 : (r_606.toInt : Int) ≠ 0 := c_ne rfl (by decide) c_607
            have b_r_606 : (1 : Int) ≤ r_606.toInt ∧ r_606.toInt ≤ 1 := r_ne1 b_r_606 (by decide : (0 : Int) ≤ (0 : Int32).toInt ∧ (0 : Int32).toInt ≤ 0) n_c_607 (by decide)
            obtain ⟨b_wd3, g_609⟩ := nz_r_606 c_607
            refine lv_aload hx hb dX9_paste_43 (lv_at hl 0 rfl) ?_
            refine vp_callSi (W.runV (As := []) (rest := []) ⟨hx, hb, hml, hown, hts⟩ (kX3_stands2 l dC dI s1 wd1 rz1 n1 b_wd1 b_rz1) (cwV 0 hts gX9_pasteF__X3_stands2_V270 rfl rfl rfl hd_yX3_stands ⟨lel 1 2 rfl, lel 20 88 rfl⟩) ⟨pw_fb, rcv_X3 hK hP (q0 := 3) rfl, (pw_use hP hK hN [3] rfl [] rfl)⟩ rfl rfl hl.1 rfl (lv_room (Nat.le_of_ble_eq_true rfl)) dX9_paste_45 ⟨lel 0 0 rfl, lel 0 0 rfl⟩) (fun r_610 h_r_610 => ?_)
            obtain ⟨b_r_610, nz_r_610, zz_r_610⟩ := h_r_610
            have b_r_610 : (0 : Int) ≤ r_610.toInt ∧ r_610.toInt ≤ 1 := b_r_610
            refine lv_if_ne (tgt := 54) hx hb dX9_paste_48 (by decide) (fun c_611 => ?_) (fun c_611 => ?_)
            ·
              have n_c_611 : (r_610.toInt : Int) ≠ 0 := c_ne rfl (by decide) c_611
              have b_r_610 : (1 : Int) ≤ r_610.toInt ∧ r_610.toInt ≤ 1 := r_ne1 b_r_610 (by decide : (0 : Int) ≤ (0 : Int32).toInt ∧ (0 : Int32).toInt ≤ 0) n_c_611 (by decide)
              obtain ⟨b_wd1, g_612⟩ := nz_r_610 c_611
              refine lv_aload hx hb dX9_paste_54 (lv_at hl 1 rfl) ?_
              refine va_getN (own := RX9) (index := 350) (ref := RX3) (host := RX9) (D := (dC, dI)) (ci := 2) (v := .int wd3) (C := RX3) (T := TX3) (N := 3) hx hb hts iX9_pasteF_X3 hown hK hP 5 rfl rfl 0 (by decide) (va_Nw.use rfl (hN _ (List.mem_of_getElem? (i := 21) rfl))) (fun _ h9 => h9) rfl dX9_paste_56 ?_
              refine lv_aload hx hb dX9_paste_59 (lv_at hl 0 rfl) ?_
              refine va_getN (own := RX9) (index := 350) (ref := RX3) (host := RX9) (D := (dC, dI)) (ci := 2) (v := .int wd1) (C := RX3) (T := TX3) (N := 3) hx hb hts iX9_pasteF_X3 hown hK hP 3 rfl rfl 0 (by decide) (va_Nw.use rfl (hN _ (List.mem_of_getElem? (i := 21) rfl))) (fun _ h9 => h9) rfl dX9_paste_61 ?_
              refine lv_icmp_eq (tgt := 70) hx hb dX9_paste_64 (by decide) (fun c_613 => ?_) (fun c_613 => ?_)
              ·
                have n_c_613 : (wd3.toInt : Int) = wd1.toInt := c_eq rfl rfl c_613
                refine lv_aload hx hb dX9_paste_70 (lv_at hl 1 rfl) ?_
                refine lv_iload_n hx hb dX9_paste_72 rfl (lv_at hl 4 rfl) ?_
                refine lv_iload hx hb dX9_paste_73 (lv_at hl 7 rfl) ?_
                refine vp_callSi (W.runV (As := [.int a2, .int a5]) (rest := []) ⟨hx, hb, hml, hown, hts⟩ (kX3_hasStretch2 l dC dI s3 wd3 rz3 n3 a2 a5 (rg_w b_wd3 (by decide) (by decide)) b_rz3) (cwV 2 hts gX9_pasteF__X3_hasStretch2_V343 rfl rfl rfl hd_yX3_hasStretch ⟨lel 1 2 rfl, lel 22 88 rfl⟩) ⟨pw_fb, rcv_X3 hK hP (q0 := 5) rfl, (pw_use hP hK hN [5] rfl [] rfl)⟩ rfl rfl hl.1 rfl (lv_room (Nat.le_of_ble_eq_true rfl)) dX9_paste_75 ⟨lel 0 0 rfl, lel 0 0 rfl⟩) (fun r_614 h_r_614 => ?_)
                obtain ⟨b_r_614, nz_r_614, zz_r_614⟩ := h_r_614
                have b_r_614 : (0 : Int) ≤ r_614.toInt ∧ r_614.toInt ≤ 1 := b_r_614
                refine lv_if_eq (tgt := 93) hx hb dX9_paste_78 (by decide) (fun c_615 => ?_) (fun c_615 => ?_)
                ·
                  have n_c_615 : (r_614.toInt : Int) = 0 := c_eq rfl (by decide) c_615
                  have b_r_614 : (0 : Int) ≤ r_614.toInt ∧ r_614.toInt ≤ 0 := r_eq1 b_r_614 (by decide : (0 : Int) ≤ (0 : Int32).toInt ∧ (0 : Int32).toInt ≤ 0) n_c_615 (by decide)
                  have g_616 := zz_r_614 c_615
                  refine lv_bipush (v := (-7)) hx hb dX9_paste_93 (by decide) ?_
                  have hP9 := hP.sub (ws' := [(h0, .inr (7, [.ref tp, .ref sc, .ref rd, .ref cu, .ref im, .ref ig, .ref sl, .ref se, .ref sm, .ref fc])), (sl, .inl (cS, 4, .inr (.inr (.inr (.inr (sf4 s0 s1 s2 s3)))))), (s0, .inr (2, [.int wd0, .int rz0, .ref n0])), (s1, .inr (2, [.int wd1, .int rz1, .ref n1])), (s2, .inr (2, [.int wd2, .int rz2, .ref n2])), (s3, .inr (2, [.int wd3, .int rz3, .ref n3])), (n0, .inl (cJ0, 60, .inr (.inl g0))), (n1, .inl (cJ1, 60, .inr (.inl g1))), (n2, .inl (cJ2, 60, .inr (.inl g2))), (n3, .inl (cJ3, 60, .inr (.inl g3)))]) [0, 1, 2, 3, 4, 5, 6, 7, 8, 9] rfl
                  have hD9 := hD.sub (ws' := [(h0, .inr (7, [.ref tp, .ref sc, .ref rd, .ref cu, .ref im, .ref ig, .ref sl, .ref se, .ref sm, .ref fc])), (sl, .inl (cS, 4, .inr (.inr (.inr (.inr (sf4 s0 s1 s2 s3)))))), (s0, .inr (2, [.int wd0, .int rz0, .ref n0])), (s1, .inr (2, [.int wd1, .int rz1, .ref n1])), (s2, .inr (2, [.int wd2, .int rz2, .ref n2])), (s3, .inr (2, [.int wd3, .int rz3, .ref n3])), (n0, .inl (cJ0, 60, .inr (.inl g0))), (n1, .inl (cJ1, 60, .inr (.inl g1))), (n2, .inl (cJ2, 60, .inr (.inl g2))), (n3, .inl (cJ3, 60, .inr (.inl g3)))]) [0, 1, 2, 3, 4, 5, 6, 7, 8, 9] (by decide) rfl
                  have hK9 := hK.sub (tys' := [(cS, .object RX3), (cJ0, .long), (cJ1, .long), (cJ2, .long), (cJ3, .long)]) [0, 1, 2, 3, 4] rfl
                  exact W.iret (v := (-7)) hx hb hr (fun t ht hW => ⟨⟨(-7), (), rfl, ⟨(rg_w (by decide : (-7 : Int) ≤ ((-7) : Int32).toInt ∧ ((-7) : Int32).toInt ≤ -7) (by decide) (by decide)), (ps_7 (j := 3) (t := 1) (by decide) (by decide) (by decide) (by have q1 := hg9_1; unfold RG at q1; have q3 := hg9_3; unfold RG at q3; omega) (by have q1 := hg9_1; unfold RG at q1; have q3 := hg9_3; unfold RG at q3; omega) (by have q1 := hg9_1; unfold RG at q1; have q3 := hg9_3; unfold RG at q3; omega))⟩, g0, g1, g2, g3, by rw [ht]; exact hP9, va_K.moved hW.alike hK9, hD9⟩, hS.F ht⟩) hS.2.2 dX9_paste_95
                ·
                  have n_c_615 : (r_614.toInt : Int) ≠ 0 := c_ne rfl (by decide) c_615
                  have b_r_614 : (1 : Int) ≤ r_614.toInt ∧ r_614.toInt ≤ 1 := r_ne1 b_r_614 (by decide : (0 : Int) ≤ (0 : Int32).toInt ∧ (0 : Int32).toInt ≤ 0) n_c_615 (by decide)
                  obtain ⟨b_a2, b_a5, g_617⟩ := nz_r_614 c_615
                  refine lv_aload hx hb dX9_paste_81 (lv_at hl 0 rfl) ?_
                  refine lv_iload hx hb dX9_paste_83 (lv_at hl 6 rfl) ?_
                  refine lv_iload hx hb dX9_paste_85 (lv_at hl 7 rfl) ?_
                  refine vp_callSi (W.runV (As := [.int a4, .int a5]) (rest := []) ⟨hx, hb, hml, hown, hts⟩ (kX3_hasStretch2 l dC dI s1 wd1 rz1 n1 a4 a5 (rg_w b_wd1 (by decide) (by decide)) b_rz1) (cwV 2 hts gX9_pasteF__X3_hasStretch2_V343 rfl rfl rfl hd_yX3_hasStretch ⟨lel 1 2 rfl, lel 22 88 rfl⟩) ⟨pw_fb, rcv_X3 hK hP (q0 := 3) rfl, (pw_use hP hK hN [3] rfl [] rfl)⟩ rfl rfl hl.1 rfl (lv_room (Nat.le_of_ble_eq_true rfl)) dX9_paste_87 ⟨lel 0 0 rfl, lel 0 0 rfl⟩) (fun r_618 h_r_618 => ?_)
                  obtain ⟨b_r_618, nz_r_618, zz_r_618⟩ := h_r_618
                  have b_r_618 : (0 : Int) ≤ r_618.toInt ∧ r_618.toInt ≤ 1 := b_r_618
                  refine lv_if_ne (tgt := 96) hx hb dX9_paste_90 (by decide) (fun c_619 => ?_) (fun c_619 => ?_)
                  ·
                    have n_c_619 : (r_618.toInt : Int) ≠ 0 := c_ne rfl (by decide) c_619
                    have b_r_618 : (1 : Int) ≤ r_618.toInt ∧ r_618.toInt ≤ 1 := r_ne1 b_r_618 (by decide : (0 : Int) ≤ (0 : Int32).toInt ∧ (0 : Int32).toInt ≤ 0) n_c_619 (by decide)
                    obtain ⟨b_a4, b_a5, g_620⟩ := nz_r_618 c_619
                    refine lv_aload hx hb dX9_paste_96 (lv_at hl 0 rfl) ?_
                    refine lv_iload hx hb dX9_paste_98 (lv_at hl 6 rfl) ?_
                    refine lv_aload hx hb dX9_paste_100 (lv_at hl 1 rfl) ?_
                    refine lv_iload_n hx hb dX9_paste_102 rfl (lv_at hl 4 rfl) ?_
                    refine lv_iload hx hb dX9_paste_103 (lv_at hl 7 rfl) ?_
                    have hFc := va_free (wc := [(s1, .inr (2, [.int wd1, .int rz1, .ref n1])), (n1, .inl (cJ1, 60, .inr (.inl g1))), (s3, .inr (2, [.int wd3, .int rz3, .ref n3])), (n3, .inl (cJ3, 60, .inr (.inl g3)))]) hD hS hA [3, 7, 5, 9] rfl
                    refine va_callv (va_runV (As := [.int a4, .ref s3, .int a2, .int a5]) (rest := []) ⟨hx, hb, hml, hown, hts⟩ (kX3_take l dC dI s1 wd1 rz1 n1 cJ1 g1 s3 wd3 rz3 n3 cJ3 g3 a4 a2 a5 (s.heap.size) (rg_w b_wd1 (by decide) (by decide)) b_rz1 (rg_w b_wd3 (by decide) (by decide)) b_rz3) (cwV 4 hts gX9_pasteF__X3_take_V353 rfl rfl rfl hd_yX3_take ⟨lel 2 2 rfl, lel 88 88 rfl⟩) ⟨hw_fb, rcv_X3 hK hP (q0 := 3) rfl, (hw_use hP hD hK hN [3, 7, 5, 9] rfl (by decide) rfl [2, 4] rfl)⟩ rfl rfl hl.1 rfl (lv_room (Nat.le_of_ble_eq_true rfl)) dX9_paste_105 ⟨lel 0 0 rfl, lel 0 0 rfl⟩) hS (fun q _ h => hFc q h) hFc (fun u_622 t H1 locs ht hvm hw_r_621 hB hz1 hk1 hS => ?_)
                    obtain ⟨o0_623, hP1, hK1, hD1⟩ := hB
                    rw [ht] at hP1
                    have hK1 := va_K.moved hvm.symm hK1
                    obtain ⟨hP, hD⟩ := va_join (wr := [(h0, .inr (7, [.ref tp, .ref sc, .ref rd, .ref cu, .ref im, .ref ig, .ref sl, .ref se, .ref sm, .ref fc])), (sl, .inl (cS, 4, .inr (.inr (.inr (.inr (sf4 s0 s1 s2 s3)))))), (s0, .inr (2, [.int wd0, .int rz0, .ref n0])), (s2, .inr (2, [.int wd2, .int rz2, .ref n2])), (n0, .inl (cJ0, 60, .inr (.inl g0))), (n2, .inl (cJ2, 60, .inr (.inl g2)))]) (w1 := [(s1, .inr (2, [.int wd1, .int rz1, .ref n1])), (n1, .inl (cJ1, 60, .inr (.inl o0_623))), (s3, .inr (2, [.int wd3, .int rz3, .ref n3])), (n3, .inl (cJ3, 60, .inr (.inl g3)))]) hP hD [3, 7, 5, 9] [0, 1, 2, 4, 6, 8] rfl rfl (by decide) (by decide) hk1 hFc hP1 hD1
                    have hK := (hK.sub (tys' := [(cS, .object RX3), (cJ0, .long), (cJ2, .long)]) [0, 1, 3] rfl).app hK1
                    generalize H1 = H at hP hS ⊢
                    have hP := hP.sub (ws' := [(h0, .inr (7, [.ref tp, .ref sc, .ref rd, .ref cu, .ref im, .ref ig, .ref sl, .ref se, .ref sm, .ref fc])), (sl, .inl (cS, 4, .inr (.inr (.inr (.inr (sf4 s0 s1 s2 s3)))))), (s0, .inr (2, [.int wd0, .int rz0, .ref n0])), (s1, .inr (2, [.int wd1, .int rz1, .ref n1])), (s2, .inr (2, [.int wd2, .int rz2, .ref n2])), (s3, .inr (2, [.int wd3, .int rz3, .ref n3])), (n0, .inl (cJ0, 60, .inr (.inl g0))), (n1, .inl (cJ1, 60, .inr (.inl o0_623))), (n2, .inl (cJ2, 60, .inr (.inl g2))), (n3, .inl (cJ3, 60, .inr (.inl g3)))]) [0, 1, 2, 6, 3, 8, 4, 7, 5, 9] rfl
                    have hD := hD.sub (ws' := [(h0, .inr (7, [.ref tp, .ref sc, .ref rd, .ref cu, .ref im, .ref ig, .ref sl, .ref se, .ref sm, .ref fc])), (sl, .inl (cS, 4, .inr (.inr (.inr (.inr (sf4 s0 s1 s2 s3)))))), (s0, .inr (2, [.int wd0, .int rz0, .ref n0])), (s1, .inr (2, [.int wd1, .int rz1, .ref n1])), (s2, .inr (2, [.int wd2, .int rz2, .ref n2])), (s3, .inr (2, [.int wd3, .int rz3, .ref n3])), (n0, .inl (cJ0, 60, .inr (.inl g0))), (n1, .inl (cJ1, 60, .inr (.inl o0_623))), (n2, .inl (cJ2, 60, .inr (.inl g2))), (n3, .inl (cJ3, 60, .inr (.inl g3)))]) [0, 1, 2, 6, 3, 8, 4, 7, 5, 9] (by decide) rfl
                    have hK := hK.sub (tys' := [(cS, .object RX3), (cJ0, .long), (cJ1, .long), (cJ2, .long), (cJ3, .long)]) [0, 1, 3, 2, 4] rfl
                    have hP : va_P (dC, dI) vwCl [(h0, .inr (7, [.ref tp, .ref sc, .ref rd, .ref cu, .ref im, .ref ig, .ref sl, .ref se, .ref sm, .ref fc])), (sl, .inl (cS, 4, .inr (.inr (.inr (.inr (sf4 s0 s1 s2 s3)))))), (s0, .inr (2, [.int wd0, .int rz0, .ref n0])), (s1, .inr (2, [.int wd1, .int rz1, .ref n1])), (s2, .inr (2, [.int wd2, .int rz2, .ref n2])), (s3, .inr (2, [.int wd3, .int rz3, .ref n3])), (n0, .inl (cJ0, 60, .inr (.inl g0))), (n1, .inl (cJ1, 60, .inr (.inl o0_623))), (n2, .inl (cJ2, 60, .inr (.inl g2))), (n3, .inl (cJ3, 60, .inr (.inl g3)))] H := hP
                    have hD : va_D A [(h0, .inr (7, [.ref tp, .ref sc, .ref rd, .ref cu, .ref im, .ref ig, .ref sl, .ref se, .ref sm, .ref fc])), (sl, .inl (cS, 4, .inr (.inr (.inr (.inr (sf4 s0 s1 s2 s3)))))), (s0, .inr (2, [.int wd0, .int rz0, .ref n0])), (s1, .inr (2, [.int wd1, .int rz1, .ref n1])), (s2, .inr (2, [.int wd2, .int rz2, .ref n2])), (s3, .inr (2, [.int wd3, .int rz3, .ref n3])), (n0, .inl (cJ0, 60, .inr (.inl g0))), (n1, .inl (cJ1, 60, .inr (.inl o0_623))), (n2, .inl (cJ2, 60, .inr (.inl g2))), (n3, .inl (cJ3, 60, .inr (.inl g3)))] := hD
                    have hK : va_K (dC, dI) vwCl [(cS, .object RX3), (cJ0, .long), (cJ1, .long), (cJ2, .long), (cJ3, .long)] s := hK
                    refine lv_iconst (v := 0) hx hb dX9_paste_108 (by decide) ?_
                    have hP9 := hP.sub (ws' := [(h0, .inr (7, [.ref tp, .ref sc, .ref rd, .ref cu, .ref im, .ref ig, .ref sl, .ref se, .ref sm, .ref fc])), (sl, .inl (cS, 4, .inr (.inr (.inr (.inr (sf4 s0 s1 s2 s3)))))), (s0, .inr (2, [.int wd0, .int rz0, .ref n0])), (s1, .inr (2, [.int wd1, .int rz1, .ref n1])), (s2, .inr (2, [.int wd2, .int rz2, .ref n2])), (s3, .inr (2, [.int wd3, .int rz3, .ref n3])), (n0, .inl (cJ0, 60, .inr (.inl g0))), (n1, .inl (cJ1, 60, .inr (.inl o0_623))), (n2, .inl (cJ2, 60, .inr (.inl g2))), (n3, .inl (cJ3, 60, .inr (.inl g3)))]) [0, 1, 2, 3, 4, 5, 6, 7, 8, 9] rfl
                    have hD9 := hD.sub (ws' := [(h0, .inr (7, [.ref tp, .ref sc, .ref rd, .ref cu, .ref im, .ref ig, .ref sl, .ref se, .ref sm, .ref fc])), (sl, .inl (cS, 4, .inr (.inr (.inr (.inr (sf4 s0 s1 s2 s3)))))), (s0, .inr (2, [.int wd0, .int rz0, .ref n0])), (s1, .inr (2, [.int wd1, .int rz1, .ref n1])), (s2, .inr (2, [.int wd2, .int rz2, .ref n2])), (s3, .inr (2, [.int wd3, .int rz3, .ref n3])), (n0, .inl (cJ0, 60, .inr (.inl g0))), (n1, .inl (cJ1, 60, .inr (.inl o0_623))), (n2, .inl (cJ2, 60, .inr (.inl g2))), (n3, .inl (cJ3, 60, .inr (.inl g3)))]) [0, 1, 2, 3, 4, 5, 6, 7, 8, 9] (by decide) rfl
                    have hK9 := hK.sub (tys' := [(cS, .object RX3), (cJ0, .long), (cJ1, .long), (cJ2, .long), (cJ3, .long)]) [0, 1, 2, 3, 4] rfl
                    exact W.iret (v := 0) hx hb hr (fun t ht hW => ⟨⟨0, (), rfl, ⟨(rg_w (by decide : (0 : Int) ≤ (0 : Int32).toInt ∧ (0 : Int32).toInt ≤ 0) (by decide) (by decide)), (ps_0 (j := 3) (t := 1) (by decide) (by decide) (by decide) (by have q1 := hg9_1; unfold RG at q1; have q3 := hg9_3; unfold RG at q3; omega) (by have q1 := hg9_1; unfold RG at q1; have q3 := hg9_3; unfold RG at q3; omega) (by have q1 := hg9_1; unfold RG at q1; have q3 := hg9_3; unfold RG at q3; omega))⟩, g0, o0_623, g2, g3, by rw [ht]; exact hP9, va_K.moved hW.alike hK9, hD9⟩, hS.F ht⟩) hS.2.2 dX9_paste_109
                  ·
                    have n_c_619 : (r_618.toInt : Int) = 0 := c_eq rfl (by decide) c_619
                    have b_r_618 : (0 : Int) ≤ r_618.toInt ∧ r_618.toInt ≤ 0 := r_eq1 b_r_618 (by decide : (0 : Int) ≤ (0 : Int32).toInt ∧ (0 : Int32).toInt ≤ 0) n_c_619 (by decide)
                    have g_624 := zz_r_618 c_619
                    refine lv_bipush (v := (-7)) hx hb dX9_paste_93 (by decide) ?_
                    have hP9 := hP.sub (ws' := [(h0, .inr (7, [.ref tp, .ref sc, .ref rd, .ref cu, .ref im, .ref ig, .ref sl, .ref se, .ref sm, .ref fc])), (sl, .inl (cS, 4, .inr (.inr (.inr (.inr (sf4 s0 s1 s2 s3)))))), (s0, .inr (2, [.int wd0, .int rz0, .ref n0])), (s1, .inr (2, [.int wd1, .int rz1, .ref n1])), (s2, .inr (2, [.int wd2, .int rz2, .ref n2])), (s3, .inr (2, [.int wd3, .int rz3, .ref n3])), (n0, .inl (cJ0, 60, .inr (.inl g0))), (n1, .inl (cJ1, 60, .inr (.inl g1))), (n2, .inl (cJ2, 60, .inr (.inl g2))), (n3, .inl (cJ3, 60, .inr (.inl g3)))]) [0, 1, 2, 3, 4, 5, 6, 7, 8, 9] rfl
                    have hD9 := hD.sub (ws' := [(h0, .inr (7, [.ref tp, .ref sc, .ref rd, .ref cu, .ref im, .ref ig, .ref sl, .ref se, .ref sm, .ref fc])), (sl, .inl (cS, 4, .inr (.inr (.inr (.inr (sf4 s0 s1 s2 s3)))))), (s0, .inr (2, [.int wd0, .int rz0, .ref n0])), (s1, .inr (2, [.int wd1, .int rz1, .ref n1])), (s2, .inr (2, [.int wd2, .int rz2, .ref n2])), (s3, .inr (2, [.int wd3, .int rz3, .ref n3])), (n0, .inl (cJ0, 60, .inr (.inl g0))), (n1, .inl (cJ1, 60, .inr (.inl g1))), (n2, .inl (cJ2, 60, .inr (.inl g2))), (n3, .inl (cJ3, 60, .inr (.inl g3)))]) [0, 1, 2, 3, 4, 5, 6, 7, 8, 9] (by decide) rfl
                    have hK9 := hK.sub (tys' := [(cS, .object RX3), (cJ0, .long), (cJ1, .long), (cJ2, .long), (cJ3, .long)]) [0, 1, 2, 3, 4] rfl
                    exact W.iret (v := (-7)) hx hb hr (fun t ht hW => ⟨⟨(-7), (), rfl, ⟨(rg_w (by decide : (-7 : Int) ≤ ((-7) : Int32).toInt ∧ ((-7) : Int32).toInt ≤ -7) (by decide) (by decide)), (ps_7 (j := 3) (t := 1) (by decide) (by decide) (by decide) (by have q1 := hg9_1; unfold RG at q1; have q3 := hg9_3; unfold RG at q3; omega) (by have q1 := hg9_1; unfold RG at q1; have q3 := hg9_3; unfold RG at q3; omega) (by have q1 := hg9_1; unfold RG at q1; have q3 := hg9_3; unfold RG at q3; omega))⟩, g0, g1, g2, g3, by rw [ht]; exact hP9, va_K.moved hW.alike hK9, hD9⟩, hS.F ht⟩) hS.2.2 dX9_paste_95
              ·
                have n_c_613 : (wd3.toInt : Int) ≠ wd1.toInt := c_ne rfl rfl c_613
                refine lv_bipush (v := (-8)) hx hb dX9_paste_67 (by decide) ?_
                have hP9 := hP.sub (ws' := [(h0, .inr (7, [.ref tp, .ref sc, .ref rd, .ref cu, .ref im, .ref ig, .ref sl, .ref se, .ref sm, .ref fc])), (sl, .inl (cS, 4, .inr (.inr (.inr (.inr (sf4 s0 s1 s2 s3)))))), (s0, .inr (2, [.int wd0, .int rz0, .ref n0])), (s1, .inr (2, [.int wd1, .int rz1, .ref n1])), (s2, .inr (2, [.int wd2, .int rz2, .ref n2])), (s3, .inr (2, [.int wd3, .int rz3, .ref n3])), (n0, .inl (cJ0, 60, .inr (.inl g0))), (n1, .inl (cJ1, 60, .inr (.inl g1))), (n2, .inl (cJ2, 60, .inr (.inl g2))), (n3, .inl (cJ3, 60, .inr (.inl g3)))]) [0, 1, 2, 3, 4, 5, 6, 7, 8, 9] rfl
                have hD9 := hD.sub (ws' := [(h0, .inr (7, [.ref tp, .ref sc, .ref rd, .ref cu, .ref im, .ref ig, .ref sl, .ref se, .ref sm, .ref fc])), (sl, .inl (cS, 4, .inr (.inr (.inr (.inr (sf4 s0 s1 s2 s3)))))), (s0, .inr (2, [.int wd0, .int rz0, .ref n0])), (s1, .inr (2, [.int wd1, .int rz1, .ref n1])), (s2, .inr (2, [.int wd2, .int rz2, .ref n2])), (s3, .inr (2, [.int wd3, .int rz3, .ref n3])), (n0, .inl (cJ0, 60, .inr (.inl g0))), (n1, .inl (cJ1, 60, .inr (.inl g1))), (n2, .inl (cJ2, 60, .inr (.inl g2))), (n3, .inl (cJ3, 60, .inr (.inl g3)))]) [0, 1, 2, 3, 4, 5, 6, 7, 8, 9] (by decide) rfl
                have hK9 := hK.sub (tys' := [(cS, .object RX3), (cJ0, .long), (cJ1, .long), (cJ2, .long), (cJ3, .long)]) [0, 1, 2, 3, 4] rfl
                exact W.iret (v := (-8)) hx hb hr (fun t ht hW => ⟨⟨(-8), (), rfl, ⟨(rg_w (by decide : (-8 : Int) ≤ ((-8) : Int32).toInt ∧ ((-8) : Int32).toInt ≤ -8) (by decide) (by decide)), (ps_8 (j := 3) (t := 1) (by decide) (by decide) (by decide) (by have q1 := hg9_1; unfold RG at q1; have q3 := hg9_3; unfold RG at q3; omega) (by have q1 := hg9_1; unfold RG at q1; have q3 := hg9_3; unfold RG at q3; omega))⟩, g0, g1, g2, g3, by rw [ht]; exact hP9, va_K.moved hW.alike hK9, hD9⟩, hS.F ht⟩) hS.2.2 dX9_paste_69
            ·
              have n_c_611 : (r_610.toInt : Int) = 0 := c_eq rfl (by decide) c_611
              have b_r_610 : (0 : Int) ≤ r_610.toInt ∧ r_610.toInt ≤ 0 := r_eq1 b_r_610 (by decide : (0 : Int) ≤ (0 : Int32).toInt ∧ (0 : Int32).toInt ≤ 0) n_c_611 (by decide)
              have g_625 := zz_r_610 c_611
              refine lv_bipush (v := (-6)) hx hb dX9_paste_51 (by decide) ?_
              have hP9 := hP.sub (ws' := [(h0, .inr (7, [.ref tp, .ref sc, .ref rd, .ref cu, .ref im, .ref ig, .ref sl, .ref se, .ref sm, .ref fc])), (sl, .inl (cS, 4, .inr (.inr (.inr (.inr (sf4 s0 s1 s2 s3)))))), (s0, .inr (2, [.int wd0, .int rz0, .ref n0])), (s1, .inr (2, [.int wd1, .int rz1, .ref n1])), (s2, .inr (2, [.int wd2, .int rz2, .ref n2])), (s3, .inr (2, [.int wd3, .int rz3, .ref n3])), (n0, .inl (cJ0, 60, .inr (.inl g0))), (n1, .inl (cJ1, 60, .inr (.inl g1))), (n2, .inl (cJ2, 60, .inr (.inl g2))), (n3, .inl (cJ3, 60, .inr (.inl g3)))]) [0, 1, 2, 3, 4, 5, 6, 7, 8, 9] rfl
              have hD9 := hD.sub (ws' := [(h0, .inr (7, [.ref tp, .ref sc, .ref rd, .ref cu, .ref im, .ref ig, .ref sl, .ref se, .ref sm, .ref fc])), (sl, .inl (cS, 4, .inr (.inr (.inr (.inr (sf4 s0 s1 s2 s3)))))), (s0, .inr (2, [.int wd0, .int rz0, .ref n0])), (s1, .inr (2, [.int wd1, .int rz1, .ref n1])), (s2, .inr (2, [.int wd2, .int rz2, .ref n2])), (s3, .inr (2, [.int wd3, .int rz3, .ref n3])), (n0, .inl (cJ0, 60, .inr (.inl g0))), (n1, .inl (cJ1, 60, .inr (.inl g1))), (n2, .inl (cJ2, 60, .inr (.inl g2))), (n3, .inl (cJ3, 60, .inr (.inl g3)))]) [0, 1, 2, 3, 4, 5, 6, 7, 8, 9] (by decide) rfl
              have hK9 := hK.sub (tys' := [(cS, .object RX3), (cJ0, .long), (cJ1, .long), (cJ2, .long), (cJ3, .long)]) [0, 1, 2, 3, 4] rfl
              exact W.iret (v := (-6)) hx hb hr (fun t ht hW => ⟨⟨(-6), (), rfl, ⟨(rg_w (by decide : (-6 : Int) ≤ ((-6) : Int32).toInt ∧ ((-6) : Int32).toInt ≤ -6) (by decide) (by decide)), (ps_6 (j := 3) (t := 1) (by decide) (by decide) (by decide) (by have q1 := hg9_1; unfold RG at q1; have q3 := hg9_3; unfold RG at q3; omega))⟩, g0, g1, g2, g3, by rw [ht]; exact hP9, va_K.moved hW.alike hK9, hD9⟩, hS.F ht⟩) hS.2.2 dX9_paste_53
        ·
          obtain rfl : a3 = 2 := Int32.toInt_inj.mp (h_585.trans (by decide))
          refine va_aldq hx hb hK hP 1 0 rfl rfl (vp_in_b (by decide : (2 : Int) ≤ (2 : Int32).toInt ∧ (2 : Int32).toInt ≤ 2) (by decide) (by decide)) dX9_paste_32 ?_
          refine W.eq (g2 := F0 m 33 ls (.ref s2 :: [])) (congrArg (fun v => F0 m 33 ls (va_rf v :: [])) (sf4_2 s0 s1 s2 s3)) ?_
          refine lv_astore (lv' := [(7, .ref s2), (6, .ref s3), (0, .ref h0), (1, .int 3), (2, .int a2), (3, .int 2), (4, .int a4), (5, .int a5)]) hx hb dX9_paste_33 hl (by decide) rfl (fun ls hl => ?_)
          refine lv_aload hx hb dX9_paste_35 (lv_at hl 1 rfl) ?_
          refine vp_callSi (W.runV (As := []) (rest := []) ⟨hx, hb, hml, hown, hts⟩ (kX3_stands2 l dC dI s3 wd3 rz3 n3 b_wd3 b_rz3) (cwV 0 hts gX9_pasteF__X3_stands2_V270 rfl rfl rfl hd_yX3_stands ⟨lel 1 2 rfl, lel 20 88 rfl⟩) ⟨pw_fb, rcv_X3 hK hP (q0 := 5) rfl, (pw_use hP hK hN [5] rfl [] rfl)⟩ rfl rfl hl.1 rfl (lv_room (Nat.le_of_ble_eq_true rfl)) dX9_paste_37 ⟨lel 0 0 rfl, lel 0 0 rfl⟩) (fun r_626 h_r_626 => ?_)
          obtain ⟨b_r_626, nz_r_626, zz_r_626⟩ := h_r_626
          have b_r_626 : (0 : Int) ≤ r_626.toInt ∧ r_626.toInt ≤ 1 := b_r_626
          refine lv_if_eq (tgt := 51) hx hb dX9_paste_40 (by decide) (fun c_627 => ?_) (fun c_627 => ?_)
          ·
            have n_c_627 : (r_626.toInt : Int) = 0 := c_eq rfl (by decide) c_627
            have b_r_626 : (0 : Int) ≤ r_626.toInt ∧ r_626.toInt ≤ 0 := r_eq1 b_r_626 (by decide : (0 : Int) ≤ (0 : Int32).toInt ∧ (0 : Int32).toInt ≤ 0) n_c_627 (by decide)
            have g_628 := zz_r_626 c_627
            refine lv_bipush (v := (-6)) hx hb dX9_paste_51 (by decide) ?_
            have hP9 := hP.sub (ws' := [(h0, .inr (7, [.ref tp, .ref sc, .ref rd, .ref cu, .ref im, .ref ig, .ref sl, .ref se, .ref sm, .ref fc])), (sl, .inl (cS, 4, .inr (.inr (.inr (.inr (sf4 s0 s1 s2 s3)))))), (s0, .inr (2, [.int wd0, .int rz0, .ref n0])), (s1, .inr (2, [.int wd1, .int rz1, .ref n1])), (s2, .inr (2, [.int wd2, .int rz2, .ref n2])), (s3, .inr (2, [.int wd3, .int rz3, .ref n3])), (n0, .inl (cJ0, 60, .inr (.inl g0))), (n1, .inl (cJ1, 60, .inr (.inl g1))), (n2, .inl (cJ2, 60, .inr (.inl g2))), (n3, .inl (cJ3, 60, .inr (.inl g3)))]) [0, 1, 2, 3, 4, 5, 6, 7, 8, 9] rfl
            have hD9 := hD.sub (ws' := [(h0, .inr (7, [.ref tp, .ref sc, .ref rd, .ref cu, .ref im, .ref ig, .ref sl, .ref se, .ref sm, .ref fc])), (sl, .inl (cS, 4, .inr (.inr (.inr (.inr (sf4 s0 s1 s2 s3)))))), (s0, .inr (2, [.int wd0, .int rz0, .ref n0])), (s1, .inr (2, [.int wd1, .int rz1, .ref n1])), (s2, .inr (2, [.int wd2, .int rz2, .ref n2])), (s3, .inr (2, [.int wd3, .int rz3, .ref n3])), (n0, .inl (cJ0, 60, .inr (.inl g0))), (n1, .inl (cJ1, 60, .inr (.inl g1))), (n2, .inl (cJ2, 60, .inr (.inl g2))), (n3, .inl (cJ3, 60, .inr (.inl g3)))]) [0, 1, 2, 3, 4, 5, 6, 7, 8, 9] (by decide) rfl
            have hK9 := hK.sub (tys' := [(cS, .object RX3), (cJ0, .long), (cJ1, .long), (cJ2, .long), (cJ3, .long)]) [0, 1, 2, 3, 4] rfl
            exact W.iret (v := (-6)) hx hb hr (fun t ht hW => ⟨⟨(-6), (), rfl, ⟨(rg_w (by decide : (-6 : Int) ≤ ((-6) : Int32).toInt ∧ ((-6) : Int32).toInt ≤ -6) (by decide) (by decide)), (ps_6 (j := 3) (t := 2) (by decide) (by decide) (by decide) (by have q2 := hg9_2; unfold RG at q2; have q3 := hg9_3; unfold RG at q3; omega))⟩, g0, g1, g2, g3, by rw [ht]; exact hP9, va_K.moved hW.alike hK9, hD9⟩, hS.F ht⟩) hS.2.2 dX9_paste_53
          ·
            have n_c_627 : (r_626.toInt : Int) ≠ 0 := c_ne rfl (by decide) c_627
            have b_r_626 : (1 : Int) ≤ r_626.toInt ∧ r_626.toInt ≤ 1 := r_ne1 b_r_626 (by decide : (0 : Int) ≤ (0 : Int32).toInt ∧ (0 : Int32).toInt ≤ 0) n_c_627 (by decide)
            obtain ⟨b_wd3, g_629⟩ := nz_r_626 c_627
            refine lv_aload hx hb dX9_paste_43 (lv_at hl 0 rfl) ?_
            refine vp_callSi (W.runV (As := []) (rest := []) ⟨hx, hb, hml, hown, hts⟩ (kX3_stands2 l dC dI s2 wd2 rz2 n2 b_wd2 b_rz2) (cwV 0 hts gX9_pasteF__X3_stands2_V270 rfl rfl rfl hd_yX3_stands ⟨lel 1 2 rfl, lel 20 88 rfl⟩) ⟨pw_fb, rcv_X3 hK hP (q0 := 4) rfl, (pw_use hP hK hN [4] rfl [] rfl)⟩ rfl rfl hl.1 rfl (lv_room (Nat.le_of_ble_eq_true rfl)) dX9_paste_45 ⟨lel 0 0 rfl, lel 0 0 rfl⟩) (fun r_630 h_r_630 => ?_)
            obtain ⟨b_r_630, nz_r_630, zz_r_630⟩ := h_r_630
            have b_r_630 : (0 : Int) ≤ r_630.toInt ∧ r_630.toInt ≤ 1 := b_r_630
            refine lv_if_ne (tgt := 54) hx hb dX9_paste_48 (by decide) (fun c_631 => ?_) (fun c_631 => ?_)
            ·
              have n_c_631 : (r_630.toInt : Int) ≠ 0 := c_ne rfl (by decide) c_631
              have b_r_630 : (1 : Int) ≤ r_630.toInt ∧ r_630.toInt ≤ 1 := r_ne1 b_r_630 (by decide : (0 : Int) ≤ (0 : Int32).toInt ∧ (0 : Int32).toInt ≤ 0) n_c_631 (by decide)
              obtain ⟨b_wd2, g_632⟩ := nz_r_630 c_631
              refine lv_aload hx hb dX9_paste_54 (lv_at hl 1 rfl) ?_
              refine va_getN (own := RX9) (index := 350) (ref := RX3) (host := RX9) (D := (dC, dI)) (ci := 2) (v := .int wd3) (C := RX3) (T := TX3) (N := 3) hx hb hts iX9_pasteF_X3 hown hK hP 5 rfl rfl 0 (by decide) (va_Nw.use rfl (hN _ (List.mem_of_getElem? (i := 21) rfl))) (fun _ h9 => h9) rfl dX9_paste_56 ?_
              refine lv_aload hx hb dX9_paste_59 (lv_at hl 0 rfl) ?_
              refine va_getN (own := RX9) (index := 350) (ref := RX3) (host := RX9) (D := (dC, dI)) (ci := 2) (v := .int wd2) (C := RX3) (T := TX3) (N := 3) hx hb hts iX9_pasteF_X3 hown hK hP 4 rfl rfl 0 (by decide) (va_Nw.use rfl (hN _ (List.mem_of_getElem? (i := 21) rfl))) (fun _ h9 => h9) rfl dX9_paste_61 ?_
              refine lv_icmp_eq (tgt := 70) hx hb dX9_paste_64 (by decide) (fun c_633 => ?_) (fun c_633 => ?_)
              ·
                have n_c_633 : (wd3.toInt : Int) = wd2.toInt := c_eq rfl rfl c_633
                refine lv_aload hx hb dX9_paste_70 (lv_at hl 1 rfl) ?_
                refine lv_iload_n hx hb dX9_paste_72 rfl (lv_at hl 4 rfl) ?_
                refine lv_iload hx hb dX9_paste_73 (lv_at hl 7 rfl) ?_
                refine vp_callSi (W.runV (As := [.int a2, .int a5]) (rest := []) ⟨hx, hb, hml, hown, hts⟩ (kX3_hasStretch2 l dC dI s3 wd3 rz3 n3 a2 a5 (rg_w b_wd3 (by decide) (by decide)) b_rz3) (cwV 2 hts gX9_pasteF__X3_hasStretch2_V343 rfl rfl rfl hd_yX3_hasStretch ⟨lel 1 2 rfl, lel 22 88 rfl⟩) ⟨pw_fb, rcv_X3 hK hP (q0 := 5) rfl, (pw_use hP hK hN [5] rfl [] rfl)⟩ rfl rfl hl.1 rfl (lv_room (Nat.le_of_ble_eq_true rfl)) dX9_paste_75 ⟨lel 0 0 rfl, lel 0 0 rfl⟩) (fun r_634 h_r_634 => ?_)
                obtain ⟨b_r_634, nz_r_634, zz_r_634⟩ := h_r_634
                have b_r_634 : (0 : Int) ≤ r_634.toInt ∧ r_634.toInt ≤ 1 := b_r_634
                refine lv_if_eq (tgt := 93) hx hb dX9_paste_78 (by decide) (fun c_635 => ?_) (fun c_635 => ?_)
                ·
                  have n_c_635 : (r_634.toInt : Int) = 0 := c_eq rfl (by decide) c_635
                  have b_r_634 : (0 : Int) ≤ r_634.toInt ∧ r_634.toInt ≤ 0 := r_eq1 b_r_634 (by decide : (0 : Int) ≤ (0 : Int32).toInt ∧ (0 : Int32).toInt ≤ 0) n_c_635 (by decide)
                  have g_636 := zz_r_634 c_635
                  refine lv_bipush (v := (-7)) hx hb dX9_paste_93 (by decide) ?_
                  have hP9 := hP.sub (ws' := [(h0, .inr (7, [.ref tp, .ref sc, .ref rd, .ref cu, .ref im, .ref ig, .ref sl, .ref se, .ref sm, .ref fc])), (sl, .inl (cS, 4, .inr (.inr (.inr (.inr (sf4 s0 s1 s2 s3)))))), (s0, .inr (2, [.int wd0, .int rz0, .ref n0])), (s1, .inr (2, [.int wd1, .int rz1, .ref n1])), (s2, .inr (2, [.int wd2, .int rz2, .ref n2])), (s3, .inr (2, [.int wd3, .int rz3, .ref n3])), (n0, .inl (cJ0, 60, .inr (.inl g0))), (n1, .inl (cJ1, 60, .inr (.inl g1))), (n2, .inl (cJ2, 60, .inr (.inl g2))), (n3, .inl (cJ3, 60, .inr (.inl g3)))]) [0, 1, 2, 3, 4, 5, 6, 7, 8, 9] rfl
                  have hD9 := hD.sub (ws' := [(h0, .inr (7, [.ref tp, .ref sc, .ref rd, .ref cu, .ref im, .ref ig, .ref sl, .ref se, .ref sm, .ref fc])), (sl, .inl (cS, 4, .inr (.inr (.inr (.inr (sf4 s0 s1 s2 s3)))))), (s0, .inr (2, [.int wd0, .int rz0, .ref n0])), (s1, .inr (2, [.int wd1, .int rz1, .ref n1])), (s2, .inr (2, [.int wd2, .int rz2, .ref n2])), (s3, .inr (2, [.int wd3, .int rz3, .ref n3])), (n0, .inl (cJ0, 60, .inr (.inl g0))), (n1, .inl (cJ1, 60, .inr (.inl g1))), (n2, .inl (cJ2, 60, .inr (.inl g2))), (n3, .inl (cJ3, 60, .inr (.inl g3)))]) [0, 1, 2, 3, 4, 5, 6, 7, 8, 9] (by decide) rfl
                  have hK9 := hK.sub (tys' := [(cS, .object RX3), (cJ0, .long), (cJ1, .long), (cJ2, .long), (cJ3, .long)]) [0, 1, 2, 3, 4] rfl
                  exact W.iret (v := (-7)) hx hb hr (fun t ht hW => ⟨⟨(-7), (), rfl, ⟨(rg_w (by decide : (-7 : Int) ≤ ((-7) : Int32).toInt ∧ ((-7) : Int32).toInt ≤ -7) (by decide) (by decide)), (ps_7 (j := 3) (t := 2) (by decide) (by decide) (by decide) (by have q2 := hg9_2; unfold RG at q2; have q3 := hg9_3; unfold RG at q3; omega) (by have q2 := hg9_2; unfold RG at q2; have q3 := hg9_3; unfold RG at q3; omega) (by have q2 := hg9_2; unfold RG at q2; have q3 := hg9_3; unfold RG at q3; omega))⟩, g0, g1, g2, g3, by rw [ht]; exact hP9, va_K.moved hW.alike hK9, hD9⟩, hS.F ht⟩) hS.2.2 dX9_paste_95
                ·
                  have n_c_635 : (r_634.toInt : Int) ≠ 0 := c_ne rfl (by decide) c_635
                  have b_r_634 : (1 : Int) ≤ r_634.toInt ∧ r_634.toInt ≤ 1 := r_ne1 b_r_634 (by decide : (0 : Int) ≤ (0 : Int32).toInt ∧ (0 : Int32).toInt ≤ 0) n_c_635 (by decide)
                  obtain ⟨b_a2, b_a5, g_637⟩ := nz_r_634 c_635
                  refine lv_aload hx hb dX9_paste_81 (lv_at hl 0 rfl) ?_
                  refine lv_iload hx hb dX9_paste_83 (lv_at hl 6 rfl) ?_
                  refine lv_iload hx hb dX9_paste_85 (lv_at hl 7 rfl) ?_
                  refine vp_callSi (W.runV (As := [.int a4, .int a5]) (rest := []) ⟨hx, hb, hml, hown, hts⟩ (kX3_hasStretch2 l dC dI s2 wd2 rz2 n2 a4 a5 (rg_w b_wd2 (by decide) (by decide)) b_rz2) (cwV 2 hts gX9_pasteF__X3_hasStretch2_V343 rfl rfl rfl hd_yX3_hasStretch ⟨lel 1 2 rfl, lel 22 88 rfl⟩) ⟨pw_fb, rcv_X3 hK hP (q0 := 4) rfl, (pw_use hP hK hN [4] rfl [] rfl)⟩ rfl rfl hl.1 rfl (lv_room (Nat.le_of_ble_eq_true rfl)) dX9_paste_87 ⟨lel 0 0 rfl, lel 0 0 rfl⟩) (fun r_638 h_r_638 => ?_)
                  obtain ⟨b_r_638, nz_r_638, zz_r_638⟩ := h_r_638
                  have b_r_638 : (0 : Int) ≤ r_638.toInt ∧ r_638.toInt ≤ 1 := b_r_638
                  refine lv_if_ne (tgt := 96) hx hb dX9_paste_90 (by decide) (fun c_639 => ?_) (fun c_639 => ?_)
                  ·
                    have n_c_639 : (r_638.toInt : Int) ≠ 0 := c_ne rfl (by decide) c_639
                    have b_r_638 : (1 : Int) ≤ r_638.toInt ∧ r_638.toInt ≤ 1 := r_ne1 b_r_638 (by decide : (0 : Int) ≤ (0 : Int32).toInt ∧ (0 : Int32).toInt ≤ 0) n_c_639 (by decide)
                    obtain ⟨b_a4, b_a5, g_640⟩ := nz_r_638 c_639
                    refine lv_aload hx hb dX9_paste_96 (lv_at hl 0 rfl) ?_
                    refine lv_iload hx hb dX9_paste_98 (lv_at hl 6 rfl) ?_
                    refine lv_aload hx hb dX9_paste_100 (lv_at hl 1 rfl) ?_
                    refine lv_iload_n hx hb dX9_paste_102 rfl (lv_at hl 4 rfl) ?_
                    refine lv_iload hx hb dX9_paste_103 (lv_at hl 7 rfl) ?_
                    have hFc := va_free (wc := [(s2, .inr (2, [.int wd2, .int rz2, .ref n2])), (n2, .inl (cJ2, 60, .inr (.inl g2))), (s3, .inr (2, [.int wd3, .int rz3, .ref n3])), (n3, .inl (cJ3, 60, .inr (.inl g3)))]) hD hS hA [4, 8, 5, 9] rfl
                    refine va_callv (va_runV (As := [.int a4, .ref s3, .int a2, .int a5]) (rest := []) ⟨hx, hb, hml, hown, hts⟩ (kX3_take l dC dI s2 wd2 rz2 n2 cJ2 g2 s3 wd3 rz3 n3 cJ3 g3 a4 a2 a5 (s.heap.size) (rg_w b_wd2 (by decide) (by decide)) b_rz2 (rg_w b_wd3 (by decide) (by decide)) b_rz3) (cwV 4 hts gX9_pasteF__X3_take_V353 rfl rfl rfl hd_yX3_take ⟨lel 2 2 rfl, lel 88 88 rfl⟩) ⟨hw_fb, rcv_X3 hK hP (q0 := 4) rfl, (hw_use hP hD hK hN [4, 8, 5, 9] rfl (by decide) rfl [3, 4] rfl)⟩ rfl rfl hl.1 rfl (lv_room (Nat.le_of_ble_eq_true rfl)) dX9_paste_105 ⟨lel 0 0 rfl, lel 0 0 rfl⟩) hS (fun q _ h => hFc q h) hFc (fun u_642 t H1 locs ht hvm hw_r_641 hB hz1 hk1 hS => ?_)
                    obtain ⟨o0_643, hP1, hK1, hD1⟩ := hB
                    rw [ht] at hP1
                    have hK1 := va_K.moved hvm.symm hK1
                    obtain ⟨hP, hD⟩ := va_join (wr := [(h0, .inr (7, [.ref tp, .ref sc, .ref rd, .ref cu, .ref im, .ref ig, .ref sl, .ref se, .ref sm, .ref fc])), (sl, .inl (cS, 4, .inr (.inr (.inr (.inr (sf4 s0 s1 s2 s3)))))), (s0, .inr (2, [.int wd0, .int rz0, .ref n0])), (s1, .inr (2, [.int wd1, .int rz1, .ref n1])), (n0, .inl (cJ0, 60, .inr (.inl g0))), (n1, .inl (cJ1, 60, .inr (.inl g1)))]) (w1 := [(s2, .inr (2, [.int wd2, .int rz2, .ref n2])), (n2, .inl (cJ2, 60, .inr (.inl o0_643))), (s3, .inr (2, [.int wd3, .int rz3, .ref n3])), (n3, .inl (cJ3, 60, .inr (.inl g3)))]) hP hD [4, 8, 5, 9] [0, 1, 2, 3, 6, 7] rfl rfl (by decide) (by decide) hk1 hFc hP1 hD1
                    have hK := (hK.sub (tys' := [(cS, .object RX3), (cJ0, .long), (cJ1, .long)]) [0, 1, 2] rfl).app hK1
                    generalize H1 = H at hP hS ⊢
                    have hP := hP.sub (ws' := [(h0, .inr (7, [.ref tp, .ref sc, .ref rd, .ref cu, .ref im, .ref ig, .ref sl, .ref se, .ref sm, .ref fc])), (sl, .inl (cS, 4, .inr (.inr (.inr (.inr (sf4 s0 s1 s2 s3)))))), (s0, .inr (2, [.int wd0, .int rz0, .ref n0])), (s1, .inr (2, [.int wd1, .int rz1, .ref n1])), (s2, .inr (2, [.int wd2, .int rz2, .ref n2])), (s3, .inr (2, [.int wd3, .int rz3, .ref n3])), (n0, .inl (cJ0, 60, .inr (.inl g0))), (n1, .inl (cJ1, 60, .inr (.inl g1))), (n2, .inl (cJ2, 60, .inr (.inl o0_643))), (n3, .inl (cJ3, 60, .inr (.inl g3)))]) [0, 1, 2, 3, 6, 8, 4, 5, 7, 9] rfl
                    have hD := hD.sub (ws' := [(h0, .inr (7, [.ref tp, .ref sc, .ref rd, .ref cu, .ref im, .ref ig, .ref sl, .ref se, .ref sm, .ref fc])), (sl, .inl (cS, 4, .inr (.inr (.inr (.inr (sf4 s0 s1 s2 s3)))))), (s0, .inr (2, [.int wd0, .int rz0, .ref n0])), (s1, .inr (2, [.int wd1, .int rz1, .ref n1])), (s2, .inr (2, [.int wd2, .int rz2, .ref n2])), (s3, .inr (2, [.int wd3, .int rz3, .ref n3])), (n0, .inl (cJ0, 60, .inr (.inl g0))), (n1, .inl (cJ1, 60, .inr (.inl g1))), (n2, .inl (cJ2, 60, .inr (.inl o0_643))), (n3, .inl (cJ3, 60, .inr (.inl g3)))]) [0, 1, 2, 3, 6, 8, 4, 5, 7, 9] (by decide) rfl
                    have hP : va_P (dC, dI) vwCl [(h0, .inr (7, [.ref tp, .ref sc, .ref rd, .ref cu, .ref im, .ref ig, .ref sl, .ref se, .ref sm, .ref fc])), (sl, .inl (cS, 4, .inr (.inr (.inr (.inr (sf4 s0 s1 s2 s3)))))), (s0, .inr (2, [.int wd0, .int rz0, .ref n0])), (s1, .inr (2, [.int wd1, .int rz1, .ref n1])), (s2, .inr (2, [.int wd2, .int rz2, .ref n2])), (s3, .inr (2, [.int wd3, .int rz3, .ref n3])), (n0, .inl (cJ0, 60, .inr (.inl g0))), (n1, .inl (cJ1, 60, .inr (.inl g1))), (n2, .inl (cJ2, 60, .inr (.inl o0_643))), (n3, .inl (cJ3, 60, .inr (.inl g3)))] H := hP
                    have hD : va_D A [(h0, .inr (7, [.ref tp, .ref sc, .ref rd, .ref cu, .ref im, .ref ig, .ref sl, .ref se, .ref sm, .ref fc])), (sl, .inl (cS, 4, .inr (.inr (.inr (.inr (sf4 s0 s1 s2 s3)))))), (s0, .inr (2, [.int wd0, .int rz0, .ref n0])), (s1, .inr (2, [.int wd1, .int rz1, .ref n1])), (s2, .inr (2, [.int wd2, .int rz2, .ref n2])), (s3, .inr (2, [.int wd3, .int rz3, .ref n3])), (n0, .inl (cJ0, 60, .inr (.inl g0))), (n1, .inl (cJ1, 60, .inr (.inl g1))), (n2, .inl (cJ2, 60, .inr (.inl o0_643))), (n3, .inl (cJ3, 60, .inr (.inl g3)))] := hD
                    have hK : va_K (dC, dI) vwCl [(cS, .object RX3), (cJ0, .long), (cJ1, .long), (cJ2, .long), (cJ3, .long)] s := hK
                    refine lv_iconst (v := 0) hx hb dX9_paste_108 (by decide) ?_
                    have hP9 := hP.sub (ws' := [(h0, .inr (7, [.ref tp, .ref sc, .ref rd, .ref cu, .ref im, .ref ig, .ref sl, .ref se, .ref sm, .ref fc])), (sl, .inl (cS, 4, .inr (.inr (.inr (.inr (sf4 s0 s1 s2 s3)))))), (s0, .inr (2, [.int wd0, .int rz0, .ref n0])), (s1, .inr (2, [.int wd1, .int rz1, .ref n1])), (s2, .inr (2, [.int wd2, .int rz2, .ref n2])), (s3, .inr (2, [.int wd3, .int rz3, .ref n3])), (n0, .inl (cJ0, 60, .inr (.inl g0))), (n1, .inl (cJ1, 60, .inr (.inl g1))), (n2, .inl (cJ2, 60, .inr (.inl o0_643))), (n3, .inl (cJ3, 60, .inr (.inl g3)))]) [0, 1, 2, 3, 4, 5, 6, 7, 8, 9] rfl
                    have hD9 := hD.sub (ws' := [(h0, .inr (7, [.ref tp, .ref sc, .ref rd, .ref cu, .ref im, .ref ig, .ref sl, .ref se, .ref sm, .ref fc])), (sl, .inl (cS, 4, .inr (.inr (.inr (.inr (sf4 s0 s1 s2 s3)))))), (s0, .inr (2, [.int wd0, .int rz0, .ref n0])), (s1, .inr (2, [.int wd1, .int rz1, .ref n1])), (s2, .inr (2, [.int wd2, .int rz2, .ref n2])), (s3, .inr (2, [.int wd3, .int rz3, .ref n3])), (n0, .inl (cJ0, 60, .inr (.inl g0))), (n1, .inl (cJ1, 60, .inr (.inl g1))), (n2, .inl (cJ2, 60, .inr (.inl o0_643))), (n3, .inl (cJ3, 60, .inr (.inl g3)))]) [0, 1, 2, 3, 4, 5, 6, 7, 8, 9] (by decide) rfl
                    have hK9 := hK.sub (tys' := [(cS, .object RX3), (cJ0, .long), (cJ1, .long), (cJ2, .long), (cJ3, .long)]) [0, 1, 2, 3, 4] rfl
                    exact W.iret (v := 0) hx hb hr (fun t ht hW => ⟨⟨0, (), rfl, ⟨(rg_w (by decide : (0 : Int) ≤ (0 : Int32).toInt ∧ (0 : Int32).toInt ≤ 0) (by decide) (by decide)), (ps_0 (j := 3) (t := 2) (by decide) (by decide) (by decide) (by have q2 := hg9_2; unfold RG at q2; have q3 := hg9_3; unfold RG at q3; omega) (by have q2 := hg9_2; unfold RG at q2; have q3 := hg9_3; unfold RG at q3; omega) (by have q2 := hg9_2; unfold RG at q2; have q3 := hg9_3; unfold RG at q3; omega))⟩, g0, g1, o0_643, g3, by rw [ht]; exact hP9, va_K.moved hW.alike hK9, hD9⟩, hS.F ht⟩) hS.2.2 dX9_paste_109
                  ·
                    have n_c_639 : (r_638.toInt : Int) = 0 := c_eq rfl (by decide) c_639
                    have b_r_638 : (0 : Int) ≤ r_638.toInt ∧ r_638.toInt ≤ 0 := r_eq1 b_r_638 (by decide : (0 : Int) ≤ (0 : Int32).toInt ∧ (0 : Int32).toInt ≤ 0) n_c_639 (by decide)
                    have g_644 := zz_r_638 c_639
                    refine lv_bipush (v := (-7)) hx hb dX9_paste_93 (by decide) ?_
                    have hP9 := hP.sub (ws' := [(h0, .inr (7, [.ref tp, .ref sc, .ref rd, .ref cu, .ref im, .ref ig, .ref sl, .ref se, .ref sm, .ref fc])), (sl, .inl (cS, 4, .inr (.inr (.inr (.inr (sf4 s0 s1 s2 s3)))))), (s0, .inr (2, [.int wd0, .int rz0, .ref n0])), (s1, .inr (2, [.int wd1, .int rz1, .ref n1])), (s2, .inr (2, [.int wd2, .int rz2, .ref n2])), (s3, .inr (2, [.int wd3, .int rz3, .ref n3])), (n0, .inl (cJ0, 60, .inr (.inl g0))), (n1, .inl (cJ1, 60, .inr (.inl g1))), (n2, .inl (cJ2, 60, .inr (.inl g2))), (n3, .inl (cJ3, 60, .inr (.inl g3)))]) [0, 1, 2, 3, 4, 5, 6, 7, 8, 9] rfl
                    have hD9 := hD.sub (ws' := [(h0, .inr (7, [.ref tp, .ref sc, .ref rd, .ref cu, .ref im, .ref ig, .ref sl, .ref se, .ref sm, .ref fc])), (sl, .inl (cS, 4, .inr (.inr (.inr (.inr (sf4 s0 s1 s2 s3)))))), (s0, .inr (2, [.int wd0, .int rz0, .ref n0])), (s1, .inr (2, [.int wd1, .int rz1, .ref n1])), (s2, .inr (2, [.int wd2, .int rz2, .ref n2])), (s3, .inr (2, [.int wd3, .int rz3, .ref n3])), (n0, .inl (cJ0, 60, .inr (.inl g0))), (n1, .inl (cJ1, 60, .inr (.inl g1))), (n2, .inl (cJ2, 60, .inr (.inl g2))), (n3, .inl (cJ3, 60, .inr (.inl g3)))]) [0, 1, 2, 3, 4, 5, 6, 7, 8, 9] (by decide) rfl
                    have hK9 := hK.sub (tys' := [(cS, .object RX3), (cJ0, .long), (cJ1, .long), (cJ2, .long), (cJ3, .long)]) [0, 1, 2, 3, 4] rfl
                    exact W.iret (v := (-7)) hx hb hr (fun t ht hW => ⟨⟨(-7), (), rfl, ⟨(rg_w (by decide : (-7 : Int) ≤ ((-7) : Int32).toInt ∧ ((-7) : Int32).toInt ≤ -7) (by decide) (by decide)), (ps_7 (j := 3) (t := 2) (by decide) (by decide) (by decide) (by have q2 := hg9_2; unfold RG at q2; have q3 := hg9_3; unfold RG at q3; omega) (by have q2 := hg9_2; unfold RG at q2; have q3 := hg9_3; unfold RG at q3; omega) (by have q2 := hg9_2; unfold RG at q2; have q3 := hg9_3; unfold RG at q3; omega))⟩, g0, g1, g2, g3, by rw [ht]; exact hP9, va_K.moved hW.alike hK9, hD9⟩, hS.F ht⟩) hS.2.2 dX9_paste_95
              ·
                have n_c_633 : (wd3.toInt : Int) ≠ wd2.toInt := c_ne rfl rfl c_633
                refine lv_bipush (v := (-8)) hx hb dX9_paste_67 (by decide) ?_
                have hP9 := hP.sub (ws' := [(h0, .inr (7, [.ref tp, .ref sc, .ref rd, .ref cu, .ref im, .ref ig, .ref sl, .ref se, .ref sm, .ref fc])), (sl, .inl (cS, 4, .inr (.inr (.inr (.inr (sf4 s0 s1 s2 s3)))))), (s0, .inr (2, [.int wd0, .int rz0, .ref n0])), (s1, .inr (2, [.int wd1, .int rz1, .ref n1])), (s2, .inr (2, [.int wd2, .int rz2, .ref n2])), (s3, .inr (2, [.int wd3, .int rz3, .ref n3])), (n0, .inl (cJ0, 60, .inr (.inl g0))), (n1, .inl (cJ1, 60, .inr (.inl g1))), (n2, .inl (cJ2, 60, .inr (.inl g2))), (n3, .inl (cJ3, 60, .inr (.inl g3)))]) [0, 1, 2, 3, 4, 5, 6, 7, 8, 9] rfl
                have hD9 := hD.sub (ws' := [(h0, .inr (7, [.ref tp, .ref sc, .ref rd, .ref cu, .ref im, .ref ig, .ref sl, .ref se, .ref sm, .ref fc])), (sl, .inl (cS, 4, .inr (.inr (.inr (.inr (sf4 s0 s1 s2 s3)))))), (s0, .inr (2, [.int wd0, .int rz0, .ref n0])), (s1, .inr (2, [.int wd1, .int rz1, .ref n1])), (s2, .inr (2, [.int wd2, .int rz2, .ref n2])), (s3, .inr (2, [.int wd3, .int rz3, .ref n3])), (n0, .inl (cJ0, 60, .inr (.inl g0))), (n1, .inl (cJ1, 60, .inr (.inl g1))), (n2, .inl (cJ2, 60, .inr (.inl g2))), (n3, .inl (cJ3, 60, .inr (.inl g3)))]) [0, 1, 2, 3, 4, 5, 6, 7, 8, 9] (by decide) rfl
                have hK9 := hK.sub (tys' := [(cS, .object RX3), (cJ0, .long), (cJ1, .long), (cJ2, .long), (cJ3, .long)]) [0, 1, 2, 3, 4] rfl
                exact W.iret (v := (-8)) hx hb hr (fun t ht hW => ⟨⟨(-8), (), rfl, ⟨(rg_w (by decide : (-8 : Int) ≤ ((-8) : Int32).toInt ∧ ((-8) : Int32).toInt ≤ -8) (by decide) (by decide)), (ps_8 (j := 3) (t := 2) (by decide) (by decide) (by decide) (by have q2 := hg9_2; unfold RG at q2; have q3 := hg9_3; unfold RG at q3; omega) (by have q2 := hg9_2; unfold RG at q2; have q3 := hg9_3; unfold RG at q3; omega))⟩, g0, g1, g2, g3, by rw [ht]; exact hP9, va_K.moved hW.alike hK9, hD9⟩, hS.F ht⟩) hS.2.2 dX9_paste_69
            ·
              have n_c_631 : (r_630.toInt : Int) = 0 := c_eq rfl (by decide) c_631
              have b_r_630 : (0 : Int) ≤ r_630.toInt ∧ r_630.toInt ≤ 0 := r_eq1 b_r_630 (by decide : (0 : Int) ≤ (0 : Int32).toInt ∧ (0 : Int32).toInt ≤ 0) n_c_631 (by decide)
              have g_645 := zz_r_630 c_631
              refine lv_bipush (v := (-6)) hx hb dX9_paste_51 (by decide) ?_
              have hP9 := hP.sub (ws' := [(h0, .inr (7, [.ref tp, .ref sc, .ref rd, .ref cu, .ref im, .ref ig, .ref sl, .ref se, .ref sm, .ref fc])), (sl, .inl (cS, 4, .inr (.inr (.inr (.inr (sf4 s0 s1 s2 s3)))))), (s0, .inr (2, [.int wd0, .int rz0, .ref n0])), (s1, .inr (2, [.int wd1, .int rz1, .ref n1])), (s2, .inr (2, [.int wd2, .int rz2, .ref n2])), (s3, .inr (2, [.int wd3, .int rz3, .ref n3])), (n0, .inl (cJ0, 60, .inr (.inl g0))), (n1, .inl (cJ1, 60, .inr (.inl g1))), (n2, .inl (cJ2, 60, .inr (.inl g2))), (n3, .inl (cJ3, 60, .inr (.inl g3)))]) [0, 1, 2, 3, 4, 5, 6, 7, 8, 9] rfl
              have hD9 := hD.sub (ws' := [(h0, .inr (7, [.ref tp, .ref sc, .ref rd, .ref cu, .ref im, .ref ig, .ref sl, .ref se, .ref sm, .ref fc])), (sl, .inl (cS, 4, .inr (.inr (.inr (.inr (sf4 s0 s1 s2 s3)))))), (s0, .inr (2, [.int wd0, .int rz0, .ref n0])), (s1, .inr (2, [.int wd1, .int rz1, .ref n1])), (s2, .inr (2, [.int wd2, .int rz2, .ref n2])), (s3, .inr (2, [.int wd3, .int rz3, .ref n3])), (n0, .inl (cJ0, 60, .inr (.inl g0))), (n1, .inl (cJ1, 60, .inr (.inl g1))), (n2, .inl (cJ2, 60, .inr (.inl g2))), (n3, .inl (cJ3, 60, .inr (.inl g3)))]) [0, 1, 2, 3, 4, 5, 6, 7, 8, 9] (by decide) rfl
              have hK9 := hK.sub (tys' := [(cS, .object RX3), (cJ0, .long), (cJ1, .long), (cJ2, .long), (cJ3, .long)]) [0, 1, 2, 3, 4] rfl
              exact W.iret (v := (-6)) hx hb hr (fun t ht hW => ⟨⟨(-6), (), rfl, ⟨(rg_w (by decide : (-6 : Int) ≤ ((-6) : Int32).toInt ∧ ((-6) : Int32).toInt ≤ -6) (by decide) (by decide)), (ps_6 (j := 3) (t := 2) (by decide) (by decide) (by decide) (by have q2 := hg9_2; unfold RG at q2; have q3 := hg9_3; unfold RG at q3; omega))⟩, g0, g1, g2, g3, by rw [ht]; exact hP9, va_K.moved hW.alike hK9, hD9⟩, hS.F ht⟩) hS.2.2 dX9_paste_53
        ·
          obtain rfl : a3 = 3 := Int32.toInt_inj.mp (h_585.trans (by decide))
          refine va_aldq hx hb hK hP 1 0 rfl rfl (vp_in_b (by decide : (3 : Int) ≤ (3 : Int32).toInt ∧ (3 : Int32).toInt ≤ 3) (by decide) (by decide)) dX9_paste_32 ?_
          refine W.eq (g2 := F0 m 33 ls (.ref s3 :: [])) (congrArg (fun v => F0 m 33 ls (va_rf v :: [])) (sf4_3 s0 s1 s2 s3)) ?_
          refine lv_astore (lv' := [(7, .ref s3), (6, .ref s3), (0, .ref h0), (1, .int 3), (2, .int a2), (3, .int 3), (4, .int a4), (5, .int a5)]) hx hb dX9_paste_33 hl (by decide) rfl (fun ls hl => ?_)
          refine lv_aload hx hb dX9_paste_35 (lv_at hl 1 rfl) ?_
          refine vp_callSi (W.runV (As := []) (rest := []) ⟨hx, hb, hml, hown, hts⟩ (kX3_stands2 l dC dI s3 wd3 rz3 n3 b_wd3 b_rz3) (cwV 0 hts gX9_pasteF__X3_stands2_V270 rfl rfl rfl hd_yX3_stands ⟨lel 1 2 rfl, lel 20 88 rfl⟩) ⟨pw_fb, rcv_X3 hK hP (q0 := 5) rfl, (pw_use hP hK hN [5] rfl [] rfl)⟩ rfl rfl hl.1 rfl (lv_room (Nat.le_of_ble_eq_true rfl)) dX9_paste_37 ⟨lel 0 0 rfl, lel 0 0 rfl⟩) (fun r_646 h_r_646 => ?_)
          obtain ⟨b_r_646, nz_r_646, zz_r_646⟩ := h_r_646
          have b_r_646 : (0 : Int) ≤ r_646.toInt ∧ r_646.toInt ≤ 1 := b_r_646
          refine lv_if_eq (tgt := 51) hx hb dX9_paste_40 (by decide) (fun c_647 => ?_) (fun c_647 => ?_)
          ·
            have n_c_647 : (r_646.toInt : Int) = 0 := c_eq rfl (by decide) c_647
            have b_r_646 : (0 : Int) ≤ r_646.toInt ∧ r_646.toInt ≤ 0 := r_eq1 b_r_646 (by decide : (0 : Int) ≤ (0 : Int32).toInt ∧ (0 : Int32).toInt ≤ 0) n_c_647 (by decide)
            have g_648 := zz_r_646 c_647
            refine lv_bipush (v := (-6)) hx hb dX9_paste_51 (by decide) ?_
            have hP9 := hP.sub (ws' := [(h0, .inr (7, [.ref tp, .ref sc, .ref rd, .ref cu, .ref im, .ref ig, .ref sl, .ref se, .ref sm, .ref fc])), (sl, .inl (cS, 4, .inr (.inr (.inr (.inr (sf4 s0 s1 s2 s3)))))), (s0, .inr (2, [.int wd0, .int rz0, .ref n0])), (s1, .inr (2, [.int wd1, .int rz1, .ref n1])), (s2, .inr (2, [.int wd2, .int rz2, .ref n2])), (s3, .inr (2, [.int wd3, .int rz3, .ref n3])), (n0, .inl (cJ0, 60, .inr (.inl g0))), (n1, .inl (cJ1, 60, .inr (.inl g1))), (n2, .inl (cJ2, 60, .inr (.inl g2))), (n3, .inl (cJ3, 60, .inr (.inl g3)))]) [0, 1, 2, 3, 4, 5, 6, 7, 8, 9] rfl
            have hD9 := hD.sub (ws' := [(h0, .inr (7, [.ref tp, .ref sc, .ref rd, .ref cu, .ref im, .ref ig, .ref sl, .ref se, .ref sm, .ref fc])), (sl, .inl (cS, 4, .inr (.inr (.inr (.inr (sf4 s0 s1 s2 s3)))))), (s0, .inr (2, [.int wd0, .int rz0, .ref n0])), (s1, .inr (2, [.int wd1, .int rz1, .ref n1])), (s2, .inr (2, [.int wd2, .int rz2, .ref n2])), (s3, .inr (2, [.int wd3, .int rz3, .ref n3])), (n0, .inl (cJ0, 60, .inr (.inl g0))), (n1, .inl (cJ1, 60, .inr (.inl g1))), (n2, .inl (cJ2, 60, .inr (.inl g2))), (n3, .inl (cJ3, 60, .inr (.inl g3)))]) [0, 1, 2, 3, 4, 5, 6, 7, 8, 9] (by decide) rfl
            have hK9 := hK.sub (tys' := [(cS, .object RX3), (cJ0, .long), (cJ1, .long), (cJ2, .long), (cJ3, .long)]) [0, 1, 2, 3, 4] rfl
            exact W.iret (v := (-6)) hx hb hr (fun t ht hW => ⟨⟨(-6), (), rfl, ⟨(rg_w (by decide : (-6 : Int) ≤ ((-6) : Int32).toInt ∧ ((-6) : Int32).toInt ≤ -6) (by decide) (by decide)), (ps_6 (j := 3) (t := 3) (by decide) (by decide) (by decide) (by have q3 := hg9_3; unfold RG at q3; omega))⟩, g0, g1, g2, g3, by rw [ht]; exact hP9, va_K.moved hW.alike hK9, hD9⟩, hS.F ht⟩) hS.2.2 dX9_paste_53
          ·
            have n_c_647 : (r_646.toInt : Int) ≠ 0 := c_ne rfl (by decide) c_647
            have b_r_646 : (1 : Int) ≤ r_646.toInt ∧ r_646.toInt ≤ 1 := r_ne1 b_r_646 (by decide : (0 : Int) ≤ (0 : Int32).toInt ∧ (0 : Int32).toInt ≤ 0) n_c_647 (by decide)
            obtain ⟨b_wd3, g_649⟩ := nz_r_646 c_647
            refine lv_aload hx hb dX9_paste_43 (lv_at hl 0 rfl) ?_
            refine vp_callSi (W.runV (As := []) (rest := []) ⟨hx, hb, hml, hown, hts⟩ (kX3_stands2 l dC dI s3 wd3 rz3 n3 (rg_w b_wd3 (by decide) (by decide)) b_rz3) (cwV 0 hts gX9_pasteF__X3_stands2_V270 rfl rfl rfl hd_yX3_stands ⟨lel 1 2 rfl, lel 20 88 rfl⟩) ⟨pw_fb, rcv_X3 hK hP (q0 := 5) rfl, (pw_use hP hK hN [5] rfl [] rfl)⟩ rfl rfl hl.1 rfl (lv_room (Nat.le_of_ble_eq_true rfl)) dX9_paste_45 ⟨lel 0 0 rfl, lel 0 0 rfl⟩) (fun r_650 h_r_650 => ?_)
            obtain ⟨b_r_650, nz_r_650, zz_r_650⟩ := h_r_650
            have b_r_650 : (0 : Int) ≤ r_650.toInt ∧ r_650.toInt ≤ 1 := b_r_650
            refine lv_if_ne (tgt := 54) hx hb dX9_paste_48 (by decide) (fun c_651 => ?_) (fun c_651 => ?_)
            ·
              have n_c_651 : (r_650.toInt : Int) ≠ 0 := c_ne rfl (by decide) c_651
              have b_r_650 : (1 : Int) ≤ r_650.toInt ∧ r_650.toInt ≤ 1 := r_ne1 b_r_650 (by decide : (0 : Int) ≤ (0 : Int32).toInt ∧ (0 : Int32).toInt ≤ 0) n_c_651 (by decide)
              obtain ⟨b_wd3, g_652⟩ := nz_r_650 c_651
              refine lv_aload hx hb dX9_paste_54 (lv_at hl 1 rfl) ?_
              refine va_getN (own := RX9) (index := 350) (ref := RX3) (host := RX9) (D := (dC, dI)) (ci := 2) (v := .int wd3) (C := RX3) (T := TX3) (N := 3) hx hb hts iX9_pasteF_X3 hown hK hP 5 rfl rfl 0 (by decide) (va_Nw.use rfl (hN _ (List.mem_of_getElem? (i := 21) rfl))) (fun _ h9 => h9) rfl dX9_paste_56 ?_
              refine lv_aload hx hb dX9_paste_59 (lv_at hl 0 rfl) ?_
              refine va_getN (own := RX9) (index := 350) (ref := RX3) (host := RX9) (D := (dC, dI)) (ci := 2) (v := .int wd3) (C := RX3) (T := TX3) (N := 3) hx hb hts iX9_pasteF_X3 hown hK hP 5 rfl rfl 0 (by decide) (va_Nw.use rfl (hN _ (List.mem_of_getElem? (i := 21) rfl))) (fun _ h9 => h9) rfl dX9_paste_61 ?_
              refine lv_icmp_eq (tgt := 70) hx hb dX9_paste_64 (by decide) (fun c_653 => ?_) (fun c_653 => ?_)
              ·
                have n_c_653 : (wd3.toInt : Int) = wd3.toInt := c_eq rfl rfl c_653
                refine lv_aload hx hb dX9_paste_70 (lv_at hl 1 rfl) ?_
                refine lv_iload_n hx hb dX9_paste_72 rfl (lv_at hl 4 rfl) ?_
                refine lv_iload hx hb dX9_paste_73 (lv_at hl 7 rfl) ?_
                refine vp_callSi (W.runV (As := [.int a2, .int a5]) (rest := []) ⟨hx, hb, hml, hown, hts⟩ (kX3_hasStretch2 l dC dI s3 wd3 rz3 n3 a2 a5 (rg_w b_wd3 (by decide) (by decide)) b_rz3) (cwV 2 hts gX9_pasteF__X3_hasStretch2_V343 rfl rfl rfl hd_yX3_hasStretch ⟨lel 1 2 rfl, lel 22 88 rfl⟩) ⟨pw_fb, rcv_X3 hK hP (q0 := 5) rfl, (pw_use hP hK hN [5] rfl [] rfl)⟩ rfl rfl hl.1 rfl (lv_room (Nat.le_of_ble_eq_true rfl)) dX9_paste_75 ⟨lel 0 0 rfl, lel 0 0 rfl⟩) (fun r_654 h_r_654 => ?_)
                obtain ⟨b_r_654, nz_r_654, zz_r_654⟩ := h_r_654
                have b_r_654 : (0 : Int) ≤ r_654.toInt ∧ r_654.toInt ≤ 1 := b_r_654
                refine lv_if_eq (tgt := 93) hx hb dX9_paste_78 (by decide) (fun c_655 => ?_) (fun c_655 => ?_)
                ·
                  have n_c_655 : (r_654.toInt : Int) = 0 := c_eq rfl (by decide) c_655
                  have b_r_654 : (0 : Int) ≤ r_654.toInt ∧ r_654.toInt ≤ 0 := r_eq1 b_r_654 (by decide : (0 : Int) ≤ (0 : Int32).toInt ∧ (0 : Int32).toInt ≤ 0) n_c_655 (by decide)
                  have g_656 := zz_r_654 c_655
                  refine lv_bipush (v := (-7)) hx hb dX9_paste_93 (by decide) ?_
                  have hP9 := hP.sub (ws' := [(h0, .inr (7, [.ref tp, .ref sc, .ref rd, .ref cu, .ref im, .ref ig, .ref sl, .ref se, .ref sm, .ref fc])), (sl, .inl (cS, 4, .inr (.inr (.inr (.inr (sf4 s0 s1 s2 s3)))))), (s0, .inr (2, [.int wd0, .int rz0, .ref n0])), (s1, .inr (2, [.int wd1, .int rz1, .ref n1])), (s2, .inr (2, [.int wd2, .int rz2, .ref n2])), (s3, .inr (2, [.int wd3, .int rz3, .ref n3])), (n0, .inl (cJ0, 60, .inr (.inl g0))), (n1, .inl (cJ1, 60, .inr (.inl g1))), (n2, .inl (cJ2, 60, .inr (.inl g2))), (n3, .inl (cJ3, 60, .inr (.inl g3)))]) [0, 1, 2, 3, 4, 5, 6, 7, 8, 9] rfl
                  have hD9 := hD.sub (ws' := [(h0, .inr (7, [.ref tp, .ref sc, .ref rd, .ref cu, .ref im, .ref ig, .ref sl, .ref se, .ref sm, .ref fc])), (sl, .inl (cS, 4, .inr (.inr (.inr (.inr (sf4 s0 s1 s2 s3)))))), (s0, .inr (2, [.int wd0, .int rz0, .ref n0])), (s1, .inr (2, [.int wd1, .int rz1, .ref n1])), (s2, .inr (2, [.int wd2, .int rz2, .ref n2])), (s3, .inr (2, [.int wd3, .int rz3, .ref n3])), (n0, .inl (cJ0, 60, .inr (.inl g0))), (n1, .inl (cJ1, 60, .inr (.inl g1))), (n2, .inl (cJ2, 60, .inr (.inl g2))), (n3, .inl (cJ3, 60, .inr (.inl g3)))]) [0, 1, 2, 3, 4, 5, 6, 7, 8, 9] (by decide) rfl
                  have hK9 := hK.sub (tys' := [(cS, .object RX3), (cJ0, .long), (cJ1, .long), (cJ2, .long), (cJ3, .long)]) [0, 1, 2, 3, 4] rfl
                  exact W.iret (v := (-7)) hx hb hr (fun t ht hW => ⟨⟨(-7), (), rfl, ⟨(rg_w (by decide : (-7 : Int) ≤ ((-7) : Int32).toInt ∧ ((-7) : Int32).toInt ≤ -7) (by decide) (by decide)), (ps_7 (j := 3) (t := 3) (by decide) (by decide) (by decide) (by have q3 := hg9_3; unfold RG at q3; omega) (by have q3 := hg9_3; unfold RG at q3; omega) (by have q3 := hg9_3; unfold RG at q3; omega))⟩, g0, g1, g2, g3, by rw [ht]; exact hP9, va_K.moved hW.alike hK9, hD9⟩, hS.F ht⟩) hS.2.2 dX9_paste_95
                ·
                  have n_c_655 : (r_654.toInt : Int) ≠ 0 := c_ne rfl (by decide) c_655
                  have b_r_654 : (1 : Int) ≤ r_654.toInt ∧ r_654.toInt ≤ 1 := r_ne1 b_r_654 (by decide : (0 : Int) ≤ (0 : Int32).toInt ∧ (0 : Int32).toInt ≤ 0) n_c_655 (by decide)
                  obtain ⟨b_a2, b_a5, g_657⟩ := nz_r_654 c_655
                  refine lv_aload hx hb dX9_paste_81 (lv_at hl 0 rfl) ?_
                  refine lv_iload hx hb dX9_paste_83 (lv_at hl 6 rfl) ?_
                  refine lv_iload hx hb dX9_paste_85 (lv_at hl 7 rfl) ?_
                  refine vp_callSi (W.runV (As := [.int a4, .int a5]) (rest := []) ⟨hx, hb, hml, hown, hts⟩ (kX3_hasStretch2 l dC dI s3 wd3 rz3 n3 a4 a5 (rg_w b_wd3 (by decide) (by decide)) b_rz3) (cwV 2 hts gX9_pasteF__X3_hasStretch2_V343 rfl rfl rfl hd_yX3_hasStretch ⟨lel 1 2 rfl, lel 22 88 rfl⟩) ⟨pw_fb, rcv_X3 hK hP (q0 := 5) rfl, (pw_use hP hK hN [5] rfl [] rfl)⟩ rfl rfl hl.1 rfl (lv_room (Nat.le_of_ble_eq_true rfl)) dX9_paste_87 ⟨lel 0 0 rfl, lel 0 0 rfl⟩) (fun r_658 h_r_658 => ?_)
                  obtain ⟨b_r_658, nz_r_658, zz_r_658⟩ := h_r_658
                  have b_r_658 : (0 : Int) ≤ r_658.toInt ∧ r_658.toInt ≤ 1 := b_r_658
                  refine lv_if_ne (tgt := 96) hx hb dX9_paste_90 (by decide) (fun c_659 => ?_) (fun c_659 => ?_)
                  ·
                    have n_c_659 : (r_658.toInt : Int) ≠ 0 := c_ne rfl (by decide) c_659
                    have b_r_658 : (1 : Int) ≤ r_658.toInt ∧ r_658.toInt ≤ 1 := r_ne1 b_r_658 (by decide : (0 : Int) ≤ (0 : Int32).toInt ∧ (0 : Int32).toInt ≤ 0) n_c_659 (by decide)
                    obtain ⟨b_a4, b_a5, g_660⟩ := nz_r_658 c_659
                    refine lv_aload hx hb dX9_paste_96 (lv_at hl 0 rfl) ?_
                    refine lv_iload hx hb dX9_paste_98 (lv_at hl 6 rfl) ?_
                    refine lv_aload hx hb dX9_paste_100 (lv_at hl 1 rfl) ?_
                    refine lv_iload_n hx hb dX9_paste_102 rfl (lv_at hl 4 rfl) ?_
                    refine lv_iload hx hb dX9_paste_103 (lv_at hl 7 rfl) ?_
                    have hFc := va_free (wc := [(s3, .inr (2, [.int wd3, .int rz3, .ref n3])), (n3, .inl (cJ3, 60, .inr (.inl g3)))]) hD hS hA [5, 9] rfl
                    refine va_callv (va_runV (As := [.int a4, .ref s3, .int a2, .int a5]) (rest := []) ⟨hx, hb, hml, hown, hts⟩ (kX3_takeS l dC dI s3 wd3 rz3 n3 cJ3 g3 a4 a2 a5 (s.heap.size) (rg_w b_wd3 (by decide) (by decide)) b_rz3) (cwV 4 hts gX9_pasteF__X3_takeS_V353 rfl rfl rfl hd_yX3_take ⟨lel 2 2 rfl, lel 88 88 rfl⟩) ⟨hw_fb, rcv_X3 hK hP (q0 := 5) rfl, (hw_use hP hD hK hN [5, 9] rfl (by decide) rfl [4] rfl)⟩ rfl rfl hl.1 rfl (lv_room (Nat.le_of_ble_eq_true rfl)) dX9_paste_105 ⟨lel 0 0 rfl, lel 0 0 rfl⟩) hS (fun q _ h => hFc q h) hFc (fun u_662 t H1 locs ht hvm hw_r_661 hB hz1 hk1 hS => ?_)
                    obtain ⟨o0_663, hP1, hK1, hD1⟩ := hB
                    rw [ht] at hP1
                    have hK1 := va_K.moved hvm.symm hK1
                    obtain ⟨hP, hD⟩ := va_join (wr := [(h0, .inr (7, [.ref tp, .ref sc, .ref rd, .ref cu, .ref im, .ref ig, .ref sl, .ref se, .ref sm, .ref fc])), (sl, .inl (cS, 4, .inr (.inr (.inr (.inr (sf4 s0 s1 s2 s3)))))), (s0, .inr (2, [.int wd0, .int rz0, .ref n0])), (s1, .inr (2, [.int wd1, .int rz1, .ref n1])), (s2, .inr (2, [.int wd2, .int rz2, .ref n2])), (n0, .inl (cJ0, 60, .inr (.inl g0))), (n1, .inl (cJ1, 60, .inr (.inl g1))), (n2, .inl (cJ2, 60, .inr (.inl g2)))]) (w1 := [(s3, .inr (2, [.int wd3, .int rz3, .ref n3])), (n3, .inl (cJ3, 60, .inr (.inl o0_663)))]) hP hD [5, 9] [0, 1, 2, 3, 4, 6, 7, 8] rfl rfl (by decide) (by decide) hk1 hFc hP1 hD1
                    have hK := (hK.sub (tys' := [(cS, .object RX3), (cJ0, .long), (cJ1, .long), (cJ2, .long)]) [0, 1, 2, 3] rfl).app hK1
                    generalize H1 = H at hP hS ⊢
                    have hP := hP.sub (ws' := [(h0, .inr (7, [.ref tp, .ref sc, .ref rd, .ref cu, .ref im, .ref ig, .ref sl, .ref se, .ref sm, .ref fc])), (sl, .inl (cS, 4, .inr (.inr (.inr (.inr (sf4 s0 s1 s2 s3)))))), (s0, .inr (2, [.int wd0, .int rz0, .ref n0])), (s1, .inr (2, [.int wd1, .int rz1, .ref n1])), (s2, .inr (2, [.int wd2, .int rz2, .ref n2])), (s3, .inr (2, [.int wd3, .int rz3, .ref n3])), (n0, .inl (cJ0, 60, .inr (.inl g0))), (n1, .inl (cJ1, 60, .inr (.inl g1))), (n2, .inl (cJ2, 60, .inr (.inl g2))), (n3, .inl (cJ3, 60, .inr (.inl o0_663)))]) [0, 1, 2, 3, 4, 8, 5, 6, 7, 9] rfl
                    have hD := hD.sub (ws' := [(h0, .inr (7, [.ref tp, .ref sc, .ref rd, .ref cu, .ref im, .ref ig, .ref sl, .ref se, .ref sm, .ref fc])), (sl, .inl (cS, 4, .inr (.inr (.inr (.inr (sf4 s0 s1 s2 s3)))))), (s0, .inr (2, [.int wd0, .int rz0, .ref n0])), (s1, .inr (2, [.int wd1, .int rz1, .ref n1])), (s2, .inr (2, [.int wd2, .int rz2, .ref n2])), (s3, .inr (2, [.int wd3, .int rz3, .ref n3])), (n0, .inl (cJ0, 60, .inr (.inl g0))), (n1, .inl (cJ1, 60, .inr (.inl g1))), (n2, .inl (cJ2, 60, .inr (.inl g2))), (n3, .inl (cJ3, 60, .inr (.inl o0_663)))]) [0, 1, 2, 3, 4, 8, 5, 6, 7, 9] (by decide) rfl
                    have hP : va_P (dC, dI) vwCl [(h0, .inr (7, [.ref tp, .ref sc, .ref rd, .ref cu, .ref im, .ref ig, .ref sl, .ref se, .ref sm, .ref fc])), (sl, .inl (cS, 4, .inr (.inr (.inr (.inr (sf4 s0 s1 s2 s3)))))), (s0, .inr (2, [.int wd0, .int rz0, .ref n0])), (s1, .inr (2, [.int wd1, .int rz1, .ref n1])), (s2, .inr (2, [.int wd2, .int rz2, .ref n2])), (s3, .inr (2, [.int wd3, .int rz3, .ref n3])), (n0, .inl (cJ0, 60, .inr (.inl g0))), (n1, .inl (cJ1, 60, .inr (.inl g1))), (n2, .inl (cJ2, 60, .inr (.inl g2))), (n3, .inl (cJ3, 60, .inr (.inl o0_663)))] H := hP
                    have hD : va_D A [(h0, .inr (7, [.ref tp, .ref sc, .ref rd, .ref cu, .ref im, .ref ig, .ref sl, .ref se, .ref sm, .ref fc])), (sl, .inl (cS, 4, .inr (.inr (.inr (.inr (sf4 s0 s1 s2 s3)))))), (s0, .inr (2, [.int wd0, .int rz0, .ref n0])), (s1, .inr (2, [.int wd1, .int rz1, .ref n1])), (s2, .inr (2, [.int wd2, .int rz2, .ref n2])), (s3, .inr (2, [.int wd3, .int rz3, .ref n3])), (n0, .inl (cJ0, 60, .inr (.inl g0))), (n1, .inl (cJ1, 60, .inr (.inl g1))), (n2, .inl (cJ2, 60, .inr (.inl g2))), (n3, .inl (cJ3, 60, .inr (.inl o0_663)))] := hD
                    have hK : va_K (dC, dI) vwCl [(cS, .object RX3), (cJ0, .long), (cJ1, .long), (cJ2, .long), (cJ3, .long)] s := hK
                    refine lv_iconst (v := 0) hx hb dX9_paste_108 (by decide) ?_
                    have hP9 := hP.sub (ws' := [(h0, .inr (7, [.ref tp, .ref sc, .ref rd, .ref cu, .ref im, .ref ig, .ref sl, .ref se, .ref sm, .ref fc])), (sl, .inl (cS, 4, .inr (.inr (.inr (.inr (sf4 s0 s1 s2 s3)))))), (s0, .inr (2, [.int wd0, .int rz0, .ref n0])), (s1, .inr (2, [.int wd1, .int rz1, .ref n1])), (s2, .inr (2, [.int wd2, .int rz2, .ref n2])), (s3, .inr (2, [.int wd3, .int rz3, .ref n3])), (n0, .inl (cJ0, 60, .inr (.inl g0))), (n1, .inl (cJ1, 60, .inr (.inl g1))), (n2, .inl (cJ2, 60, .inr (.inl g2))), (n3, .inl (cJ3, 60, .inr (.inl o0_663)))]) [0, 1, 2, 3, 4, 5, 6, 7, 8, 9] rfl
                    have hD9 := hD.sub (ws' := [(h0, .inr (7, [.ref tp, .ref sc, .ref rd, .ref cu, .ref im, .ref ig, .ref sl, .ref se, .ref sm, .ref fc])), (sl, .inl (cS, 4, .inr (.inr (.inr (.inr (sf4 s0 s1 s2 s3)))))), (s0, .inr (2, [.int wd0, .int rz0, .ref n0])), (s1, .inr (2, [.int wd1, .int rz1, .ref n1])), (s2, .inr (2, [.int wd2, .int rz2, .ref n2])), (s3, .inr (2, [.int wd3, .int rz3, .ref n3])), (n0, .inl (cJ0, 60, .inr (.inl g0))), (n1, .inl (cJ1, 60, .inr (.inl g1))), (n2, .inl (cJ2, 60, .inr (.inl g2))), (n3, .inl (cJ3, 60, .inr (.inl o0_663)))]) [0, 1, 2, 3, 4, 5, 6, 7, 8, 9] (by decide) rfl
                    have hK9 := hK.sub (tys' := [(cS, .object RX3), (cJ0, .long), (cJ1, .long), (cJ2, .long), (cJ3, .long)]) [0, 1, 2, 3, 4] rfl
                    exact W.iret (v := 0) hx hb hr (fun t ht hW => ⟨⟨0, (), rfl, ⟨(rg_w (by decide : (0 : Int) ≤ (0 : Int32).toInt ∧ (0 : Int32).toInt ≤ 0) (by decide) (by decide)), (ps_0 (j := 3) (t := 3) (by decide) (by decide) (by decide) (by have q3 := hg9_3; unfold RG at q3; omega) (by have q3 := hg9_3; unfold RG at q3; omega) (by have q3 := hg9_3; unfold RG at q3; omega))⟩, g0, g1, g2, o0_663, by rw [ht]; exact hP9, va_K.moved hW.alike hK9, hD9⟩, hS.F ht⟩) hS.2.2 dX9_paste_109
                  ·
                    have n_c_659 : (r_658.toInt : Int) = 0 := c_eq rfl (by decide) c_659
                    have b_r_658 : (0 : Int) ≤ r_658.toInt ∧ r_658.toInt ≤ 0 := r_eq1 b_r_658 (by decide : (0 : Int) ≤ (0 : Int32).toInt ∧ (0 : Int32).toInt ≤ 0) n_c_659 (by decide)
                    have g_664 := zz_r_658 c_659
                    refine lv_bipush (v := (-7)) hx hb dX9_paste_93 (by decide) ?_
                    have hP9 := hP.sub (ws' := [(h0, .inr (7, [.ref tp, .ref sc, .ref rd, .ref cu, .ref im, .ref ig, .ref sl, .ref se, .ref sm, .ref fc])), (sl, .inl (cS, 4, .inr (.inr (.inr (.inr (sf4 s0 s1 s2 s3)))))), (s0, .inr (2, [.int wd0, .int rz0, .ref n0])), (s1, .inr (2, [.int wd1, .int rz1, .ref n1])), (s2, .inr (2, [.int wd2, .int rz2, .ref n2])), (s3, .inr (2, [.int wd3, .int rz3, .ref n3])), (n0, .inl (cJ0, 60, .inr (.inl g0))), (n1, .inl (cJ1, 60, .inr (.inl g1))), (n2, .inl (cJ2, 60, .inr (.inl g2))), (n3, .inl (cJ3, 60, .inr (.inl g3)))]) [0, 1, 2, 3, 4, 5, 6, 7, 8, 9] rfl
                    have hD9 := hD.sub (ws' := [(h0, .inr (7, [.ref tp, .ref sc, .ref rd, .ref cu, .ref im, .ref ig, .ref sl, .ref se, .ref sm, .ref fc])), (sl, .inl (cS, 4, .inr (.inr (.inr (.inr (sf4 s0 s1 s2 s3)))))), (s0, .inr (2, [.int wd0, .int rz0, .ref n0])), (s1, .inr (2, [.int wd1, .int rz1, .ref n1])), (s2, .inr (2, [.int wd2, .int rz2, .ref n2])), (s3, .inr (2, [.int wd3, .int rz3, .ref n3])), (n0, .inl (cJ0, 60, .inr (.inl g0))), (n1, .inl (cJ1, 60, .inr (.inl g1))), (n2, .inl (cJ2, 60, .inr (.inl g2))), (n3, .inl (cJ3, 60, .inr (.inl g3)))]) [0, 1, 2, 3, 4, 5, 6, 7, 8, 9] (by decide) rfl
                    have hK9 := hK.sub (tys' := [(cS, .object RX3), (cJ0, .long), (cJ1, .long), (cJ2, .long), (cJ3, .long)]) [0, 1, 2, 3, 4] rfl
                    exact W.iret (v := (-7)) hx hb hr (fun t ht hW => ⟨⟨(-7), (), rfl, ⟨(rg_w (by decide : (-7 : Int) ≤ ((-7) : Int32).toInt ∧ ((-7) : Int32).toInt ≤ -7) (by decide) (by decide)), (ps_7 (j := 3) (t := 3) (by decide) (by decide) (by decide) (by have q3 := hg9_3; unfold RG at q3; omega) (by have q3 := hg9_3; unfold RG at q3; omega) (by have q3 := hg9_3; unfold RG at q3; omega))⟩, g0, g1, g2, g3, by rw [ht]; exact hP9, va_K.moved hW.alike hK9, hD9⟩, hS.F ht⟩) hS.2.2 dX9_paste_95
              ·
                have n_c_653 : (wd3.toInt : Int) ≠ wd3.toInt := c_ne rfl rfl c_653
                refine lv_bipush (v := (-8)) hx hb dX9_paste_67 (by decide) ?_
                have hP9 := hP.sub (ws' := [(h0, .inr (7, [.ref tp, .ref sc, .ref rd, .ref cu, .ref im, .ref ig, .ref sl, .ref se, .ref sm, .ref fc])), (sl, .inl (cS, 4, .inr (.inr (.inr (.inr (sf4 s0 s1 s2 s3)))))), (s0, .inr (2, [.int wd0, .int rz0, .ref n0])), (s1, .inr (2, [.int wd1, .int rz1, .ref n1])), (s2, .inr (2, [.int wd2, .int rz2, .ref n2])), (s3, .inr (2, [.int wd3, .int rz3, .ref n3])), (n0, .inl (cJ0, 60, .inr (.inl g0))), (n1, .inl (cJ1, 60, .inr (.inl g1))), (n2, .inl (cJ2, 60, .inr (.inl g2))), (n3, .inl (cJ3, 60, .inr (.inl g3)))]) [0, 1, 2, 3, 4, 5, 6, 7, 8, 9] rfl
                have hD9 := hD.sub (ws' := [(h0, .inr (7, [.ref tp, .ref sc, .ref rd, .ref cu, .ref im, .ref ig, .ref sl, .ref se, .ref sm, .ref fc])), (sl, .inl (cS, 4, .inr (.inr (.inr (.inr (sf4 s0 s1 s2 s3)))))), (s0, .inr (2, [.int wd0, .int rz0, .ref n0])), (s1, .inr (2, [.int wd1, .int rz1, .ref n1])), (s2, .inr (2, [.int wd2, .int rz2, .ref n2])), (s3, .inr (2, [.int wd3, .int rz3, .ref n3])), (n0, .inl (cJ0, 60, .inr (.inl g0))), (n1, .inl (cJ1, 60, .inr (.inl g1))), (n2, .inl (cJ2, 60, .inr (.inl g2))), (n3, .inl (cJ3, 60, .inr (.inl g3)))]) [0, 1, 2, 3, 4, 5, 6, 7, 8, 9] (by decide) rfl
                have hK9 := hK.sub (tys' := [(cS, .object RX3), (cJ0, .long), (cJ1, .long), (cJ2, .long), (cJ3, .long)]) [0, 1, 2, 3, 4] rfl
                exact W.iret (v := (-8)) hx hb hr (fun t ht hW => ⟨⟨(-8), (), rfl, ⟨(rg_w (by decide : (-8 : Int) ≤ ((-8) : Int32).toInt ∧ ((-8) : Int32).toInt ≤ -8) (by decide) (by decide)), (ps_8 (j := 3) (t := 3) (by decide) (by decide) (by decide) (by have q3 := hg9_3; unfold RG at q3; omega) (by have q3 := hg9_3; unfold RG at q3; omega))⟩, g0, g1, g2, g3, by rw [ht]; exact hP9, va_K.moved hW.alike hK9, hD9⟩, hS.F ht⟩) hS.2.2 dX9_paste_69
            ·
              have n_c_651 : (r_650.toInt : Int) = 0 := c_eq rfl (by decide) c_651
              have b_r_650 : (0 : Int) ≤ r_650.toInt ∧ r_650.toInt ≤ 0 := r_eq1 b_r_650 (by decide : (0 : Int) ≤ (0 : Int32).toInt ∧ (0 : Int32).toInt ≤ 0) n_c_651 (by decide)
              have g_665 := zz_r_650 c_651
              refine lv_bipush (v := (-6)) hx hb dX9_paste_51 (by decide) ?_
              have hP9 := hP.sub (ws' := [(h0, .inr (7, [.ref tp, .ref sc, .ref rd, .ref cu, .ref im, .ref ig, .ref sl, .ref se, .ref sm, .ref fc])), (sl, .inl (cS, 4, .inr (.inr (.inr (.inr (sf4 s0 s1 s2 s3)))))), (s0, .inr (2, [.int wd0, .int rz0, .ref n0])), (s1, .inr (2, [.int wd1, .int rz1, .ref n1])), (s2, .inr (2, [.int wd2, .int rz2, .ref n2])), (s3, .inr (2, [.int wd3, .int rz3, .ref n3])), (n0, .inl (cJ0, 60, .inr (.inl g0))), (n1, .inl (cJ1, 60, .inr (.inl g1))), (n2, .inl (cJ2, 60, .inr (.inl g2))), (n3, .inl (cJ3, 60, .inr (.inl g3)))]) [0, 1, 2, 3, 4, 5, 6, 7, 8, 9] rfl
              have hD9 := hD.sub (ws' := [(h0, .inr (7, [.ref tp, .ref sc, .ref rd, .ref cu, .ref im, .ref ig, .ref sl, .ref se, .ref sm, .ref fc])), (sl, .inl (cS, 4, .inr (.inr (.inr (.inr (sf4 s0 s1 s2 s3)))))), (s0, .inr (2, [.int wd0, .int rz0, .ref n0])), (s1, .inr (2, [.int wd1, .int rz1, .ref n1])), (s2, .inr (2, [.int wd2, .int rz2, .ref n2])), (s3, .inr (2, [.int wd3, .int rz3, .ref n3])), (n0, .inl (cJ0, 60, .inr (.inl g0))), (n1, .inl (cJ1, 60, .inr (.inl g1))), (n2, .inl (cJ2, 60, .inr (.inl g2))), (n3, .inl (cJ3, 60, .inr (.inl g3)))]) [0, 1, 2, 3, 4, 5, 6, 7, 8, 9] (by decide) rfl
              have hK9 := hK.sub (tys' := [(cS, .object RX3), (cJ0, .long), (cJ1, .long), (cJ2, .long), (cJ3, .long)]) [0, 1, 2, 3, 4] rfl
              exact W.iret (v := (-6)) hx hb hr (fun t ht hW => ⟨⟨(-6), (), rfl, ⟨(rg_w (by decide : (-6 : Int) ≤ ((-6) : Int32).toInt ∧ ((-6) : Int32).toInt ≤ -6) (by decide) (by decide)), (ps_6 (j := 3) (t := 3) (by decide) (by decide) (by decide) (by have q3 := hg9_3; unfold RG at q3; omega))⟩, g0, g1, g2, g3, by rw [ht]; exact hP9, va_K.moved hW.alike hK9, hD9⟩, hS.F ht⟩) hS.2.2 dX9_paste_53
    ·
      have n_c_339 : (r_338.toInt : Int) = 0 := c_eq rfl (by decide) c_339
      have b_r_338 : (0 : Int) ≤ r_338.toInt ∧ r_338.toInt ≤ 0 := r_eq1 b_r_338 (by decide : (0 : Int) ≤ (0 : Int32).toInt ∧ (0 : Int32).toInt ≤ 0) n_c_339 (by decide)
      have g_666 := zz_r_338 c_339
      refine lv_bipush (v := (-2)) hx hb dX9_paste_16 (by decide) ?_
      have hP9 := hP.sub (ws' := [(h0, .inr (7, [.ref tp, .ref sc, .ref rd, .ref cu, .ref im, .ref ig, .ref sl, .ref se, .ref sm, .ref fc])), (sl, .inl (cS, 4, .inr (.inr (.inr (.inr (sf4 s0 s1 s2 s3)))))), (s0, .inr (2, [.int wd0, .int rz0, .ref n0])), (s1, .inr (2, [.int wd1, .int rz1, .ref n1])), (s2, .inr (2, [.int wd2, .int rz2, .ref n2])), (s3, .inr (2, [.int wd3, .int rz3, .ref n3])), (n0, .inl (cJ0, 60, .inr (.inl g0))), (n1, .inl (cJ1, 60, .inr (.inl g1))), (n2, .inl (cJ2, 60, .inr (.inl g2))), (n3, .inl (cJ3, 60, .inr (.inl g3)))]) [0, 1, 2, 3, 4, 5, 6, 7, 8, 9] rfl
      have hD9 := hD.sub (ws' := [(h0, .inr (7, [.ref tp, .ref sc, .ref rd, .ref cu, .ref im, .ref ig, .ref sl, .ref se, .ref sm, .ref fc])), (sl, .inl (cS, 4, .inr (.inr (.inr (.inr (sf4 s0 s1 s2 s3)))))), (s0, .inr (2, [.int wd0, .int rz0, .ref n0])), (s1, .inr (2, [.int wd1, .int rz1, .ref n1])), (s2, .inr (2, [.int wd2, .int rz2, .ref n2])), (s3, .inr (2, [.int wd3, .int rz3, .ref n3])), (n0, .inl (cJ0, 60, .inr (.inl g0))), (n1, .inl (cJ1, 60, .inr (.inl g1))), (n2, .inl (cJ2, 60, .inr (.inl g2))), (n3, .inl (cJ3, 60, .inr (.inl g3)))]) [0, 1, 2, 3, 4, 5, 6, 7, 8, 9] (by decide) rfl
      have hK9 := hK.sub (tys' := [(cS, .object RX3), (cJ0, .long), (cJ1, .long), (cJ2, .long), (cJ3, .long)]) [0, 1, 2, 3, 4] rfl
      exact W.iret (v := (-2)) hx hb hr (fun t ht hW => ⟨⟨(-2), (), rfl, ⟨(rg_w (by decide : (-2 : Int) ≤ ((-2) : Int32).toInt ∧ ((-2) : Int32).toInt ≤ -2) (by decide) (by decide)), (ps_2 (by omega))⟩, g0, g1, g2, g3, by rw [ht]; exact hP9, va_K.moved hW.alike hK9, hD9⟩, hS.F ht⟩) hS.2.2 dX9_paste_18
def uX10_pasteF : List Cond := List.cons (.code yX10_paste cX10_paste 7 (some .int)) (HAppend.hAppend ([.methodLink RX10 369 yX10_isSlot, .static yX10_isSlot, .initialized RX10, .fieldLink RX10 65 "LuckyTicketModel" "many" "[I", .fieldLink RX10 68 "LuckyTicketModel" "width" "[I", .fieldLink RX10 74 "LuckyTicketModel" "moving" "[J", .fieldLink RX10 71 "LuckyTicketModel" "numbers" "[J"] : List Cond) (HAppend.hAppend uX10_isSlot2 wsX100))
theorem iX10_pasteF_X10 : ∀ w ∈ wsX100, w ∈ uX10_pasteF := fun _ h => (List.mem_cons_of_mem _ (List.mem_append_right _ (List.mem_append_right _ h)))
theorem guX10_pasteF : GU uX10_pasteF := gu_cons (gu_app (by decide +kernel) (gu_ap guX10_isSlot2 gws_X10))
theorem gX10_pasteF__X10_isSlot2_S369 : GoodIn uX10_pasteF (va_wsS RX10 369 yX10_isSlot uX10_isSlot2) := gin_S (List.mem_of_getElem? (i := 1) rfl) (List.mem_of_getElem? (i := 2) rfl) (List.mem_of_getElem? (i := 3) rfl) (fun _ h => (List.mem_cons_of_mem _ (List.mem_append_right _ (List.mem_append_left _ h)))) guX10_isSlot2
set_option maxHeartbeats 4000000 in
set_option maxRecDepth 100000 in
theorem kX10_pasteF (l : Launch) (dC : Nat → ClassId) (dI : Nat → Nat → Nat) (o0 : Nat) (x_th : Int32) (mwo : Nat) (mim : Nat) (mhi : Nat) (mlu : Nat) (mtp : Nat) (x_td : Int32) (mfv : Nat) (x_sz : Int32) (x_at : Int32) (x_fr : Int32) (x_to : Int32) (x_va : Int32) (x_fk : Int32) (x_fp : Int32) (mfr : Nat) (mwt : Nat) (x_wt : Int32) (x_op : Int32) (x_jo : Int32) (mfg : Nat) (mpl : Nat) (x_dr : Int64) (mtm : Nat) (mfa : Nat) (mqu : Nat) (mmo : Nat) (mwy : Nat) (mwn : Nat) (mma : Nat) (mwi : Nat) (mnu : Nat) (mmv : Nat) (c_ma : ClassId) (c_wi : ClassId) (c_nu : ClassId) (c_mv : ClassId) (w_ma : Nat → Int32) (w_wi : Nat → Int32) (w_nu : Nat → Int64) (w_mv : Nat → Int64) (gh : Nat → Int32) (a1 : Int32) (a2 : Int32) (a3 : Int32) (a4 : Int32) (a5 : Int32) (sz : Nat) (ha_mma : rg w_ma 4 (-1) 60) (ha_mwi : rg w_wi 4 0 3) (hgR9 : GR gh w_ma w_wi) : Met l yX10_paste uX10_pasteF ({ frames := 2, cells := 0, slots := 0, locals := 45 }) (va_Pc [.ref o0, .int a1, .int a2, .int a3, .int a4, .int a5] (hw (dC, dI) vwCl [(o0, .inr (8, [.int x_th, .ref mwo, .ref mim, .ref mhi, .ref mlu, .ref mtp, .int x_td, .ref mfv, .int x_sz, .int x_at, .int x_fr, .int x_to, .int x_va, .int x_fk, .int x_fp, .ref mfr, .ref mwt, .int x_wt, .int x_op, .int x_jo, .ref mfg, .ref mpl, .long x_dr, .ref mtm, .ref mfa, .ref mqu, .ref mmo, .ref mwy, .ref mwn, .ref mma, .ref mwi, .ref mnu, .ref mmv])), (mma, .inl (c_ma, 4, .inl w_ma)), (mwi, .inl (c_wi, 4, .inl w_wi)), (mnu, .inl (c_nu, 240, .inr (.inl w_nu))), (mmv, .inl (c_mv, 60, .inr (.inl w_mv)))] [(c_ma, .int), (c_wi, .int), (c_nu, .long), (c_mv, .long)] sz)) (va_Qi (fun (r : Int32) (_ : Unit) => ((-8 : Int) ≤ r.toInt ∧ r.toInt ≤ 0) ∧ (r = psA gh a1 a2 a3 a4 a5)) (fun (_ : Unit) t => ∃ (o0_ : Nat → Int64) (o1_ : Nat → Int64), va_P (dC, dI) vwCl [(o0, .inr (8, [.int x_th, .ref mwo, .ref mim, .ref mhi, .ref mlu, .ref mtp, .int x_td, .ref mfv, .int x_sz, .int x_at, .int x_fr, .int x_to, .int x_va, .int x_fk, .int x_fp, .ref mfr, .ref mwt, .int x_wt, .int x_op, .int x_jo, .ref mfg, .ref mpl, .long x_dr, .ref mtm, .ref mfa, .ref mqu, .ref mmo, .ref mwy, .ref mwn, .ref mma, .ref mwi, .ref mnu, .ref mmv])), (mma, .inl (c_ma, 4, .inl w_ma)), (mwi, .inl (c_wi, 4, .inl w_wi)), (mnu, .inl (c_nu, 240, .inr (.inl o0_))), (mmv, .inl (c_mv, 60, .inr (.inl o1_)))] t.heap ∧ va_K (dC, dI) vwCl [(c_ma, .int), (c_wi, .int), (c_nu, .long), (c_mv, .long)] t ∧ va_D (va_A [(o0, .inr (8, [.int x_th, .ref mwo, .ref mim, .ref mhi, .ref mlu, .ref mtp, .int x_td, .ref mfv, .int x_sz, .int x_at, .int x_fr, .int x_to, .int x_va, .int x_fk, .int x_fp, .ref mfr, .ref mwt, .int x_wt, .int x_op, .int x_jo, .ref mfg, .ref mpl, .long x_dr, .ref mtm, .ref mfa, .ref mqu, .ref mmo, .ref mwy, .ref mwn, .ref mma, .ref mwi, .ref mnu, .ref mmv])), (mma, .inl (c_ma, 4, .inl w_ma)), (mwi, .inl (c_wi, 4, .inl w_wi)), (mnu, .inl (c_nu, 240, .inr (.inl w_nu))), (mmv, .inl (c_mv, 60, .inr (.inl w_mv)))] sz) [(o0, .inr (8, [.int x_th, .ref mwo, .ref mim, .ref mhi, .ref mlu, .ref mtp, .int x_td, .ref mfv, .int x_sz, .int x_at, .int x_fr, .int x_to, .int x_va, .int x_fk, .int x_fp, .ref mfr, .ref mwt, .int x_wt, .int x_op, .int x_jo, .ref mfg, .ref mpl, .long x_dr, .ref mtm, .ref mfa, .ref mqu, .ref mmo, .ref mwy, .ref mwn, .ref mma, .ref mwi, .ref mnu, .ref mmv])), (mma, .inl (c_ma, 4, .inl w_ma)), (mwi, .inl (c_wi, 4, .inl w_wi)), (mnu, .inl (c_nu, 240, .inr (.inl o0_))), (mmv, .inl (c_mv, 60, .inr (.inl o1_)))]) (va_A [(o0, .inr (8, [.int x_th, .ref mwo, .ref mim, .ref mhi, .ref mlu, .ref mtp, .int x_td, .ref mfv, .int x_sz, .int x_at, .int x_fr, .int x_to, .int x_va, .int x_fk, .int x_fp, .ref mfr, .ref mwt, .int x_wt, .int x_op, .int x_jo, .ref mfg, .ref mpl, .long x_dr, .ref mtm, .ref mfa, .ref mqu, .ref mmo, .ref mwy, .ref mwn, .ref mma, .ref mwi, .ref mnu, .ref mmv])), (mma, .inl (c_ma, 4, .inl w_ma)), (mwi, .inl (c_wi, 4, .inl w_wi)), (mnu, .inl (c_nu, 240, .inr (.inl w_nu))), (mmv, .inl (c_mv, 60, .inr (.inl w_mv)))] sz)) 0 0 (va_A [(o0, .inr (8, [.int x_th, .ref mwo, .ref mim, .ref mhi, .ref mlu, .ref mtp, .int x_td, .ref mfv, .int x_sz, .int x_at, .int x_fr, .int x_to, .int x_va, .int x_fk, .int x_fp, .ref mfr, .ref mwt, .int x_wt, .int x_op, .int x_jo, .ref mfg, .ref mpl, .long x_dr, .ref mtm, .ref mfa, .ref mqu, .ref mmo, .ref mwy, .ref mwn, .ref mma, .ref mwi, .ref mnu, .ref mmv])), (mma, .inl (c_ma, 4, .inl w_ma)), (mwi, .inl (c_wi, 4, .inl w_wi)), (mnu, .inl (c_nu, 240, .inr (.inl w_nu))), (mmv, .inl (c_mv, 60, .inr (.inl w_mv)))] sz) := by
  refine Met.ofW (cc := cX10_paste) (maxL := 7) (ret := (some .int)) pn_X10 rfl ?_
  intro p e s m args below meth c s₁ B hml hv
  obtain ⟨rfl, hsz, hP, hK, hD0, hN⟩ := hv
  have hx := B.exec
  have hb := B.bytes
  have hr := B.returns
  have hts := atoms_spec (ws := uX10_pasteF) B.pre
  have hown : s.vm.findClass RX10 = some m.cls := hown_of B.named rfl
  have hlocks := B.notSynchronized
  subst hsz
  have hD := hD0.self (sz := s.heap.size)
  generalize hAe : va_A [(o0, .inr (8, [.int x_th, .ref mwo, .ref mim, .ref mhi, .ref mlu, .ref mtp, .int x_td, .ref mfv, .int x_sz, .int x_at, .int x_fr, .int x_to, .int x_va, .int x_fk, .int x_fp, .ref mfr, .ref mwt, .int x_wt, .int x_op, .int x_jo, .ref mfg, .ref mpl, .long x_dr, .ref mtm, .ref mfa, .ref mqu, .ref mmo, .ref mwy, .ref mwn, .ref mma, .ref mwi, .ref mnu, .ref mmv])), (mma, .inl (c_ma, 4, .inl w_ma)), (mwi, .inl (c_wi, 4, .inl w_wi)), (mnu, .inl (c_nu, 240, .inr (.inl w_nu))), (mmv, .inl (c_mv, 60, .inr (.inl w_mv)))] s.heap.size = A at hD ⊢
  have hA : ∀ q : Nat, s.heap.size ≤ q → A q := fun q h => by rw [← hAe]; exact Or.inr h
  have hS : va_S A s.heap s.heap [] := va_S.rf
  have hP : va_P (dC, dI) vwCl [(o0, .inr (8, [.int x_th, .ref mwo, .ref mim, .ref mhi, .ref mlu, .ref mtp, .int x_td, .ref mfv, .int x_sz, .int x_at, .int x_fr, .int x_to, .int x_va, .int x_fk, .int x_fp, .ref mfr, .ref mwt, .int x_wt, .int x_op, .int x_jo, .ref mfg, .ref mpl, .long x_dr, .ref mtm, .ref mfa, .ref mqu, .ref mmo, .ref mwy, .ref mwn, .ref mma, .ref mwi, .ref mnu, .ref mmv])), (mma, .inl (c_ma, 4, .inl w_ma)), (mwi, .inl (c_wi, 4, .inl w_wi)), (mnu, .inl (c_nu, 240, .inr (.inl w_nu))), (mmv, .inl (c_mv, 60, .inr (.inl w_mv)))] s.heap := hP
  have hl := lv_entry ([.ref o0, .int a1, .int a2, .int a3, .int a4, .int a5]) (n := 7) (Nat.le_of_ble_eq_true rfl)
  rw [lg_entry_eq]
  generalize (lg_sl ([.ref o0, .int a1, .int a2, .int a3, .int a4, .int a5]) ++ List.replicate (7 - (lg_sl ([.ref o0, .int a1, .int a2, .int a3, .int a4, .int a5])).length) Slot.unset).toArray = ls at hl ⊢
  have hl : lv_has ls 7 [(0, .ref o0), (1, .int a1), (2, .int a2), (3, .int a3), (4, .int a4), (5, .int a5)] := hl
  refine lv_iload_n hx hb dX10_paste_0 rfl (lv_at hl 1 rfl) ?_
  refine vp_callSi (W.runS (As := [.int a1]) (rest := []) ⟨hx, hb, hml, hown, hts⟩ (kX10_isSlot2 l dC dI a1 ) (va_cwS 1 hts gX10_pasteF__X10_isSlot2_S369 rfl rfl rfl hd_yX10_isSlot.2 ⟨lel 2 2 rfl, lel 45 45 rfl⟩) ⟨pn_fb, pn_use⟩ rfl rfl hl.1 rfl (lv_room (Nat.le_of_ble_eq_true rfl)) dX10_paste_1 ⟨lel 0 0 rfl, lel 0 0 rfl⟩) (fun r_362 h_r_362 => ?_)
  obtain ⟨b_r_362, nz_r_362, zz_r_362⟩ := h_r_362
  have b_r_362 : (0 : Int) ≤ r_362.toInt ∧ r_362.toInt ≤ 1 := b_r_362
  refine lv_if_eq (tgt := 14) hx hb dX10_paste_4 (by decide) (fun c_363 => ?_) (fun c_363 => ?_)
  ·
    have n_c_363 : (r_362.toInt : Int) = 0 := c_eq rfl (by decide) c_363
    have b_r_362 : (0 : Int) ≤ r_362.toInt ∧ r_362.toInt ≤ 0 := r_eq1 b_r_362 (by decide : (0 : Int) ≤ (0 : Int32).toInt ∧ (0 : Int32).toInt ≤ 0) n_c_363 (by decide)
    have g_364 := zz_r_362 c_363
    refine lv_bipush (v := (-2)) hx hb dX10_paste_14 (by decide) ?_
    have hP9 := hP.sub (ws' := [(o0, .inr (8, [.int x_th, .ref mwo, .ref mim, .ref mhi, .ref mlu, .ref mtp, .int x_td, .ref mfv, .int x_sz, .int x_at, .int x_fr, .int x_to, .int x_va, .int x_fk, .int x_fp, .ref mfr, .ref mwt, .int x_wt, .int x_op, .int x_jo, .ref mfg, .ref mpl, .long x_dr, .ref mtm, .ref mfa, .ref mqu, .ref mmo, .ref mwy, .ref mwn, .ref mma, .ref mwi, .ref mnu, .ref mmv])), (mma, .inl (c_ma, 4, .inl w_ma)), (mwi, .inl (c_wi, 4, .inl w_wi)), (mnu, .inl (c_nu, 240, .inr (.inl w_nu))), (mmv, .inl (c_mv, 60, .inr (.inl w_mv)))]) [0, 1, 2, 3, 4] rfl
    have hD9 := hD.sub (ws' := [(o0, .inr (8, [.int x_th, .ref mwo, .ref mim, .ref mhi, .ref mlu, .ref mtp, .int x_td, .ref mfv, .int x_sz, .int x_at, .int x_fr, .int x_to, .int x_va, .int x_fk, .int x_fp, .ref mfr, .ref mwt, .int x_wt, .int x_op, .int x_jo, .ref mfg, .ref mpl, .long x_dr, .ref mtm, .ref mfa, .ref mqu, .ref mmo, .ref mwy, .ref mwn, .ref mma, .ref mwi, .ref mnu, .ref mmv])), (mma, .inl (c_ma, 4, .inl w_ma)), (mwi, .inl (c_wi, 4, .inl w_wi)), (mnu, .inl (c_nu, 240, .inr (.inl w_nu))), (mmv, .inl (c_mv, 60, .inr (.inl w_mv)))]) [0, 1, 2, 3, 4] (by decide) rfl
    have hK9 := hK.sub (tys' := [(c_ma, .int), (c_wi, .int), (c_nu, .long), (c_mv, .long)]) [0, 1, 2, 3] rfl
    exact W.iret (v := (-2)) hx hb hr (fun t ht hW => ⟨⟨(-2), (), rfl, ⟨(rg_w (by decide : (-2 : Int) ≤ ((-2) : Int32).toInt ∧ ((-2) : Int32).toInt ≤ -2) (by decide) (by decide)), (ps_2 (by omega))⟩, w_nu, w_mv, by rw [ht]; exact hP9, va_K.moved hW.alike hK9, hD9⟩, hS.F ht⟩) hS.2.2 dX10_paste_16
  ·
    have n_c_363 : (r_362.toInt : Int) ≠ 0 := c_ne rfl (by decide) c_363
    have b_r_362 : (1 : Int) ≤ r_362.toInt ∧ r_362.toInt ≤ 1 := r_ne1 b_r_362 (by decide : (0 : Int) ≤ (0 : Int32).toInt ∧ (0 : Int32).toInt ≤ 0) n_c_363 (by decide)
    obtain ⟨b_a1, g_365⟩ := nz_r_362 c_363
    refine lv_iload_n hx hb dX10_paste_7 rfl (lv_at hl 3 rfl) ?_
    refine vp_callSi (W.runS (As := [.int a3]) (rest := []) ⟨hx, hb, hml, hown, hts⟩ (kX10_isSlot2 l dC dI a3 ) (va_cwS 1 hts gX10_pasteF__X10_isSlot2_S369 rfl rfl rfl hd_yX10_isSlot.2 ⟨lel 2 2 rfl, lel 45 45 rfl⟩) ⟨pn_fb, pn_use⟩ rfl rfl hl.1 rfl (lv_room (Nat.le_of_ble_eq_true rfl)) dX10_paste_8 ⟨lel 0 0 rfl, lel 0 0 rfl⟩) (fun r_366 h_r_366 => ?_)
    obtain ⟨b_r_366, nz_r_366, zz_r_366⟩ := h_r_366
    have b_r_366 : (0 : Int) ≤ r_366.toInt ∧ r_366.toInt ≤ 1 := b_r_366
    refine lv_if_ne (tgt := 17) hx hb dX10_paste_11 (by decide) (fun c_367 => ?_) (fun c_367 => ?_)
    ·
      have n_c_367 : (r_366.toInt : Int) ≠ 0 := c_ne rfl (by decide) c_367
      have b_r_366 : (1 : Int) ≤ r_366.toInt ∧ r_366.toInt ≤ 1 := r_ne1 b_r_366 (by decide : (0 : Int) ≤ (0 : Int32).toInt ∧ (0 : Int32).toInt ≤ 0) n_c_367 (by decide)
      obtain ⟨b_a3, g_368⟩ := nz_r_366 c_367
      refine lv_aload_n hx hb dX10_paste_17 rfl (lv_at hl 0 rfl) ?_
      refine va_get (D := (dC, dI)) (ci := 8) (v := .ref mma) (C := RX10) (T := TX10) (N := 33) hx hb hts iX10_pasteF_X10 hown hK hP 0 rfl rfl 29 (by decide) (hts (.fieldLink RX10 65 "LuckyTicketModel" "many" "[I") (List.mem_of_getElem? (i := 4) rfl)) (fun _ h9 => h9) rfl dX10_paste_18 ?_
      refine lv_iload_n hx hb dX10_paste_21 rfl (lv_at hl 1 rfl) ?_
      refine va_iald hx hb hK hP 1 0 rfl rfl (vp_in_b b_a1 (by decide) (by decide)) dX10_paste_22 ?_
      refine lv_topi (fun z_369 e_z_369 => ?_)
      have b_z_369 : (-1 : Int) ≤ z_369.toInt ∧ z_369.toInt ≤ 60 := rg_at ha_mma (vp_in_b b_a1 (by decide) (by decide)) e_z_369
      have hz_z_369 := gr_f hgR9 (show 0 ≤ a1.toInt ∧ a1.toInt ≤ 3 from ⟨by omega, by omega⟩) e_z_369
      refine lv_iconst (v := (-1)) hx hb dX10_paste_23 (by decide) ?_
      refine lv_icmp_eq (tgt := 37) hx hb dX10_paste_24 (by decide) (fun c_370 => ?_) (fun c_370 => ?_)
      ·
        have n_c_370 : (z_369.toInt : Int) = (-1) := c_eq rfl (by decide) c_370
        have b_z_369 : (-1 : Int) ≤ z_369.toInt ∧ z_369.toInt ≤ -1 := r_eq1 b_z_369 (by decide : (-1 : Int) ≤ ((-1) : Int32).toInt ∧ ((-1) : Int32).toInt ≤ -1) n_c_370 (by decide)
        refine lv_bipush (v := (-6)) hx hb dX10_paste_37 (by decide) ?_
        have hP9 := hP.sub (ws' := [(o0, .inr (8, [.int x_th, .ref mwo, .ref mim, .ref mhi, .ref mlu, .ref mtp, .int x_td, .ref mfv, .int x_sz, .int x_at, .int x_fr, .int x_to, .int x_va, .int x_fk, .int x_fp, .ref mfr, .ref mwt, .int x_wt, .int x_op, .int x_jo, .ref mfg, .ref mpl, .long x_dr, .ref mtm, .ref mfa, .ref mqu, .ref mmo, .ref mwy, .ref mwn, .ref mma, .ref mwi, .ref mnu, .ref mmv])), (mma, .inl (c_ma, 4, .inl w_ma)), (mwi, .inl (c_wi, 4, .inl w_wi)), (mnu, .inl (c_nu, 240, .inr (.inl w_nu))), (mmv, .inl (c_mv, 60, .inr (.inl w_mv)))]) [0, 1, 2, 3, 4] rfl
        have hD9 := hD.sub (ws' := [(o0, .inr (8, [.int x_th, .ref mwo, .ref mim, .ref mhi, .ref mlu, .ref mtp, .int x_td, .ref mfv, .int x_sz, .int x_at, .int x_fr, .int x_to, .int x_va, .int x_fk, .int x_fp, .ref mfr, .ref mwt, .int x_wt, .int x_op, .int x_jo, .ref mfg, .ref mpl, .long x_dr, .ref mtm, .ref mfa, .ref mqu, .ref mmo, .ref mwy, .ref mwn, .ref mma, .ref mwi, .ref mnu, .ref mmv])), (mma, .inl (c_ma, 4, .inl w_ma)), (mwi, .inl (c_wi, 4, .inl w_wi)), (mnu, .inl (c_nu, 240, .inr (.inl w_nu))), (mmv, .inl (c_mv, 60, .inr (.inl w_mv)))]) [0, 1, 2, 3, 4] (by decide) rfl
        have hK9 := hK.sub (tys' := [(c_ma, .int), (c_wi, .int), (c_nu, .long), (c_mv, .long)]) [0, 1, 2, 3] rfl
        exact W.iret (v := (-6)) hx hb hr (fun t ht hW => ⟨⟨(-6), (), rfl, ⟨(rg_w (by decide : (-6 : Int) ≤ ((-6) : Int32).toInt ∧ ((-6) : Int32).toInt ≤ -6) (by decide) (by decide)), (ps_6 (j := a1.toInt.toNat) (t := a3.toInt.toNat) (by omega) (by omega) (by omega) (by omega))⟩, w_nu, w_mv, by rw [ht]; exact hP9, va_K.moved hW.alike hK9, hD9⟩, hS.F ht⟩) hS.2.2 dX10_paste_39
      ·
        have n_c_370 : (z_369.toInt : Int) ≠ (-1) := c_ne rfl (by decide) c_370
        have b_z_369 : (0 : Int) ≤ z_369.toInt ∧ z_369.toInt ≤ 60 := r_ne1 b_z_369 (by decide : (-1 : Int) ≤ ((-1) : Int32).toInt ∧ ((-1) : Int32).toInt ≤ -1) n_c_370 (by decide)
        refine lv_aload_n hx hb dX10_paste_27 rfl (lv_at hl 0 rfl) ?_
        refine va_get (D := (dC, dI)) (ci := 8) (v := .ref mma) (C := RX10) (T := TX10) (N := 33) hx hb hts iX10_pasteF_X10 hown hK hP 0 rfl rfl 29 (by decide) (hts (.fieldLink RX10 65 "LuckyTicketModel" "many" "[I") (List.mem_of_getElem? (i := 4) rfl)) (fun _ h9 => h9) rfl dX10_paste_28 ?_
        refine lv_iload_n hx hb dX10_paste_31 rfl (lv_at hl 3 rfl) ?_
        refine va_iald hx hb hK hP 1 0 rfl rfl (vp_in_b b_a3 (by decide) (by decide)) dX10_paste_32 ?_
        refine lv_topi (fun z_371 e_z_371 => ?_)
        have b_z_371 : (-1 : Int) ≤ z_371.toInt ∧ z_371.toInt ≤ 60 := rg_at ha_mma (vp_in_b b_a3 (by decide) (by decide)) e_z_371
        have hz_z_371 := gr_f hgR9 (show 0 ≤ a3.toInt ∧ a3.toInt ≤ 3 from ⟨by omega, by omega⟩) e_z_371
        refine lv_iconst (v := (-1)) hx hb dX10_paste_33 (by decide) ?_
        refine lv_icmp_ne (tgt := 40) hx hb dX10_paste_34 (by decide) (fun c_372 => ?_) (fun c_372 => ?_)
        ·
          have n_c_372 : (z_371.toInt : Int) ≠ (-1) := c_ne rfl (by decide) c_372
          have b_z_371 : (0 : Int) ≤ z_371.toInt ∧ z_371.toInt ≤ 60 := r_ne1 b_z_371 (by decide : (-1 : Int) ≤ ((-1) : Int32).toInt ∧ ((-1) : Int32).toInt ≤ -1) n_c_372 (by decide)
          refine lv_aload_n hx hb dX10_paste_40 rfl (lv_at hl 0 rfl) ?_
          refine va_get (D := (dC, dI)) (ci := 8) (v := .ref mwi) (C := RX10) (T := TX10) (N := 33) hx hb hts iX10_pasteF_X10 hown hK hP 0 rfl rfl 30 (by decide) (hts (.fieldLink RX10 68 "LuckyTicketModel" "width" "[I") (List.mem_of_getElem? (i := 5) rfl)) (fun _ h9 => h9) rfl dX10_paste_41 ?_
          refine lv_iload_n hx hb dX10_paste_44 rfl (lv_at hl 1 rfl) ?_
          refine va_iald hx hb hK hP 2 1 rfl rfl (vp_in_b b_a1 (by decide) (by decide)) dX10_paste_45 ?_
          refine lv_topi (fun z_373 e_z_373 => ?_)
          have b_z_373 : (0 : Int) ≤ z_373.toInt ∧ z_373.toInt ≤ 3 := rg_at ha_mwi (vp_in_b b_a1 (by decide) (by decide)) e_z_373
          have hz_z_373 := gr_g hgR9 (show 0 ≤ a1.toInt ∧ a1.toInt ≤ 3 from ⟨by omega, by omega⟩) e_z_373
          refine lv_aload_n hx hb dX10_paste_46 rfl (lv_at hl 0 rfl) ?_
          refine va_get (D := (dC, dI)) (ci := 8) (v := .ref mwi) (C := RX10) (T := TX10) (N := 33) hx hb hts iX10_pasteF_X10 hown hK hP 0 rfl rfl 30 (by decide) (hts (.fieldLink RX10 68 "LuckyTicketModel" "width" "[I") (List.mem_of_getElem? (i := 5) rfl)) (fun _ h9 => h9) rfl dX10_paste_47 ?_
          refine lv_iload_n hx hb dX10_paste_50 rfl (lv_at hl 3 rfl) ?_
          refine va_iald hx hb hK hP 2 1 rfl rfl (vp_in_b b_a3 (by decide) (by decide)) dX10_paste_51 ?_
          refine lv_topi (fun z_374 e_z_374 => ?_)
          have b_z_374 : (0 : Int) ≤ z_374.toInt ∧ z_374.toInt ≤ 3 := rg_at ha_mwi (vp_in_b b_a3 (by decide) (by decide)) e_z_374
          have hz_z_374 := gr_g hgR9 (show 0 ≤ a3.toInt ∧ a3.toInt ≤ 3 from ⟨by omega, by omega⟩) e_z_374
          refine lv_icmp_eq (tgt := 58) hx hb dX10_paste_52 (by decide) (fun c_375 => ?_) (fun c_375 => ?_)
          ·
            have n_c_375 : (z_373.toInt : Int) = z_374.toInt := c_eq rfl rfl c_375
            refine lv_iload_n hx hb dX10_paste_58 rfl (lv_at hl 2 rfl) ?_
            refine lv_if_lt (tgt := 107) hx hb dX10_paste_59 (by decide) (fun c_376 => ?_) (fun c_376 => ?_)
            ·
              have n_c_376 : (a2.toInt : Int) < 0 := c_lt rfl (by decide) c_376
              have b_a2 : (-2147483648 : Int) ≤ a2.toInt ∧ a2.toInt ≤ -1 := r_lt1 (ti_rng a2) (by decide : (0 : Int) ≤ (0 : Int32).toInt ∧ (0 : Int32).toInt ≤ 0) n_c_376 (by decide)
              refine lv_bipush (v := (-7)) hx hb dX10_paste_107 (by decide) ?_
              have hP9 := hP.sub (ws' := [(o0, .inr (8, [.int x_th, .ref mwo, .ref mim, .ref mhi, .ref mlu, .ref mtp, .int x_td, .ref mfv, .int x_sz, .int x_at, .int x_fr, .int x_to, .int x_va, .int x_fk, .int x_fp, .ref mfr, .ref mwt, .int x_wt, .int x_op, .int x_jo, .ref mfg, .ref mpl, .long x_dr, .ref mtm, .ref mfa, .ref mqu, .ref mmo, .ref mwy, .ref mwn, .ref mma, .ref mwi, .ref mnu, .ref mmv])), (mma, .inl (c_ma, 4, .inl w_ma)), (mwi, .inl (c_wi, 4, .inl w_wi)), (mnu, .inl (c_nu, 240, .inr (.inl w_nu))), (mmv, .inl (c_mv, 60, .inr (.inl w_mv)))]) [0, 1, 2, 3, 4] rfl
              have hD9 := hD.sub (ws' := [(o0, .inr (8, [.int x_th, .ref mwo, .ref mim, .ref mhi, .ref mlu, .ref mtp, .int x_td, .ref mfv, .int x_sz, .int x_at, .int x_fr, .int x_to, .int x_va, .int x_fk, .int x_fp, .ref mfr, .ref mwt, .int x_wt, .int x_op, .int x_jo, .ref mfg, .ref mpl, .long x_dr, .ref mtm, .ref mfa, .ref mqu, .ref mmo, .ref mwy, .ref mwn, .ref mma, .ref mwi, .ref mnu, .ref mmv])), (mma, .inl (c_ma, 4, .inl w_ma)), (mwi, .inl (c_wi, 4, .inl w_wi)), (mnu, .inl (c_nu, 240, .inr (.inl w_nu))), (mmv, .inl (c_mv, 60, .inr (.inl w_mv)))]) [0, 1, 2, 3, 4] (by decide) rfl
              have hK9 := hK.sub (tys' := [(c_ma, .int), (c_wi, .int), (c_nu, .long), (c_mv, .long)]) [0, 1, 2, 3] rfl
              exact W.iret (v := (-7)) hx hb hr (fun t ht hW => ⟨⟨(-7), (), rfl, ⟨(rg_w (by decide : (-7 : Int) ≤ ((-7) : Int32).toInt ∧ ((-7) : Int32).toInt ≤ -7) (by decide) (by decide)), (ps_7 (j := a1.toInt.toNat) (t := a3.toInt.toNat) (by omega) (by omega) (by omega) (by omega) (by omega) (by omega))⟩, w_nu, w_mv, by rw [ht]; exact hP9, va_K.moved hW.alike hK9, hD9⟩, hS.F ht⟩) hS.2.2 dX10_paste_109
            ·
              have n_c_376 : (0 : Int) ≤ a2.toInt := c_nlt rfl (by decide) c_376
              have b_a2 : (0 : Int) ≤ a2.toInt ∧ a2.toInt ≤ 2147483647 := r_le2 (by decide : (0 : Int) ≤ (0 : Int32).toInt ∧ (0 : Int32).toInt ≤ 0) (ti_rng a2) n_c_376 (by decide)
              refine lv_iload hx hb dX10_paste_62 (lv_at hl 4 rfl) ?_
              refine lv_if_lt (tgt := 107) hx hb dX10_paste_64 (by decide) (fun c_377 => ?_) (fun c_377 => ?_)
              ·
                have n_c_377 : (a4.toInt : Int) < 0 := c_lt rfl (by decide) c_377
                have b_a4 : (-2147483648 : Int) ≤ a4.toInt ∧ a4.toInt ≤ -1 := r_lt1 (ti_rng a4) (by decide : (0 : Int) ≤ (0 : Int32).toInt ∧ (0 : Int32).toInt ≤ 0) n_c_377 (by decide)
                refine lv_bipush (v := (-7)) hx hb dX10_paste_107 (by decide) ?_
                have hP9 := hP.sub (ws' := [(o0, .inr (8, [.int x_th, .ref mwo, .ref mim, .ref mhi, .ref mlu, .ref mtp, .int x_td, .ref mfv, .int x_sz, .int x_at, .int x_fr, .int x_to, .int x_va, .int x_fk, .int x_fp, .ref mfr, .ref mwt, .int x_wt, .int x_op, .int x_jo, .ref mfg, .ref mpl, .long x_dr, .ref mtm, .ref mfa, .ref mqu, .ref mmo, .ref mwy, .ref mwn, .ref mma, .ref mwi, .ref mnu, .ref mmv])), (mma, .inl (c_ma, 4, .inl w_ma)), (mwi, .inl (c_wi, 4, .inl w_wi)), (mnu, .inl (c_nu, 240, .inr (.inl w_nu))), (mmv, .inl (c_mv, 60, .inr (.inl w_mv)))]) [0, 1, 2, 3, 4] rfl
                have hD9 := hD.sub (ws' := [(o0, .inr (8, [.int x_th, .ref mwo, .ref mim, .ref mhi, .ref mlu, .ref mtp, .int x_td, .ref mfv, .int x_sz, .int x_at, .int x_fr, .int x_to, .int x_va, .int x_fk, .int x_fp, .ref mfr, .ref mwt, .int x_wt, .int x_op, .int x_jo, .ref mfg, .ref mpl, .long x_dr, .ref mtm, .ref mfa, .ref mqu, .ref mmo, .ref mwy, .ref mwn, .ref mma, .ref mwi, .ref mnu, .ref mmv])), (mma, .inl (c_ma, 4, .inl w_ma)), (mwi, .inl (c_wi, 4, .inl w_wi)), (mnu, .inl (c_nu, 240, .inr (.inl w_nu))), (mmv, .inl (c_mv, 60, .inr (.inl w_mv)))]) [0, 1, 2, 3, 4] (by decide) rfl
                have hK9 := hK.sub (tys' := [(c_ma, .int), (c_wi, .int), (c_nu, .long), (c_mv, .long)]) [0, 1, 2, 3] rfl
                exact W.iret (v := (-7)) hx hb hr (fun t ht hW => ⟨⟨(-7), (), rfl, ⟨(rg_w (by decide : (-7 : Int) ≤ ((-7) : Int32).toInt ∧ ((-7) : Int32).toInt ≤ -7) (by decide) (by decide)), (ps_7 (j := a1.toInt.toNat) (t := a3.toInt.toNat) (by omega) (by omega) (by omega) (by omega) (by omega) (by omega))⟩, w_nu, w_mv, by rw [ht]; exact hP9, va_K.moved hW.alike hK9, hD9⟩, hS.F ht⟩) hS.2.2 dX10_paste_109
              ·
                have n_c_377 : (0 : Int) ≤ a4.toInt := c_nlt rfl (by decide) c_377
                have b_a4 : (0 : Int) ≤ a4.toInt ∧ a4.toInt ≤ 2147483647 := r_le2 (by decide : (0 : Int) ≤ (0 : Int32).toInt ∧ (0 : Int32).toInt ≤ 0) (ti_rng a4) n_c_377 (by decide)
                refine lv_iload hx hb dX10_paste_67 (lv_at hl 5 rfl) ?_
                refine lv_if_lt (tgt := 107) hx hb dX10_paste_69 (by decide) (fun c_378 => ?_) (fun c_378 => ?_)
                ·
                  have n_c_378 : (a5.toInt : Int) < 0 := c_lt rfl (by decide) c_378
                  have b_a5 : (-2147483648 : Int) ≤ a5.toInt ∧ a5.toInt ≤ -1 := r_lt1 (ti_rng a5) (by decide : (0 : Int) ≤ (0 : Int32).toInt ∧ (0 : Int32).toInt ≤ 0) n_c_378 (by decide)
                  refine lv_bipush (v := (-7)) hx hb dX10_paste_107 (by decide) ?_
                  have hP9 := hP.sub (ws' := [(o0, .inr (8, [.int x_th, .ref mwo, .ref mim, .ref mhi, .ref mlu, .ref mtp, .int x_td, .ref mfv, .int x_sz, .int x_at, .int x_fr, .int x_to, .int x_va, .int x_fk, .int x_fp, .ref mfr, .ref mwt, .int x_wt, .int x_op, .int x_jo, .ref mfg, .ref mpl, .long x_dr, .ref mtm, .ref mfa, .ref mqu, .ref mmo, .ref mwy, .ref mwn, .ref mma, .ref mwi, .ref mnu, .ref mmv])), (mma, .inl (c_ma, 4, .inl w_ma)), (mwi, .inl (c_wi, 4, .inl w_wi)), (mnu, .inl (c_nu, 240, .inr (.inl w_nu))), (mmv, .inl (c_mv, 60, .inr (.inl w_mv)))]) [0, 1, 2, 3, 4] rfl
                  have hD9 := hD.sub (ws' := [(o0, .inr (8, [.int x_th, .ref mwo, .ref mim, .ref mhi, .ref mlu, .ref mtp, .int x_td, .ref mfv, .int x_sz, .int x_at, .int x_fr, .int x_to, .int x_va, .int x_fk, .int x_fp, .ref mfr, .ref mwt, .int x_wt, .int x_op, .int x_jo, .ref mfg, .ref mpl, .long x_dr, .ref mtm, .ref mfa, .ref mqu, .ref mmo, .ref mwy, .ref mwn, .ref mma, .ref mwi, .ref mnu, .ref mmv])), (mma, .inl (c_ma, 4, .inl w_ma)), (mwi, .inl (c_wi, 4, .inl w_wi)), (mnu, .inl (c_nu, 240, .inr (.inl w_nu))), (mmv, .inl (c_mv, 60, .inr (.inl w_mv)))]) [0, 1, 2, 3, 4] (by decide) rfl
                  have hK9 := hK.sub (tys' := [(c_ma, .int), (c_wi, .int), (c_nu, .long), (c_mv, .long)]) [0, 1, 2, 3] rfl
                  exact W.iret (v := (-7)) hx hb hr (fun t ht hW => ⟨⟨(-7), (), rfl, ⟨(rg_w (by decide : (-7 : Int) ≤ ((-7) : Int32).toInt ∧ ((-7) : Int32).toInt ≤ -7) (by decide) (by decide)), (ps_7 (j := a1.toInt.toNat) (t := a3.toInt.toNat) (by omega) (by omega) (by omega) (by omega) (by omega) (by omega))⟩, w_nu, w_mv, by rw [ht]; exact hP9, va_K.moved hW.alike hK9, hD9⟩, hS.F ht⟩) hS.2.2 dX10_paste_109
                ·
                  have n_c_378 : (0 : Int) ≤ a5.toInt := c_nlt rfl (by decide) c_378
                  have b_a5 : (0 : Int) ≤ a5.toInt ∧ a5.toInt ≤ 2147483647 := r_le2 (by decide : (0 : Int) ≤ (0 : Int32).toInt ∧ (0 : Int32).toInt ≤ 0) (ti_rng a5) n_c_378 (by decide)
                  refine lv_iload_n hx hb dX10_paste_72 rfl (lv_at hl 2 rfl) ?_
                  obtain ⟨z_379, e_z_379⟩ : ∃ y : Int64, y = a2.toInt64 := ⟨_, rfl⟩
                  refine lv_i2l (v := z_379) hx hb dX10_paste_73 e_z_379.symm ?_
                  obtain ⟨q_z_379, b_z_379⟩ := ti_i2l e_z_379 b_a2
                  refine lv_iload hx hb dX10_paste_74 (lv_at hl 5 rfl) ?_
                  obtain ⟨z_380, e_z_380⟩ : ∃ y : Int64, y = a5.toInt64 := ⟨_, rfl⟩
                  refine lv_i2l (v := z_380) hx hb dX10_paste_76 e_z_380.symm ?_
                  obtain ⟨q_z_380, b_z_380⟩ := ti_i2l e_z_380 b_a5
                  refine lv_ladd hx hb dX10_paste_77 ?_
                  refine lv_topl (fun z_381 e_z_381 => ?_)
                  obtain ⟨q_z_381, b_z_381⟩ := tl_add (lo := 0) (hi := 4294967294) e_z_381 rfl rfl b_z_379 b_z_380 (by decide)
                  refine lv_aload_n hx hb dX10_paste_78 rfl (lv_at hl 0 rfl) ?_
                  refine va_get (D := (dC, dI)) (ci := 8) (v := .ref mma) (C := RX10) (T := TX10) (N := 33) hx hb hts iX10_pasteF_X10 hown hK hP 0 rfl rfl 29 (by decide) (hts (.fieldLink RX10 65 "LuckyTicketModel" "many" "[I") (List.mem_of_getElem? (i := 4) rfl)) (fun _ h9 => h9) rfl dX10_paste_79 ?_
                  refine lv_iload_n hx hb dX10_paste_82 rfl (lv_at hl 1 rfl) ?_
                  refine va_iald hx hb hK hP 1 0 rfl rfl (vp_in_b b_a1 (by decide) (by decide)) dX10_paste_83 ?_
                  refine lv_topi (fun z_382 e_z_382 => ?_)
                  have b_z_382 : (-1 : Int) ≤ z_382.toInt ∧ z_382.toInt ≤ 60 := rg_at ha_mma (vp_in_b b_a1 (by decide) (by decide)) e_z_382
                  have hz_z_382 := gr_f hgR9 (show 0 ≤ a1.toInt ∧ a1.toInt ≤ 3 from ⟨by omega, by omega⟩) e_z_382
                  obtain ⟨z_383, e_z_383⟩ : ∃ y : Int64, y = z_382.toInt64 := ⟨_, rfl⟩
                  refine lv_i2l (v := z_383) hx hb dX10_paste_84 e_z_383.symm ?_
                  obtain ⟨q_z_383, b_z_383⟩ := ti_i2l e_z_383 b_z_382
                  refine W.lcmp hx hb dX10_paste_85 ?_
                  refine lv_if_gt (tgt := 107) hx hb dX10_paste_86 (by decide) (fun c_384 => ?_) (fun c_384 => ?_)
                  ·
                    have n_c_384 : (z_383.toInt : Int) < z_381.toInt := g_gt rfl rfl c_384
                    refine lv_bipush (v := (-7)) hx hb dX10_paste_107 (by decide) ?_
                    have hP9 := hP.sub (ws' := [(o0, .inr (8, [.int x_th, .ref mwo, .ref mim, .ref mhi, .ref mlu, .ref mtp, .int x_td, .ref mfv, .int x_sz, .int x_at, .int x_fr, .int x_to, .int x_va, .int x_fk, .int x_fp, .ref mfr, .ref mwt, .int x_wt, .int x_op, .int x_jo, .ref mfg, .ref mpl, .long x_dr, .ref mtm, .ref mfa, .ref mqu, .ref mmo, .ref mwy, .ref mwn, .ref mma, .ref mwi, .ref mnu, .ref mmv])), (mma, .inl (c_ma, 4, .inl w_ma)), (mwi, .inl (c_wi, 4, .inl w_wi)), (mnu, .inl (c_nu, 240, .inr (.inl w_nu))), (mmv, .inl (c_mv, 60, .inr (.inl w_mv)))]) [0, 1, 2, 3, 4] rfl
                    have hD9 := hD.sub (ws' := [(o0, .inr (8, [.int x_th, .ref mwo, .ref mim, .ref mhi, .ref mlu, .ref mtp, .int x_td, .ref mfv, .int x_sz, .int x_at, .int x_fr, .int x_to, .int x_va, .int x_fk, .int x_fp, .ref mfr, .ref mwt, .int x_wt, .int x_op, .int x_jo, .ref mfg, .ref mpl, .long x_dr, .ref mtm, .ref mfa, .ref mqu, .ref mmo, .ref mwy, .ref mwn, .ref mma, .ref mwi, .ref mnu, .ref mmv])), (mma, .inl (c_ma, 4, .inl w_ma)), (mwi, .inl (c_wi, 4, .inl w_wi)), (mnu, .inl (c_nu, 240, .inr (.inl w_nu))), (mmv, .inl (c_mv, 60, .inr (.inl w_mv)))]) [0, 1, 2, 3, 4] (by decide) rfl
                    have hK9 := hK.sub (tys' := [(c_ma, .int), (c_wi, .int), (c_nu, .long), (c_mv, .long)]) [0, 1, 2, 3] rfl
                    exact W.iret (v := (-7)) hx hb hr (fun t ht hW => ⟨⟨(-7), (), rfl, ⟨(rg_w (by decide : (-7 : Int) ≤ ((-7) : Int32).toInt ∧ ((-7) : Int32).toInt ≤ -7) (by decide) (by decide)), (ps_7 (j := a1.toInt.toNat) (t := a3.toInt.toNat) (by omega) (by omega) (by omega) (by omega) (by omega) (by omega))⟩, w_nu, w_mv, by rw [ht]; exact hP9, va_K.moved hW.alike hK9, hD9⟩, hS.F ht⟩) hS.2.2 dX10_paste_109
                  ·
                    have n_c_384 : (z_381.toInt : Int) ≤ z_383.toInt := g_ngt rfl rfl c_384
                    have b_z_381 : (0 : Int) ≤ z_381.toInt ∧ z_381.toInt ≤ 60 := r_le1 b_z_381 b_z_383 n_c_384 (by decide)
                    have b_z_379 : (0 : Int) ≤ z_379.toInt ∧ z_379.toInt ≤ 60 := by
                      have q0 := b_z_381; have q1 := q_z_381; have q2 := b_z_379; have q3 := b_z_380; omega
                    have b_a2 : (0 : Int) ≤ a2.toInt ∧ a2.toInt ≤ 60 := by
                      have q0 := b_z_379; have q1 := q_z_379; have q2 := b_a2; omega
                    have b_z_380 : (0 : Int) ≤ z_380.toInt ∧ z_380.toInt ≤ 60 := by
                      have q0 := b_z_381; have q1 := q_z_381; have q2 := b_z_380; have q3 := b_z_379; omega
                    have b_a5 : (0 : Int) ≤ a5.toInt ∧ a5.toInt ≤ 60 := by
                      have q0 := b_z_380; have q1 := q_z_380; have q2 := b_a5; omega
                    have b_z_383 : (0 : Int) ≤ z_383.toInt ∧ z_383.toInt ≤ 60 := r_le2 b_z_381 b_z_383 n_c_384 (by decide)
                    have b_z_382 : (0 : Int) ≤ z_382.toInt ∧ z_382.toInt ≤ 60 := by
                      have q0 := b_z_383; have q1 := q_z_383; have q2 := b_z_382; omega
                    refine lv_iload hx hb dX10_paste_89 (lv_at hl 4 rfl) ?_
                    obtain ⟨z_385, e_z_385⟩ : ∃ y : Int64, y = a4.toInt64 := ⟨_, rfl⟩
                    refine lv_i2l (v := z_385) hx hb dX10_paste_91 e_z_385.symm ?_
                    obtain ⟨q_z_385, b_z_385⟩ := ti_i2l e_z_385 b_a4
                    refine lv_iload hx hb dX10_paste_92 (lv_at hl 5 rfl) ?_
                    obtain ⟨z_386, e_z_386⟩ : ∃ y : Int64, y = a5.toInt64 := ⟨_, rfl⟩
                    refine lv_i2l (v := z_386) hx hb dX10_paste_94 e_z_386.symm ?_
                    obtain ⟨q_z_386, b_z_386⟩ := ti_i2l e_z_386 b_a5
                    refine lv_ladd hx hb dX10_paste_95 ?_
                    refine lv_topl (fun z_387 e_z_387 => ?_)
                    obtain ⟨q_z_387, b_z_387⟩ := tl_add (lo := 0) (hi := 2147483707) e_z_387 rfl rfl b_z_385 b_z_386 (by decide)
                    refine lv_aload_n hx hb dX10_paste_96 rfl (lv_at hl 0 rfl) ?_
                    refine va_get (D := (dC, dI)) (ci := 8) (v := .ref mma) (C := RX10) (T := TX10) (N := 33) hx hb hts iX10_pasteF_X10 hown hK hP 0 rfl rfl 29 (by decide) (hts (.fieldLink RX10 65 "LuckyTicketModel" "many" "[I") (List.mem_of_getElem? (i := 4) rfl)) (fun _ h9 => h9) rfl dX10_paste_97 ?_
                    refine lv_iload_n hx hb dX10_paste_100 rfl (lv_at hl 3 rfl) ?_
                    refine va_iald hx hb hK hP 1 0 rfl rfl (vp_in_b b_a3 (by decide) (by decide)) dX10_paste_101 ?_
                    refine lv_topi (fun z_388 e_z_388 => ?_)
                    have b_z_388 : (-1 : Int) ≤ z_388.toInt ∧ z_388.toInt ≤ 60 := rg_at ha_mma (vp_in_b b_a3 (by decide) (by decide)) e_z_388
                    have hz_z_388 := gr_f hgR9 (show 0 ≤ a3.toInt ∧ a3.toInt ≤ 3 from ⟨by omega, by omega⟩) e_z_388
                    obtain ⟨z_389, e_z_389⟩ : ∃ y : Int64, y = z_388.toInt64 := ⟨_, rfl⟩
                    refine lv_i2l (v := z_389) hx hb dX10_paste_102 e_z_389.symm ?_
                    obtain ⟨q_z_389, b_z_389⟩ := ti_i2l e_z_389 b_z_388
                    refine W.lcmp hx hb dX10_paste_103 ?_
                    refine lv_if_le (tgt := 110) hx hb dX10_paste_104 (by decide) (fun c_390 => ?_) (fun c_390 => ?_)
                    ·
                      have n_c_390 : (z_387.toInt : Int) ≤ z_389.toInt := g_le rfl rfl c_390
                      have b_z_387 : (0 : Int) ≤ z_387.toInt ∧ z_387.toInt ≤ 60 := r_le1 b_z_387 b_z_389 n_c_390 (by decide)
                      have b_z_385 : (0 : Int) ≤ z_385.toInt ∧ z_385.toInt ≤ 60 := by
                        have q0 := b_z_387; have q1 := q_z_387; have q2 := b_z_385; have q3 := b_z_386; omega
                      have b_a4 : (0 : Int) ≤ a4.toInt ∧ a4.toInt ≤ 60 := by
                        have q0 := b_z_385; have q1 := q_z_385; have q2 := b_a4; omega
                      have b_z_389 : (0 : Int) ≤ z_389.toInt ∧ z_389.toInt ≤ 60 := r_le2 b_z_387 b_z_389 n_c_390 (by decide)
                      have b_z_388 : (0 : Int) ≤ z_388.toInt ∧ z_388.toInt ≤ 60 := by
                        have q0 := b_z_389; have q1 := q_z_389; have q2 := b_z_388; omega
                      refine lv_iconst (v := 0) hx hb dX10_paste_110 (by decide) ?_
                      refine lv_istore (lv' := [(6, .int 0), (0, .ref o0), (1, .int a1), (2, .int a2), (3, .int a3), (4, .int a4), (5, .int a5)]) hx hb dX10_paste_111 hl (by decide) rfl (fun ls hl => ?_)
                      refine loopW (σ := Int32 × (Nat → Int64)) (fun v => (60 - v.1.toInt).toNat) (fun v H locs ls => ((0 : Int) ≤ v.1.toInt ∧ v.1.toInt ≤ 60) ∧ va_P (dC, dI) vwCl [(o0, .inr (8, [.int x_th, .ref mwo, .ref mim, .ref mhi, .ref mlu, .ref mtp, .int x_td, .ref mfv, .int x_sz, .int x_at, .int x_fr, .int x_to, .int x_va, .int x_fk, .int x_fp, .ref mfr, .ref mwt, .int x_wt, .int x_op, .int x_jo, .ref mfg, .ref mpl, .long x_dr, .ref mtm, .ref mfa, .ref mqu, .ref mmo, .ref mwy, .ref mwn, .ref mma, .ref mwi, .ref mnu, .ref mmv])), (mma, .inl (c_ma, 4, .inl w_ma)), (mwi, .inl (c_wi, 4, .inl w_wi)), (mnu, .inl (c_nu, 240, .inr (.inl w_nu))), (mmv, .inl (c_mv, 60, .inr (.inl v.2)))] H ∧ va_D A [(o0, .inr (8, [.int x_th, .ref mwo, .ref mim, .ref mhi, .ref mlu, .ref mtp, .int x_td, .ref mfv, .int x_sz, .int x_at, .int x_fr, .int x_to, .int x_va, .int x_fk, .int x_fp, .ref mfr, .ref mwt, .int x_wt, .int x_op, .int x_jo, .ref mfg, .ref mpl, .long x_dr, .ref mtm, .ref mfa, .ref mqu, .ref mmo, .ref mwy, .ref mwn, .ref mma, .ref mwi, .ref mnu, .ref mmv])), (mma, .inl (c_ma, 4, .inl w_ma)), (mwi, .inl (c_wi, 4, .inl w_wi)), (mnu, .inl (c_nu, 240, .inr (.inl w_nu))), (mmv, .inl (c_mv, 60, .inr (.inl v.2)))] ∧ va_S A s.heap H locs ∧ lv_has ls 7 [(6, .int v.1), (0, .ref o0), (1, .int a1), (2, .int a2), (3, .int a3), (4, .int a4), (5, .int a5)]) (fun v H locs ls hI ih_113_657 => ?_) ((0 : Int32), w_mv) ⟨(show (0 : Int) ≤ (0 : Int32).toInt ∧ (0 : Int32).toInt ≤ 60 from (rg_w (by decide : (0 : Int) ≤ (0 : Int32).toInt ∧ (0 : Int32).toInt ≤ 0) (by decide) (by decide))), hP, hD, hS, lv_sub hl [0, 1, 2, 3, 4, 5, 6] rfl⟩
                      obtain ⟨y_406, f_407⟩ := v
                      obtain ⟨b_y_406, hP, hD, hS, hl⟩ := hI
                      have b_y_406 : (0 : Int) ≤ y_406.toInt ∧ y_406.toInt ≤ 60 := b_y_406
                      have hP : va_P (dC, dI) vwCl [(o0, .inr (8, [.int x_th, .ref mwo, .ref mim, .ref mhi, .ref mlu, .ref mtp, .int x_td, .ref mfv, .int x_sz, .int x_at, .int x_fr, .int x_to, .int x_va, .int x_fk, .int x_fp, .ref mfr, .ref mwt, .int x_wt, .int x_op, .int x_jo, .ref mfg, .ref mpl, .long x_dr, .ref mtm, .ref mfa, .ref mqu, .ref mmo, .ref mwy, .ref mwn, .ref mma, .ref mwi, .ref mnu, .ref mmv])), (mma, .inl (c_ma, 4, .inl w_ma)), (mwi, .inl (c_wi, 4, .inl w_wi)), (mnu, .inl (c_nu, 240, .inr (.inl w_nu))), (mmv, .inl (c_mv, 60, .inr (.inl f_407)))] H := hP
                      have hD : va_D A [(o0, .inr (8, [.int x_th, .ref mwo, .ref mim, .ref mhi, .ref mlu, .ref mtp, .int x_td, .ref mfv, .int x_sz, .int x_at, .int x_fr, .int x_to, .int x_va, .int x_fk, .int x_fp, .ref mfr, .ref mwt, .int x_wt, .int x_op, .int x_jo, .ref mfg, .ref mpl, .long x_dr, .ref mtm, .ref mfa, .ref mqu, .ref mmo, .ref mwy, .ref mwn, .ref mma, .ref mwi, .ref mnu, .ref mmv])), (mma, .inl (c_ma, 4, .inl w_ma)), (mwi, .inl (c_wi, 4, .inl w_wi)), (mnu, .inl (c_nu, 240, .inr (.inl w_nu))), (mmv, .inl (c_mv, 60, .inr (.inl f_407)))] := hD
                      have hl : lv_has ls 7 [(6, .int y_406), (0, .ref o0), (1, .int a1), (2, .int a2), (3, .int a3), (4, .int a4), (5, .int a5)] := hl
                      refine lv_iload hx hb dX10_paste_113 (lv_at hl 0 rfl) ?_
                      refine lv_iload hx hb dX10_paste_115 (lv_at hl 6 rfl) ?_
                      refine lv_icmp_ge (tgt := 147) hx hb dX10_paste_117 (by decide) (fun c_658 => ?_) (fun c_658 => ?_)
                      ·
                        have n_c_658 : (a5.toInt : Int) ≤ y_406.toInt := c_ge rfl rfl c_658
                        refine lv_iconst (v := 0) hx hb dX10_paste_147 (by decide) ?_
                        refine lv_istore (lv' := [(6, .int 0), (0, .ref o0), (1, .int a1), (2, .int a2), (3, .int a3), (4, .int a4), (5, .int a5)]) hx hb dX10_paste_148 hl (by decide) rfl (fun ls hl => ?_)
                        refine loopW (σ := Int32 × (Nat → Int64)) (fun v => (60 - v.1.toInt).toNat) (fun v H locs ls => ((0 : Int) ≤ v.1.toInt ∧ v.1.toInt ≤ 60) ∧ va_P (dC, dI) vwCl [(o0, .inr (8, [.int x_th, .ref mwo, .ref mim, .ref mhi, .ref mlu, .ref mtp, .int x_td, .ref mfv, .int x_sz, .int x_at, .int x_fr, .int x_to, .int x_va, .int x_fk, .int x_fp, .ref mfr, .ref mwt, .int x_wt, .int x_op, .int x_jo, .ref mfg, .ref mpl, .long x_dr, .ref mtm, .ref mfa, .ref mqu, .ref mmo, .ref mwy, .ref mwn, .ref mma, .ref mwi, .ref mnu, .ref mmv])), (mma, .inl (c_ma, 4, .inl w_ma)), (mwi, .inl (c_wi, 4, .inl w_wi)), (mnu, .inl (c_nu, 240, .inr (.inl v.2))), (mmv, .inl (c_mv, 60, .inr (.inl f_407)))] H ∧ va_D A [(o0, .inr (8, [.int x_th, .ref mwo, .ref mim, .ref mhi, .ref mlu, .ref mtp, .int x_td, .ref mfv, .int x_sz, .int x_at, .int x_fr, .int x_to, .int x_va, .int x_fk, .int x_fp, .ref mfr, .ref mwt, .int x_wt, .int x_op, .int x_jo, .ref mfg, .ref mpl, .long x_dr, .ref mtm, .ref mfa, .ref mqu, .ref mmo, .ref mwy, .ref mwn, .ref mma, .ref mwi, .ref mnu, .ref mmv])), (mma, .inl (c_ma, 4, .inl w_ma)), (mwi, .inl (c_wi, 4, .inl w_wi)), (mnu, .inl (c_nu, 240, .inr (.inl v.2))), (mmv, .inl (c_mv, 60, .inr (.inl f_407)))] ∧ va_S A s.heap H locs ∧ lv_has ls 7 [(6, .int v.1), (0, .ref o0), (1, .int a1), (2, .int a2), (3, .int a3), (4, .int a4), (5, .int a5)]) (fun v H locs ls hI ih_150_708 => ?_) ((0 : Int32), w_nu) ⟨(show (0 : Int) ≤ (0 : Int32).toInt ∧ (0 : Int32).toInt ≤ 60 from (rg_w (by decide : (0 : Int) ≤ (0 : Int32).toInt ∧ (0 : Int32).toInt ≤ 0) (by decide) (by decide))), hP, hD, hS, lv_sub hl [0, 1, 2, 3, 4, 5, 6] rfl⟩
                        obtain ⟨y_672, f_673⟩ := v
                        obtain ⟨b_y_672, hP, hD, hS, hl⟩ := hI
                        have b_y_672 : (0 : Int) ≤ y_672.toInt ∧ y_672.toInt ≤ 60 := b_y_672
                        have hP : va_P (dC, dI) vwCl [(o0, .inr (8, [.int x_th, .ref mwo, .ref mim, .ref mhi, .ref mlu, .ref mtp, .int x_td, .ref mfv, .int x_sz, .int x_at, .int x_fr, .int x_to, .int x_va, .int x_fk, .int x_fp, .ref mfr, .ref mwt, .int x_wt, .int x_op, .int x_jo, .ref mfg, .ref mpl, .long x_dr, .ref mtm, .ref mfa, .ref mqu, .ref mmo, .ref mwy, .ref mwn, .ref mma, .ref mwi, .ref mnu, .ref mmv])), (mma, .inl (c_ma, 4, .inl w_ma)), (mwi, .inl (c_wi, 4, .inl w_wi)), (mnu, .inl (c_nu, 240, .inr (.inl f_673))), (mmv, .inl (c_mv, 60, .inr (.inl f_407)))] H := hP
                        have hD : va_D A [(o0, .inr (8, [.int x_th, .ref mwo, .ref mim, .ref mhi, .ref mlu, .ref mtp, .int x_td, .ref mfv, .int x_sz, .int x_at, .int x_fr, .int x_to, .int x_va, .int x_fk, .int x_fp, .ref mfr, .ref mwt, .int x_wt, .int x_op, .int x_jo, .ref mfg, .ref mpl, .long x_dr, .ref mtm, .ref mfa, .ref mqu, .ref mmo, .ref mwy, .ref mwn, .ref mma, .ref mwi, .ref mnu, .ref mmv])), (mma, .inl (c_ma, 4, .inl w_ma)), (mwi, .inl (c_wi, 4, .inl w_wi)), (mnu, .inl (c_nu, 240, .inr (.inl f_673))), (mmv, .inl (c_mv, 60, .inr (.inl f_407)))] := hD
                        have hl : lv_has ls 7 [(6, .int y_672), (0, .ref o0), (1, .int a1), (2, .int a2), (3, .int a3), (4, .int a4), (5, .int a5)] := hl
                        refine lv_iload hx hb dX10_paste_150 (lv_at hl 0 rfl) ?_
                        refine lv_iload hx hb dX10_paste_152 (lv_at hl 6 rfl) ?_
                        refine lv_icmp_ge (tgt := 185) hx hb dX10_paste_154 (by decide) (fun c_709 => ?_) (fun c_709 => ?_)
                        ·
                          have n_c_709 : (a5.toInt : Int) ≤ y_672.toInt := c_ge rfl rfl c_709
                          refine lv_iconst (v := 0) hx hb dX10_paste_185 (by decide) ?_
                          have hP9 := hP.sub (ws' := [(o0, .inr (8, [.int x_th, .ref mwo, .ref mim, .ref mhi, .ref mlu, .ref mtp, .int x_td, .ref mfv, .int x_sz, .int x_at, .int x_fr, .int x_to, .int x_va, .int x_fk, .int x_fp, .ref mfr, .ref mwt, .int x_wt, .int x_op, .int x_jo, .ref mfg, .ref mpl, .long x_dr, .ref mtm, .ref mfa, .ref mqu, .ref mmo, .ref mwy, .ref mwn, .ref mma, .ref mwi, .ref mnu, .ref mmv])), (mma, .inl (c_ma, 4, .inl w_ma)), (mwi, .inl (c_wi, 4, .inl w_wi)), (mnu, .inl (c_nu, 240, .inr (.inl f_673))), (mmv, .inl (c_mv, 60, .inr (.inl f_407)))]) [0, 1, 2, 3, 4] rfl
                          have hD9 := hD.sub (ws' := [(o0, .inr (8, [.int x_th, .ref mwo, .ref mim, .ref mhi, .ref mlu, .ref mtp, .int x_td, .ref mfv, .int x_sz, .int x_at, .int x_fr, .int x_to, .int x_va, .int x_fk, .int x_fp, .ref mfr, .ref mwt, .int x_wt, .int x_op, .int x_jo, .ref mfg, .ref mpl, .long x_dr, .ref mtm, .ref mfa, .ref mqu, .ref mmo, .ref mwy, .ref mwn, .ref mma, .ref mwi, .ref mnu, .ref mmv])), (mma, .inl (c_ma, 4, .inl w_ma)), (mwi, .inl (c_wi, 4, .inl w_wi)), (mnu, .inl (c_nu, 240, .inr (.inl f_673))), (mmv, .inl (c_mv, 60, .inr (.inl f_407)))]) [0, 1, 2, 3, 4] (by decide) rfl
                          have hK9 := hK.sub (tys' := [(c_ma, .int), (c_wi, .int), (c_nu, .long), (c_mv, .long)]) [0, 1, 2, 3] rfl
                          exact W.iret (v := 0) hx hb hr (fun t ht hW => ⟨⟨0, (), rfl, ⟨(rg_w (by decide : (0 : Int) ≤ (0 : Int32).toInt ∧ (0 : Int32).toInt ≤ 0) (by decide) (by decide)), (ps_0 (j := a1.toInt.toNat) (t := a3.toInt.toNat) (by omega) (by omega) (by omega) (by omega) (by omega) (by omega))⟩, f_673, f_407, by rw [ht]; exact hP9, va_K.moved hW.alike hK9, hD9⟩, hS.F ht⟩) hS.2.2 dX10_paste_186
                        ·
                          have n_c_709 : (y_672.toInt : Int) < a5.toInt := c_nge rfl rfl c_709
                          have b_y_672 : (0 : Int) ≤ y_672.toInt ∧ y_672.toInt ≤ 59 := r_lt1 b_y_672 b_a5 n_c_709 (by decide)
                          have b_a5 : (1 : Int) ≤ a5.toInt ∧ a5.toInt ≤ 60 := r_lt2 b_y_672 b_a5 n_c_709 (by decide)
                          refine lv_aload_n hx hb dX10_paste_157 rfl (lv_at hl 1 rfl) ?_
                          refine va_get (D := (dC, dI)) (ci := 8) (v := .ref mnu) (C := RX10) (T := TX10) (N := 33) hx hb hts iX10_pasteF_X10 hown hK hP 0 rfl rfl 31 (by decide) (hts (.fieldLink RX10 71 "LuckyTicketModel" "numbers" "[J") (List.mem_of_getElem? (i := 7) rfl)) (fun _ h9 => h9) rfl dX10_paste_158 ?_
                          refine lv_bipush (v := 60) hx hb dX10_paste_161 (by decide) ?_
                          refine lv_iload_n hx hb dX10_paste_163 rfl (lv_at hl 4 rfl) ?_
                          refine lv_imul hx hb dX10_paste_164 ?_
                          refine lv_topi (fun z_710 e_z_710 => ?_)
                          obtain ⟨q_z_710, b_z_710⟩ := ti_mul (lo := 0) (hi := 180) e_z_710 (by decide : (60 : Int32).toInt = 60) rfl (by decide : (60 : Int) ≤ (60 : Int32).toInt ∧ (60 : Int32).toInt ≤ 60) b_a3 (by decide)
                          refine lv_iload hx hb dX10_paste_165 (lv_at hl 5 rfl) ?_
                          refine lv_iadd hx hb dX10_paste_167 ?_
                          refine lv_topi (fun z_711 e_z_711 => ?_)
                          obtain ⟨q_z_711, b_z_711⟩ := ti_add (lo := 0) (hi := 240) e_z_711 rfl rfl b_z_710 b_a4 (by decide)
                          refine lv_iload hx hb dX10_paste_168 (lv_at hl 0 rfl) ?_
                          refine lv_iadd hx hb dX10_paste_170 ?_
                          refine lv_topi (fun z_712 e_z_712 => ?_)
                          obtain ⟨q_z_712, b_z_712⟩ := ti_add (lo := 0) (hi := 299) e_z_712 rfl rfl b_z_711 b_y_672 (by decide)
                          refine lv_aload_n hx hb dX10_paste_171 rfl (lv_at hl 1 rfl) ?_
                          refine va_get (D := (dC, dI)) (ci := 8) (v := .ref mmv) (C := RX10) (T := TX10) (N := 33) hx hb hts iX10_pasteF_X10 hown hK hP 0 rfl rfl 32 (by decide) (hts (.fieldLink RX10 74 "LuckyTicketModel" "moving" "[J") (List.mem_of_getElem? (i := 6) rfl)) (fun _ h9 => h9) rfl dX10_paste_172 ?_
                          refine lv_iload hx hb dX10_paste_175 (lv_at hl 0 rfl) ?_
                          refine va_lald hx hb hK hP 4 3 rfl rfl (vp_in_b b_y_672 (by decide) (by decide)) dX10_paste_177 ?_
                          refine lv_topl (fun z_713 e_z_713 => ?_)
                          refine va_last hx hb hK hP hD hS 3 2 rfl rfl (vp_in_iff.mpr ⟨by omega, by omega⟩) dX10_paste_178 (fun H locs hP hD hS => ?_)
                          have hP : va_P (dC, dI) vwCl [(o0, .inr (8, [.int x_th, .ref mwo, .ref mim, .ref mhi, .ref mlu, .ref mtp, .int x_td, .ref mfv, .int x_sz, .int x_at, .int x_fr, .int x_to, .int x_va, .int x_fk, .int x_fp, .ref mfr, .ref mwt, .int x_wt, .int x_op, .int x_jo, .ref mfg, .ref mpl, .long x_dr, .ref mtm, .ref mfa, .ref mqu, .ref mmo, .ref mwy, .ref mwn, .ref mma, .ref mwi, .ref mnu, .ref mmv])), (mma, .inl (c_ma, 4, .inl w_ma)), (mwi, .inl (c_wi, 4, .inl w_wi)), (mnu, .inl (c_nu, 240, .inr (.inl (vp_updL f_673 (z_712 : Int32).toNatClampNeg z_713)))), (mmv, .inl (c_mv, 60, .inr (.inl f_407)))] H := hP
                          have hD : va_D A [(o0, .inr (8, [.int x_th, .ref mwo, .ref mim, .ref mhi, .ref mlu, .ref mtp, .int x_td, .ref mfv, .int x_sz, .int x_at, .int x_fr, .int x_to, .int x_va, .int x_fk, .int x_fp, .ref mfr, .ref mwt, .int x_wt, .int x_op, .int x_jo, .ref mfg, .ref mpl, .long x_dr, .ref mtm, .ref mfa, .ref mqu, .ref mmo, .ref mwy, .ref mwn, .ref mma, .ref mwi, .ref mnu, .ref mmv])), (mma, .inl (c_ma, 4, .inl w_ma)), (mwi, .inl (c_wi, 4, .inl w_wi)), (mnu, .inl (c_nu, 240, .inr (.inl (vp_updL f_673 (z_712 : Int32).toNatClampNeg z_713)))), (mmv, .inl (c_mv, 60, .inr (.inl f_407)))] := hD
                          generalize (vp_updL f_673 (z_712 : Int32).toNatClampNeg z_713) = f_714 at hP hD
                          have hP : va_P (dC, dI) vwCl [(o0, .inr (8, [.int x_th, .ref mwo, .ref mim, .ref mhi, .ref mlu, .ref mtp, .int x_td, .ref mfv, .int x_sz, .int x_at, .int x_fr, .int x_to, .int x_va, .int x_fk, .int x_fp, .ref mfr, .ref mwt, .int x_wt, .int x_op, .int x_jo, .ref mfg, .ref mpl, .long x_dr, .ref mtm, .ref mfa, .ref mqu, .ref mmo, .ref mwy, .ref mwn, .ref mma, .ref mwi, .ref mnu, .ref mmv])), (mma, .inl (c_ma, 4, .inl w_ma)), (mwi, .inl (c_wi, 4, .inl w_wi)), (mnu, .inl (c_nu, 240, .inr (.inl f_714))), (mmv, .inl (c_mv, 60, .inr (.inl f_407)))] H := hP
                          have hD : va_D A [(o0, .inr (8, [.int x_th, .ref mwo, .ref mim, .ref mhi, .ref mlu, .ref mtp, .int x_td, .ref mfv, .int x_sz, .int x_at, .int x_fr, .int x_to, .int x_va, .int x_fk, .int x_fp, .ref mfr, .ref mwt, .int x_wt, .int x_op, .int x_jo, .ref mfg, .ref mpl, .long x_dr, .ref mtm, .ref mfa, .ref mqu, .ref mmo, .ref mwy, .ref mwn, .ref mma, .ref mwi, .ref mnu, .ref mmv])), (mma, .inl (c_ma, 4, .inl w_ma)), (mwi, .inl (c_wi, 4, .inl w_wi)), (mnu, .inl (c_nu, 240, .inr (.inl f_714))), (mmv, .inl (c_mv, 60, .inr (.inl f_407)))] := hD
                          obtain ⟨z_715, e_z_715⟩ : ∃ y : Int32, y = y_672 + 1 := ⟨_, rfl⟩
                          refine lv_iinc (v := z_715) (lv' := [(6, .int z_715), (0, .ref o0), (1, .int a1), (2, .int a2), (3, .int a3), (4, .int a4), (5, .int a5)]) hx hb dX10_paste_179 hl (k := 0) rfl (by rw [e_z_715]; rfl) (by decide) rfl (fun ls hl => ?_)
                          obtain ⟨q_z_715, b_z_715⟩ := ti_add (lo := 1) (hi := 60) e_z_715 rfl (by decide : (1 : Int32).toInt = 1) b_y_672 (by decide : (1 : Int) ≤ (1 : Int32).toInt ∧ (1 : Int32).toInt ≤ 1) (by decide)
                          refine lv_goto (tgt := 150) hx hb dX10_paste_182 (by decide) ?_
                          exact ih_150_708 (z_715, f_714) _ _ _ ⟨(show (0 : Int) ≤ z_715.toInt ∧ z_715.toInt ≤ 60 from (rg_w b_z_715 (by decide) (by decide))), hP, hD, hS, lv_sub hl [0, 1, 2, 3, 4, 5, 6] rfl⟩ (show (60 - z_715.toInt).toNat < (60 - y_672.toInt).toNat by omega)
                      ·
                        have n_c_658 : (y_406.toInt : Int) < a5.toInt := c_nge rfl rfl c_658
                        have b_y_406 : (0 : Int) ≤ y_406.toInt ∧ y_406.toInt ≤ 59 := r_lt1 b_y_406 b_a5 n_c_658 (by decide)
                        have b_a5 : (1 : Int) ≤ a5.toInt ∧ a5.toInt ≤ 60 := r_lt2 b_y_406 b_a5 n_c_658 (by decide)
                        refine lv_aload_n hx hb dX10_paste_120 rfl (lv_at hl 1 rfl) ?_
                        refine va_get (D := (dC, dI)) (ci := 8) (v := .ref mmv) (C := RX10) (T := TX10) (N := 33) hx hb hts iX10_pasteF_X10 hown hK hP 0 rfl rfl 32 (by decide) (hts (.fieldLink RX10 74 "LuckyTicketModel" "moving" "[J") (List.mem_of_getElem? (i := 6) rfl)) (fun _ h9 => h9) rfl dX10_paste_121 ?_
                        refine lv_iload hx hb dX10_paste_124 (lv_at hl 0 rfl) ?_
                        refine lv_aload_n hx hb dX10_paste_126 rfl (lv_at hl 1 rfl) ?_
                        refine va_get (D := (dC, dI)) (ci := 8) (v := .ref mnu) (C := RX10) (T := TX10) (N := 33) hx hb hts iX10_pasteF_X10 hown hK hP 0 rfl rfl 31 (by decide) (hts (.fieldLink RX10 71 "LuckyTicketModel" "numbers" "[J") (List.mem_of_getElem? (i := 7) rfl)) (fun _ h9 => h9) rfl dX10_paste_127 ?_
                        refine lv_bipush (v := 60) hx hb dX10_paste_130 (by decide) ?_
                        refine lv_iload_n hx hb dX10_paste_132 rfl (lv_at hl 2 rfl) ?_
                        refine lv_imul hx hb dX10_paste_133 ?_
                        refine lv_topi (fun z_716 e_z_716 => ?_)
                        obtain ⟨q_z_716, b_z_716⟩ := ti_mul (lo := 0) (hi := 180) e_z_716 (by decide : (60 : Int32).toInt = 60) rfl (by decide : (60 : Int) ≤ (60 : Int32).toInt ∧ (60 : Int32).toInt ≤ 60) b_a1 (by decide)
                        refine lv_iload_n hx hb dX10_paste_134 rfl (lv_at hl 3 rfl) ?_
                        refine lv_iadd hx hb dX10_paste_135 ?_
                        refine lv_topi (fun z_717 e_z_717 => ?_)
                        obtain ⟨q_z_717, b_z_717⟩ := ti_add (lo := 0) (hi := 240) e_z_717 rfl rfl b_z_716 b_a2 (by decide)
                        refine lv_iload hx hb dX10_paste_136 (lv_at hl 0 rfl) ?_
                        refine lv_iadd hx hb dX10_paste_138 ?_
                        refine lv_topi (fun z_718 e_z_718 => ?_)
                        obtain ⟨q_z_718, b_z_718⟩ := ti_add (lo := 0) (hi := 299) e_z_718 rfl rfl b_z_717 b_y_406 (by decide)
                        refine va_lald hx hb hK hP 3 2 rfl rfl (vp_in_iff.mpr ⟨by omega, by omega⟩) dX10_paste_139 ?_
                        refine lv_topl (fun z_719 e_z_719 => ?_)
                        refine va_last hx hb hK hP hD hS 4 3 rfl rfl (vp_in_b b_y_406 (by decide) (by decide)) dX10_paste_140 (fun H locs hP hD hS => ?_)
                        have hP : va_P (dC, dI) vwCl [(o0, .inr (8, [.int x_th, .ref mwo, .ref mim, .ref mhi, .ref mlu, .ref mtp, .int x_td, .ref mfv, .int x_sz, .int x_at, .int x_fr, .int x_to, .int x_va, .int x_fk, .int x_fp, .ref mfr, .ref mwt, .int x_wt, .int x_op, .int x_jo, .ref mfg, .ref mpl, .long x_dr, .ref mtm, .ref mfa, .ref mqu, .ref mmo, .ref mwy, .ref mwn, .ref mma, .ref mwi, .ref mnu, .ref mmv])), (mma, .inl (c_ma, 4, .inl w_ma)), (mwi, .inl (c_wi, 4, .inl w_wi)), (mnu, .inl (c_nu, 240, .inr (.inl w_nu))), (mmv, .inl (c_mv, 60, .inr (.inl (vp_updL f_407 (y_406 : Int32).toNatClampNeg z_719))))] H := hP
                        have hD : va_D A [(o0, .inr (8, [.int x_th, .ref mwo, .ref mim, .ref mhi, .ref mlu, .ref mtp, .int x_td, .ref mfv, .int x_sz, .int x_at, .int x_fr, .int x_to, .int x_va, .int x_fk, .int x_fp, .ref mfr, .ref mwt, .int x_wt, .int x_op, .int x_jo, .ref mfg, .ref mpl, .long x_dr, .ref mtm, .ref mfa, .ref mqu, .ref mmo, .ref mwy, .ref mwn, .ref mma, .ref mwi, .ref mnu, .ref mmv])), (mma, .inl (c_ma, 4, .inl w_ma)), (mwi, .inl (c_wi, 4, .inl w_wi)), (mnu, .inl (c_nu, 240, .inr (.inl w_nu))), (mmv, .inl (c_mv, 60, .inr (.inl (vp_updL f_407 (y_406 : Int32).toNatClampNeg z_719))))] := hD
                        generalize (vp_updL f_407 (y_406 : Int32).toNatClampNeg z_719) = f_720 at hP hD
                        have hP : va_P (dC, dI) vwCl [(o0, .inr (8, [.int x_th, .ref mwo, .ref mim, .ref mhi, .ref mlu, .ref mtp, .int x_td, .ref mfv, .int x_sz, .int x_at, .int x_fr, .int x_to, .int x_va, .int x_fk, .int x_fp, .ref mfr, .ref mwt, .int x_wt, .int x_op, .int x_jo, .ref mfg, .ref mpl, .long x_dr, .ref mtm, .ref mfa, .ref mqu, .ref mmo, .ref mwy, .ref mwn, .ref mma, .ref mwi, .ref mnu, .ref mmv])), (mma, .inl (c_ma, 4, .inl w_ma)), (mwi, .inl (c_wi, 4, .inl w_wi)), (mnu, .inl (c_nu, 240, .inr (.inl w_nu))), (mmv, .inl (c_mv, 60, .inr (.inl f_720)))] H := hP
                        have hD : va_D A [(o0, .inr (8, [.int x_th, .ref mwo, .ref mim, .ref mhi, .ref mlu, .ref mtp, .int x_td, .ref mfv, .int x_sz, .int x_at, .int x_fr, .int x_to, .int x_va, .int x_fk, .int x_fp, .ref mfr, .ref mwt, .int x_wt, .int x_op, .int x_jo, .ref mfg, .ref mpl, .long x_dr, .ref mtm, .ref mfa, .ref mqu, .ref mmo, .ref mwy, .ref mwn, .ref mma, .ref mwi, .ref mnu, .ref mmv])), (mma, .inl (c_ma, 4, .inl w_ma)), (mwi, .inl (c_wi, 4, .inl w_wi)), (mnu, .inl (c_nu, 240, .inr (.inl w_nu))), (mmv, .inl (c_mv, 60, .inr (.inl f_720)))] := hD
                        obtain ⟨z_721, e_z_721⟩ : ∃ y : Int32, y = y_406 + 1 := ⟨_, rfl⟩
                        refine lv_iinc (v := z_721) (lv' := [(6, .int z_721), (0, .ref o0), (1, .int a1), (2, .int a2), (3, .int a3), (4, .int a4), (5, .int a5)]) hx hb dX10_paste_141 hl (k := 0) rfl (by rw [e_z_721]; rfl) (by decide) rfl (fun ls hl => ?_)
                        obtain ⟨q_z_721, b_z_721⟩ := ti_add (lo := 1) (hi := 60) e_z_721 rfl (by decide : (1 : Int32).toInt = 1) b_y_406 (by decide : (1 : Int) ≤ (1 : Int32).toInt ∧ (1 : Int32).toInt ≤ 1) (by decide)
                        refine lv_goto (tgt := 113) hx hb dX10_paste_144 (by decide) ?_
                        exact ih_113_657 (z_721, f_720) _ _ _ ⟨(show (0 : Int) ≤ z_721.toInt ∧ z_721.toInt ≤ 60 from (rg_w b_z_721 (by decide) (by decide))), hP, hD, hS, lv_sub hl [0, 1, 2, 3, 4, 5, 6] rfl⟩ (show (60 - z_721.toInt).toNat < (60 - y_406.toInt).toNat by omega)
                    ·
                      have n_c_390 : (z_389.toInt : Int) < z_387.toInt := g_nle rfl rfl c_390
                      refine lv_bipush (v := (-7)) hx hb dX10_paste_107 (by decide) ?_
                      have hP9 := hP.sub (ws' := [(o0, .inr (8, [.int x_th, .ref mwo, .ref mim, .ref mhi, .ref mlu, .ref mtp, .int x_td, .ref mfv, .int x_sz, .int x_at, .int x_fr, .int x_to, .int x_va, .int x_fk, .int x_fp, .ref mfr, .ref mwt, .int x_wt, .int x_op, .int x_jo, .ref mfg, .ref mpl, .long x_dr, .ref mtm, .ref mfa, .ref mqu, .ref mmo, .ref mwy, .ref mwn, .ref mma, .ref mwi, .ref mnu, .ref mmv])), (mma, .inl (c_ma, 4, .inl w_ma)), (mwi, .inl (c_wi, 4, .inl w_wi)), (mnu, .inl (c_nu, 240, .inr (.inl w_nu))), (mmv, .inl (c_mv, 60, .inr (.inl w_mv)))]) [0, 1, 2, 3, 4] rfl
                      have hD9 := hD.sub (ws' := [(o0, .inr (8, [.int x_th, .ref mwo, .ref mim, .ref mhi, .ref mlu, .ref mtp, .int x_td, .ref mfv, .int x_sz, .int x_at, .int x_fr, .int x_to, .int x_va, .int x_fk, .int x_fp, .ref mfr, .ref mwt, .int x_wt, .int x_op, .int x_jo, .ref mfg, .ref mpl, .long x_dr, .ref mtm, .ref mfa, .ref mqu, .ref mmo, .ref mwy, .ref mwn, .ref mma, .ref mwi, .ref mnu, .ref mmv])), (mma, .inl (c_ma, 4, .inl w_ma)), (mwi, .inl (c_wi, 4, .inl w_wi)), (mnu, .inl (c_nu, 240, .inr (.inl w_nu))), (mmv, .inl (c_mv, 60, .inr (.inl w_mv)))]) [0, 1, 2, 3, 4] (by decide) rfl
                      have hK9 := hK.sub (tys' := [(c_ma, .int), (c_wi, .int), (c_nu, .long), (c_mv, .long)]) [0, 1, 2, 3] rfl
                      exact W.iret (v := (-7)) hx hb hr (fun t ht hW => ⟨⟨(-7), (), rfl, ⟨(rg_w (by decide : (-7 : Int) ≤ ((-7) : Int32).toInt ∧ ((-7) : Int32).toInt ≤ -7) (by decide) (by decide)), (ps_7 (j := a1.toInt.toNat) (t := a3.toInt.toNat) (by omega) (by omega) (by omega) (by omega) (by omega) (by omega))⟩, w_nu, w_mv, by rw [ht]; exact hP9, va_K.moved hW.alike hK9, hD9⟩, hS.F ht⟩) hS.2.2 dX10_paste_109
          ·
            have n_c_375 : (z_373.toInt : Int) ≠ z_374.toInt := c_ne rfl rfl c_375
            refine lv_bipush (v := (-8)) hx hb dX10_paste_55 (by decide) ?_
            have hP9 := hP.sub (ws' := [(o0, .inr (8, [.int x_th, .ref mwo, .ref mim, .ref mhi, .ref mlu, .ref mtp, .int x_td, .ref mfv, .int x_sz, .int x_at, .int x_fr, .int x_to, .int x_va, .int x_fk, .int x_fp, .ref mfr, .ref mwt, .int x_wt, .int x_op, .int x_jo, .ref mfg, .ref mpl, .long x_dr, .ref mtm, .ref mfa, .ref mqu, .ref mmo, .ref mwy, .ref mwn, .ref mma, .ref mwi, .ref mnu, .ref mmv])), (mma, .inl (c_ma, 4, .inl w_ma)), (mwi, .inl (c_wi, 4, .inl w_wi)), (mnu, .inl (c_nu, 240, .inr (.inl w_nu))), (mmv, .inl (c_mv, 60, .inr (.inl w_mv)))]) [0, 1, 2, 3, 4] rfl
            have hD9 := hD.sub (ws' := [(o0, .inr (8, [.int x_th, .ref mwo, .ref mim, .ref mhi, .ref mlu, .ref mtp, .int x_td, .ref mfv, .int x_sz, .int x_at, .int x_fr, .int x_to, .int x_va, .int x_fk, .int x_fp, .ref mfr, .ref mwt, .int x_wt, .int x_op, .int x_jo, .ref mfg, .ref mpl, .long x_dr, .ref mtm, .ref mfa, .ref mqu, .ref mmo, .ref mwy, .ref mwn, .ref mma, .ref mwi, .ref mnu, .ref mmv])), (mma, .inl (c_ma, 4, .inl w_ma)), (mwi, .inl (c_wi, 4, .inl w_wi)), (mnu, .inl (c_nu, 240, .inr (.inl w_nu))), (mmv, .inl (c_mv, 60, .inr (.inl w_mv)))]) [0, 1, 2, 3, 4] (by decide) rfl
            have hK9 := hK.sub (tys' := [(c_ma, .int), (c_wi, .int), (c_nu, .long), (c_mv, .long)]) [0, 1, 2, 3] rfl
            exact W.iret (v := (-8)) hx hb hr (fun t ht hW => ⟨⟨(-8), (), rfl, ⟨(rg_w (by decide : (-8 : Int) ≤ ((-8) : Int32).toInt ∧ ((-8) : Int32).toInt ≤ -8) (by decide) (by decide)), (ps_8 (j := a1.toInt.toNat) (t := a3.toInt.toNat) (by omega) (by omega) (by omega) (by omega) (by omega))⟩, w_nu, w_mv, by rw [ht]; exact hP9, va_K.moved hW.alike hK9, hD9⟩, hS.F ht⟩) hS.2.2 dX10_paste_57
        ·
          have n_c_372 : (z_371.toInt : Int) = (-1) := c_eq rfl (by decide) c_372
          have b_z_371 : (-1 : Int) ≤ z_371.toInt ∧ z_371.toInt ≤ -1 := r_eq1 b_z_371 (by decide : (-1 : Int) ≤ ((-1) : Int32).toInt ∧ ((-1) : Int32).toInt ≤ -1) n_c_372 (by decide)
          refine lv_bipush (v := (-6)) hx hb dX10_paste_37 (by decide) ?_
          have hP9 := hP.sub (ws' := [(o0, .inr (8, [.int x_th, .ref mwo, .ref mim, .ref mhi, .ref mlu, .ref mtp, .int x_td, .ref mfv, .int x_sz, .int x_at, .int x_fr, .int x_to, .int x_va, .int x_fk, .int x_fp, .ref mfr, .ref mwt, .int x_wt, .int x_op, .int x_jo, .ref mfg, .ref mpl, .long x_dr, .ref mtm, .ref mfa, .ref mqu, .ref mmo, .ref mwy, .ref mwn, .ref mma, .ref mwi, .ref mnu, .ref mmv])), (mma, .inl (c_ma, 4, .inl w_ma)), (mwi, .inl (c_wi, 4, .inl w_wi)), (mnu, .inl (c_nu, 240, .inr (.inl w_nu))), (mmv, .inl (c_mv, 60, .inr (.inl w_mv)))]) [0, 1, 2, 3, 4] rfl
          have hD9 := hD.sub (ws' := [(o0, .inr (8, [.int x_th, .ref mwo, .ref mim, .ref mhi, .ref mlu, .ref mtp, .int x_td, .ref mfv, .int x_sz, .int x_at, .int x_fr, .int x_to, .int x_va, .int x_fk, .int x_fp, .ref mfr, .ref mwt, .int x_wt, .int x_op, .int x_jo, .ref mfg, .ref mpl, .long x_dr, .ref mtm, .ref mfa, .ref mqu, .ref mmo, .ref mwy, .ref mwn, .ref mma, .ref mwi, .ref mnu, .ref mmv])), (mma, .inl (c_ma, 4, .inl w_ma)), (mwi, .inl (c_wi, 4, .inl w_wi)), (mnu, .inl (c_nu, 240, .inr (.inl w_nu))), (mmv, .inl (c_mv, 60, .inr (.inl w_mv)))]) [0, 1, 2, 3, 4] (by decide) rfl
          have hK9 := hK.sub (tys' := [(c_ma, .int), (c_wi, .int), (c_nu, .long), (c_mv, .long)]) [0, 1, 2, 3] rfl
          exact W.iret (v := (-6)) hx hb hr (fun t ht hW => ⟨⟨(-6), (), rfl, ⟨(rg_w (by decide : (-6 : Int) ≤ ((-6) : Int32).toInt ∧ ((-6) : Int32).toInt ≤ -6) (by decide) (by decide)), (ps_6 (j := a1.toInt.toNat) (t := a3.toInt.toNat) (by omega) (by omega) (by omega) (by omega))⟩, w_nu, w_mv, by rw [ht]; exact hP9, va_K.moved hW.alike hK9, hD9⟩, hS.F ht⟩) hS.2.2 dX10_paste_39
    ·
      have n_c_367 : (r_366.toInt : Int) = 0 := c_eq rfl (by decide) c_367
      have b_r_366 : (0 : Int) ≤ r_366.toInt ∧ r_366.toInt ≤ 0 := r_eq1 b_r_366 (by decide : (0 : Int) ≤ (0 : Int32).toInt ∧ (0 : Int32).toInt ≤ 0) n_c_367 (by decide)
      have g_722 := zz_r_366 c_367
      refine lv_bipush (v := (-2)) hx hb dX10_paste_14 (by decide) ?_
      have hP9 := hP.sub (ws' := [(o0, .inr (8, [.int x_th, .ref mwo, .ref mim, .ref mhi, .ref mlu, .ref mtp, .int x_td, .ref mfv, .int x_sz, .int x_at, .int x_fr, .int x_to, .int x_va, .int x_fk, .int x_fp, .ref mfr, .ref mwt, .int x_wt, .int x_op, .int x_jo, .ref mfg, .ref mpl, .long x_dr, .ref mtm, .ref mfa, .ref mqu, .ref mmo, .ref mwy, .ref mwn, .ref mma, .ref mwi, .ref mnu, .ref mmv])), (mma, .inl (c_ma, 4, .inl w_ma)), (mwi, .inl (c_wi, 4, .inl w_wi)), (mnu, .inl (c_nu, 240, .inr (.inl w_nu))), (mmv, .inl (c_mv, 60, .inr (.inl w_mv)))]) [0, 1, 2, 3, 4] rfl
      have hD9 := hD.sub (ws' := [(o0, .inr (8, [.int x_th, .ref mwo, .ref mim, .ref mhi, .ref mlu, .ref mtp, .int x_td, .ref mfv, .int x_sz, .int x_at, .int x_fr, .int x_to, .int x_va, .int x_fk, .int x_fp, .ref mfr, .ref mwt, .int x_wt, .int x_op, .int x_jo, .ref mfg, .ref mpl, .long x_dr, .ref mtm, .ref mfa, .ref mqu, .ref mmo, .ref mwy, .ref mwn, .ref mma, .ref mwi, .ref mnu, .ref mmv])), (mma, .inl (c_ma, 4, .inl w_ma)), (mwi, .inl (c_wi, 4, .inl w_wi)), (mnu, .inl (c_nu, 240, .inr (.inl w_nu))), (mmv, .inl (c_mv, 60, .inr (.inl w_mv)))]) [0, 1, 2, 3, 4] (by decide) rfl
      have hK9 := hK.sub (tys' := [(c_ma, .int), (c_wi, .int), (c_nu, .long), (c_mv, .long)]) [0, 1, 2, 3] rfl
      exact W.iret (v := (-2)) hx hb hr (fun t ht hW => ⟨⟨(-2), (), rfl, ⟨(rg_w (by decide : (-2 : Int) ≤ ((-2) : Int32).toInt ∧ ((-2) : Int32).toInt ≤ -2) (by decide) (by decide)), (ps_2 (by omega))⟩, w_nu, w_mv, by rw [ht]; exact hP9, va_K.moved hW.alike hK9, hD9⟩, hS.F ht⟩) hS.2.2 dX10_paste_16
