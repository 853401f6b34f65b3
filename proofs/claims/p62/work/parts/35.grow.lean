def tot (H : Heap) : Nat := (H.toList.map (·.slots.size)).sum
theorem tot_take {H0 H : Heap} (hsz : H0.size ≤ H.size) (ho : ∀ (a : Nat) (c : Cell), H0[a]? = some c → ∃ c' : Cell, H[a]? = some c' ∧ c'.slots.size = c.slots.size) : (H.toList.take H0.size).map (·.slots.size) = H0.toList.map (·.slots.size) := by
  apply List.ext_getElem?
  intro i
  rw [List.getElem?_map, List.getElem?_map, List.getElem?_take]
  by_cases h : i < H0.size
  · rw [if_pos h]
    obtain ⟨c', h1, h2⟩ := ho i H0[i] (Array.getElem?_eq_getElem h)
    rw [Array.getElem?_toList, Array.getElem?_toList, h1, Array.getElem?_eq_getElem h]
    simp [h2]
  · rw [if_neg h, Array.getElem?_toList, Array.getElem?_eq_none (by omega)]
theorem tot_same {s T : State} {locs : List Loc} {cells slots : Nat} (h : s.sameButNew T locs cells slots) : tot T.heap = tot s.heap + ((T.heap.toList.drop s.heap.size).map (·.slots.size)).sum := by
  obtain ⟨-, h1, -, -, -, h6⟩ := h
  have e := tot_take (H0 := s.heap) (H := T.heap) h1 (fun a c hc => by
    obtain ⟨c', g1, -, g3, -⟩ := h6 a c hc
    exact ⟨c', g1, g3⟩)
  unfold tot
  conv => lhs; rw [← List.take_append_drop s.heap.size T.heap.toList]
  rw [List.map_append, List.sum_append, e]
section TIGHT
variable {p : Program} {l : Launch} {e : Env} {R : Room} {s : State} {m : MethodId} {args : Array Value} {below : List Frame} {meth : Method} {c : Code} {H : Heap} {locs : List Loc} {cells slots : Nat} {Q : State → Prop} {g : JFrame}
theorem W.know (kk : (tot s.heap ≤ tot H ∧ tot H ≤ tot s.heap + slots) ∧ H.size ≤ s.heap.size + cells → W p l e R s m args below meth c H locs cells slots Q g) : W p l e R s m args below meth c H locs cells slots Q g := fun T hT X => by
  have h1 := tot_same X.same
  have h2 := X.same.2.2.2.2.1
  have h3 := X.heapSize
  have h4 : (T.setVm s.vm).heap = T.heap := rfl
  rw [h4] at h1 h2
  rw [hT] at h1 h2 h3
  exact kk ⟨by omega, h3⟩ T hT X
theorem W.tight {n : Nat} (h : tot H ≤ tot s.heap + n) (kk : W p l e R s m args below meth c H locs cells n Q g) : W p l e R s m args below meth c H locs cells slots Q g := fun T hT X => by
  refine kk T hT { X with same := ?_ }
  have h1 := tot_same X.same
  have h4 : (T.setVm s.vm).heap = T.heap := rfl
  obtain ⟨g1, g2, g3, g4, g5, g6⟩ := X.same
  refine ⟨g1, g2, g3, g4, ?_, g6⟩
  rw [h4] at h1 ⊢
  rw [hT] at h1 ⊢
  omega
theorem W.tightc {n : Nat} (h : H.size ≤ s.heap.size + n) (kk : W p l e R s m args below meth c H locs n slots Q g) : W p l e R s m args below meth c H locs cells slots Q g := fun T hT X => by
  refine kk T hT { X with same := ?_ }
  obtain ⟨g1, g2, g3, g4, g5, g6⟩ := X.same
  refine ⟨g1, g2, ?_, g4, g5, g6⟩
  have h4 : (T.setVm s.vm).heap = T.heap := rfl
  rw [h4, hT]
  exact h
end TIGHT
def sumF (n : Nat) : List Nat → Nat
  | [] => 0
  | t :: L => (if n < t then t else 0) + sumF n L
theorem sumF_mono {n s : Nat} (h : n ≤ s) : ∀ L : List Nat, sumF s L ≤ sumF n L
  | [] => Nat.le_refl 0
  | t :: L => by
    have q := sumF_mono h L
    simp only [sumF]
    by_cases h1 : s < t
    · rw [if_pos h1, if_pos (by omega)]; omega
    · rw [if_neg h1]; omega
theorem sumF_step {n s : Nat} (h : n < s) : ∀ L : List Nat, s ∈ L → s + sumF s L ≤ sumF n L
  | [], hm => by cases hm
  | t :: L, hm => by
    simp only [sumF]
    rcases List.mem_cons.mp hm with e | e
    · subst e
      have q := sumF_mono (Nat.le_of_lt h) L
      rw [if_pos h, if_neg (Nat.lt_irrefl _)]; omega
    · have q := sumF_step h L e
      by_cases h1 : s < t
      · rw [if_pos h1, if_pos (by omega)]; omega
      · rw [if_neg h1]; omega
def prL : List (Nat × Nat) := ((List.range 17).flatMap (fun b => (List.range 13).map (fun n => (b, n)))).filter (fun q => decide (2 ≤ q.1 ∧ 1 ≤ q.2 ∧ q.1 ^ q.2 ≤ 20000))
theorem prL_in {b n : Nat} (h1 : 2 ≤ b) (h2 : b ≤ 16) (h3 : 1 ≤ n) (h4 : n ≤ 12) (h5 : b ^ n ≤ 20000) : (b, n) ∈ prL :=
  List.mem_filter.mpr ⟨List.mem_flatMap.mpr ⟨b, List.mem_range.mpr (by omega), List.mem_map.mpr ⟨n, List.mem_range.mpr (by omega), rfl⟩⟩, decide_eq_true ⟨h1, h3, h5⟩⟩
def szL : List Nat := prL.map (fun q => q.1 ^ q.2)
def lnL : List Nat := prL.map (fun q => q.2 * (q.1 ^ q.2 / q.1))
def pot (n : Nat) : Nat := sumF n szL
def potg (n : Nat) : Nat := sumF n lnL
theorem pot_0 : pot 0 ≤ 200000 := by decide +kernel
theorem potg_0 : potg 0 ≤ 400000 := by decide +kernel
theorem lnL_le : ∀ k ∈ lnL, k ≤ 60000 := by decide +kernel
def RK (n b t : Int32) : Prop := t.toInt = 0 ∨ (GM n b ∧ t.toInt = ((b.toInt.toNat ^ n.toInt.toNat : Nat) : Int))
def isz (t : Int32) : Prop := t.toInt = 0 ∨ t.toInt.toNat ∈ szL
theorem RK.sz {n b t : Int32} (h : RK n b t) : isz t := by
  rcases h with h | ⟨⟨g1, g2⟩, h⟩
  · exact Or.inl h
  · refine Or.inr (List.mem_map.mpr ⟨(b.toInt.toNat, n.toInt.toNat), prL_in (by omega) (by omega) (by omega) (by omega) g2, ?_⟩)
    show b.toInt.toNat ^ n.toInt.toNat = _
    omega
theorem pot_grow {k : Nat} {t : Int32} (h : isz t) (hk : (k : Int) < t.toInt) : t.toNatClampNeg + pot t.toNatClampNeg ≤ pot k := by
  have e : t.toNatClampNeg = t.toInt.toNat := rfl
  rcases h with h | h
  · omega
  · rw [e]; exact sumF_step (by omega) _ h
theorem pot_mono {n k : Nat} (h : n ≤ k) : pot k ≤ pot n := sumF_mono h _
theorem potg_mono {n k : Nat} (h : n ≤ k) : potg k ≤ potg n := sumF_mono h _
theorem RK.pwr {n b t : Int32} (hg : GM n b) (h : pwr b n t) : RK n b t ∧ t.toInt ≤ 20000 := by
  obtain ⟨i, h1, h2, h3⟩ := h
  obtain ⟨g1, g2⟩ := hg
  have e : i = n.toInt.toNat := by
    rcases h3 with q | q
    · omega
    · have h4 : b.toInt.toNat ^ i ≤ b.toInt.toNat ^ n.toInt.toNat := Nat.pow_le_pow_right (by omega) (by omega)
      omega
  rw [e] at h2
  exact ⟨Or.inr ⟨⟨g1, g2⟩, h2⟩, by omega⟩
theorem na2_int (cA : ClassId) (n : Nat) : vp_cell cA (n, .inl (fun _ => 0)) = arrV cA n (fun _ => defaultValue .int) := rfl
theorem na2_byte (cA : ClassId) (n : Nat) : vp_cell cA (n, .inl (fun _ => 0)) = arrV cA n (fun _ => defaultValue .byte) := rfl
theorem na2_long (cA : ClassId) (n : Nat) : vp_cell cA (n, .inr (.inl (fun _ => 0))) = arrV cA n (fun _ => defaultValue .long) := rfl
theorem cl_nn {x : Int32} (h : 0 ≤ x.toInt) : ((x.toNatClampNeg : Nat) : Int) = x.toInt := by
  show ((x.toInt.toNat : Nat) : Int) = _
  omega
def hg (D : va_G) (cl : List vw_C) (ws : va_W) (tys : List (ClassId × FieldType)) (sz cc pp : Nat) (U : State) : Prop := hw D cl ws tys sz U ∧ tot U.heap + pp ≤ cc
theorem hg_fb {av : List Value} {D : va_G} {cl : List vw_C} {ws : va_W} {tys : List (ClassId × FieldType)} {sz cc pp : Nat} : FrameBlind (va_Pc av (hg D cl ws tys sz cc pp)) := fun a U g mk q => by
  obtain ⟨q0, q1, q2⟩ := q
  exact ⟨q0, (hw_fb a U g mk ⟨q0, q1⟩).2, q2⟩
theorem hg_use {av : List Value} {D : va_G} {cl : List vw_C} {ws ws' : va_W} {tys tys' : List (ClassId × FieldType)} {s : State} {H : Heap} {A : Nat → Prop} {cc pp : Nat} (hP : va_P D cl ws H) (hD : va_D A ws) (hK : va_K D cl tys s) (hN : nst s) (is : List Nat) (hs : is.filterMap (fun i => ws[i]?) = ws') (hn : va_nd is = true) (hs2 : is.map (fun i => ws[i]?) = ws'.map some) (it : List Nat) (ht : it.filterMap (fun i => tys[i]?) = tys') (htot : tot H + pp ≤ cc) : ∀ U : State, U.heap = H → s.WarmedH U.vm → va_Pc av (hg D cl ws' tys' H.size cc pp) av.toArray U := fun U hU hW => ⟨rfl, (hw_use (av := av) hP hD hK hN is hs hn hs2 it ht U hU hW).2, by rw [hU]; exact htot⟩
def hgx (D : va_G) (cl : List vw_C) (ws : va_W) (tys : List (ClassId × FieldType)) (sz n0 cc pp : Nat) (U : State) : Prop := hx_ D cl ws tys sz n0 [] U ∧ tot U.heap + pp ≤ cc
theorem hgx_fb {av : List Value} {D : va_G} {cl : List vw_C} {ws : va_W} {tys : List (ClassId × FieldType)} {sz n0 cc pp : Nat} : FrameBlind (va_Pc av (hgx D cl ws tys sz n0 cc pp)) := fun a U g mk q => by
  obtain ⟨q0, q1, q2⟩ := q
  exact ⟨q0, (hx_fb a U g mk ⟨q0, q1⟩).2, q2⟩
theorem hgg_ex (a b : Nat) : ∃ n, n = a - b := ⟨_, rfl⟩
theorem potg_grow {k : Nat} {n b t r z : Int32} (h : RK n b t) (h2 : r.toInt = 0 ∨ (2 ≤ b.toInt ∧ r.toInt = t.toInt / b.toInt)) (hz : z.toInt = n.toInt * r.toInt) (hk : (k : Int) < z.toInt) : z.toNatClampNeg + potg z.toNatClampNeg ≤ potg k := by
  have e : z.toNatClampNeg = z.toInt.toNat := rfl
  have hr : r.toInt ≠ 0 := fun q => by rw [q] at hz; omega
  rcases h with h | ⟨⟨g1, g2⟩, h⟩
  · rcases h2 with q | ⟨q1, q2⟩
    · exact absurd q hr
    · rw [h] at q2
      exact absurd (q2.trans (Int.zero_ediv _)) hr
  · have q2 : r.toInt = t.toInt / b.toInt := by
      rcases h2 with q | ⟨q1, q2⟩
      · exact absurd q hr
      · exact q2
    have hb : b.toInt = ((b.toInt.toNat : Nat) : Int) := by omega
    have hn : n.toInt = ((n.toInt.toNat : Nat) : Int) := by omega
    have hr2 : r.toInt = ((b.toInt.toNat ^ n.toInt.toNat / b.toInt.toNat : Nat) : Int) := by
      rw [q2, h]
      conv => lhs; rw [hb]
      exact (Int.natCast_ediv _ _).symm
    have hz2 : z.toInt = ((n.toInt.toNat * (b.toInt.toNat ^ n.toInt.toNat / b.toInt.toNat) : Nat) : Int) := by
      rw [hz, hr2, Int.natCast_mul]
      exact congrArg (fun q => q * _) hn
    have hm : z.toInt.toNat ∈ lnL := List.mem_map.mpr ⟨(b.toInt.toNat, n.toInt.toNat), prL_in (by omega) (by omega) (by omega) (by omega) g2, by show n.toInt.toNat * (b.toInt.toNat ^ n.toInt.toNat / b.toInt.toNat) = _; omega⟩
    rw [e]
    exact sumF_step (by omega) _ hm
