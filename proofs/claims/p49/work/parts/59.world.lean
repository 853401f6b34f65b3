def up9 {α : Type} (f : Nat → α) (i : Nat) (x : α) : Nat → α := fun j => if j = i then x else f j
theorem Met.via {l : Launch} {y : MethodName} {ws : List Cond} {rm : Room} {Pc' : Array Value → State → Prop} {Qc' : Array Value → State → Outcome → State → Prop} {mc ms : Nat} {free' : Addr → Prop}
    (h : ∀ (a : Array Value) (U : State), Pc' a U → ∃ (Pc : Array Value → State → Prop) (Qc : Array Value → State → Outcome → State → Prop) (free : Addr → Prop), Met l y ws rm Pc Qc mc ms free ∧ Pc a U ∧ (∀ (o : Outcome) (t : State), Qc a U o t → U.WarmedH t.vm → tot t.heap ≤ tot U.heap + ms → Qc' a U o t) ∧ ∀ q : Nat, q < U.heap.size → free q → free' q) : Met l y ws rm Pc' Qc' mc ms free' := by
  intro p e hadm hcas hclk s m args below hfr hS hP hK
  obtain ⟨Pc, Qc, free, hM, hp, hq, hf⟩ := h args s hP
  obtain ⟨n, o, h1, h2, h3, h4, L, h5, h6⟩ := hM p e hadm hcas hclk s m args below hfr hS hp trivial
  have ht := tot_same h5.2.2
  have hb := h5.2.2.2.2.2.2.1
  have e9 : tot ({ stepsAlone p.tables e n s with vm := s.vm } : State).heap = tot (stepsAlone p.tables e n s).heap := rfl
  rw [e9] at ht
  refine ⟨n, o, h1, h2, h3, hq o _ h4 h5.2.1 (by omega), L.filter (fun q => decide (q.base < s.heap.size)), ⟨h5.1, h5.2.1, ?_⟩, fun q hq2 => ?_⟩
  · obtain ⟨g1, g2, g3, g4, g5, g6⟩ := h5.2.2
    refine ⟨g1, g2, g3, g4, g5, fun a c hc => ?_⟩
    obtain ⟨c', k1, k2, k3, k4⟩ := g6 a c hc
    exact ⟨c', k1, k2, k3, fun i hi => k4 i (fun hin => hi (List.mem_filter.mpr ⟨hin, decide_eq_true (Array.getElem?_eq_some_iff.mp hc).1⟩))⟩
  · have q2 := List.mem_filter.mp hq2
    exact hf _ (of_decide_eq_true q2.2) (h6 q q2.1)
def setL : va_W → List Nat → va_W → va_W
  | ws, i :: is, o :: oc => setL (ws.set i o) is oc
  | ws, _, _ => ws
theorem setL_get : ∀ (is : List Nat) (ws oc : va_W) (k : Nat) (q : Nat × va_E), is.length ≤ oc.length → (setL ws is oc)[k]? = some q → (k ∉ is ∧ ws[k]? = some q) ∨ ∃ j : Nat, oc[j]? = some q
  | [], ws, oc, k, q, _, h => by
    cases oc <;> exact Or.inl ⟨List.not_mem_nil, h⟩
  | i :: is, ws, [], k, q, hl, h => by simp at hl
  | i :: is, ws, o :: oc, k, q, hl, h => by
    have h2 : (setL (ws.set i o) is oc)[k]? = some q := h
    rcases setL_get is (ws.set i o) oc k q (by simpa using hl) h2 with ⟨h3, h4⟩ | ⟨j, hj⟩
    · by_cases e : i = k
      · subst e
        rw [List.getElem?_set] at h4
        by_cases hlt : i < ws.length
        · rw [if_pos rfl, if_pos hlt] at h4
          exact Or.inr ⟨0, by rw [← h4]; rfl⟩
        · rw [if_pos rfl, if_neg hlt] at h4
          cases h4
      · rw [List.getElem?_set_ne e] at h4
        exact Or.inl ⟨fun hm => (List.mem_cons.mp hm).elim (fun e2 => e e2.symm) h3, h4⟩
    · exact Or.inr ⟨j + 1, hj⟩
theorem va_put9 {D : va_G} {cl : List vw_C} {ws wc oc : va_W} {H H1 : Heap} {A : Nat → Prop} (is : List Nat) (hP : va_P D cl ws H) (hD : va_D A ws) (hC : is.map (fun i => ws[i]?) = wc.map some) (hk : ∀ q : Nat, q < H.size → ¬ va_A wc H.size q → H1[q]? = H[q]?) (hP1 : va_P D cl oc H1) (hl : is.length ≤ oc.length := by decide) : va_P D cl (setL ws is oc) H1 := fun k q hq => by
  rcases setL_get is ws oc k q hl hq with ⟨h1, h2⟩ | ⟨j, hj⟩
  · have h3 := hP k q h2
    refine h3.kept (hk q.1 h3.lt (fun h4 => ?_))
    rcases h4 with ⟨j, e, hj⟩ | h4
    · have h5 : (wc.map some)[j]? = some (some (q.1, e)) := by rw [List.getElem?_map, hj]; rfl
      rw [← hC, List.getElem?_map] at h5
      cases hi : is[j]? with
      | none => rw [hi] at h5; cases h5
      | some i =>
        rw [hi] at h5
        have h6 : ws[i]? = some (q.1, e) := Option.some.inj h5
        have h7 := hD.1 k i q (q.1, e) h2 h6 rfl
        subst h7
        exact h1 (List.mem_of_getElem? hi)
    · exact absurd h3.lt (Nat.not_lt.mpr h4)
  · exact hP1 j q hj
theorem va_Da {A : Nat → Prop} {ws ws' : va_W} (h : va_D A ws) (e : ws.map (fun q => q.1) = ws'.map (fun q => q.1)) : va_D A ws' := by
  have key : ∀ (k : Nat) (q : Nat × va_E), ws'[k]? = some q → ∃ p : Nat × va_E, ws[k]? = some p ∧ p.1 = q.1 := fun k q hk => by
    have h1 : (ws'.map (fun q => q.1))[k]? = some q.1 := by rw [List.getElem?_map, hk]; rfl
    rw [← e, List.getElem?_map] at h1
    cases hw : ws[k]? with
    | none => rw [hw] at h1; cases h1
    | some p =>
      rw [hw] at h1
      exact ⟨p, rfl, Option.some.inj h1⟩
  refine ⟨fun i j p q hi hj hpq => ?_, fun k q hk => ?_⟩
  · obtain ⟨p', g1, g2⟩ := key i p hi
    obtain ⟨q', g3, g4⟩ := key j q hj
    exact h.1 i j p' q' g1 g3 (by rw [g2, g4, hpq])
  · obtain ⟨p', g1, g2⟩ := key k q hk
    rw [← g2]
    exact h.2 k p' g1
theorem va_Ain {ws : va_W} {sz q : Nat} {A : Nat → Prop} (hD : va_D A ws) (hq : q < sz) (h : va_A ws sz q) : A q := by
  rcases h with ⟨k, e, hk⟩ | h
  · exact hD.2 k (q, e) hk
  · exact absurd hq (Nat.not_lt.mpr h)
theorem sx.yw {n0 : Nat} {U : State} (h : sx n0 U) : yw U := by
  obtain ⟨-, -, -, t, h4, h5⟩ := h
  refine ⟨t, h4.narrow (fun _ q => q.elim), ?_⟩
  obtain ⟨cell, g1, g2, g3, g4, g5, g6, g7⟩ := h5
  refine ⟨cell, g1, g2, g3, g4, g5, fun j hj => ?_, fun q => q.elim⟩
  rw [g6 j hj]
  have e : ∀ k, k < 12 → monL.getD k 0 = nI (mo k) := by decide +kernel
  show some (Value.int (monL.getD j 0)) = some (moV j)
  rw [e j hj]
  rfl
def XI (dC : Nat → ClassId) (dI : Nat → Nat → Nat) (AX : Nat → Prop) (cc h0 : Nat) (U : State) (H : Heap) : Prop := ∃ (va : Nat → Nat) (vz : Nat → Int32) (vk : Nat → ClassId) (vF : Nat → (Nat → Int32)) (vG : Nat → (Nat → Int64)), ((0 : Int) ≤ (vz 0).toInt ∧ (vz 0).toInt ≤ 1200) ∧ ((0 : Int) ≤ (vz 1).toInt ∧ (vz 1).toInt ≤ 12) ∧ ((0 : Int) ≤ (vz 2).toInt ∧ (vz 2).toInt ≤ 16) ∧ ((0 : Int) ≤ (vz 3).toInt ∧ (vz 3).toInt ≤ 1300) ∧ ((0 : Int) ≤ (vz 4).toInt ∧ (vz 4).toInt ≤ 9) ∧ ((0 : Int) ≤ (vz 5).toInt ∧ (vz 5).toInt ≤ 600) ∧ ((0 : Int) ≤ (vz 6).toInt ∧ (vz 6).toInt ≤ 3) ∧ ((-1 : Int) ≤ (vz 7).toInt ∧ (vz 7).toInt ≤ 1200) ∧ ((0 : Int) ≤ (vz 8).toInt ∧ (vz 8).toInt ≤ 4) ∧ ((0 : Int) ≤ (vz 9).toInt ∧ (vz 9).toInt ≤ 1200) ∧ ((0 : Int) ≤ (vz 10).toInt ∧ (vz 10).toInt ≤ 1200) ∧ ((0 : Int) ≤ (vz 13).toInt ∧ (vz 13).toInt ≤ 12) ∧ ((0 : Int) ≤ (vz 14).toInt ∧ (vz 14).toInt ≤ 16) ∧ ((0 : Int) ≤ (vz 15).toInt ∧ (vz 15).toInt ≤ 20000) ∧ ((0 : Int) ≤ (vz 16).toInt ∧ (vz 16).toInt ≤ 9) ∧ ((0 : Int) ≤ (vz 18).toInt ∧ (vz 18).toInt ≤ 12) ∧ ((0 : Int) ≤ (vz 19).toInt ∧ (vz 19).toInt ≤ 16) ∧ ((0 : Int) ≤ (vz 20).toInt ∧ (vz 20).toInt ≤ 20000) ∧ ((0 : Int) ≤ (vz 21).toInt ∧ (vz 21).toInt ≤ 9) ∧ ((0 : Int) ≤ (vz 23).toInt ∧ (vz 23).toInt ≤ 12) ∧ ((0 : Int) ≤ (vz 24).toInt ∧ (vz 24).toInt ≤ 16) ∧ ((0 : Int) ≤ (vz 25).toInt ∧ (vz 25).toInt ≤ 20000) ∧ ((0 : Int) ≤ (vz 26).toInt ∧ (vz 26).toInt ≤ 9) ∧ ((0 : Int) ≤ (vz 28).toInt ∧ (vz 28).toInt ≤ 12) ∧ ((0 : Int) ≤ (vz 29).toInt ∧ (vz 29).toInt ≤ 16) ∧ ((0 : Int) ≤ (vz 30).toInt ∧ (vz 30).toInt ≤ 20000) ∧ ((0 : Int) ≤ (vz 31).toInt ∧ (vz 31).toInt ≤ 9) ∧ ((-1 : Int) ≤ (vz 33).toInt ∧ (vz 33).toInt ≤ 3) ∧ ((-1 : Int) ≤ (vz 34).toInt ∧ (vz 34).toInt ≤ 3) ∧ ((-1 : Int) ≤ (vz 35).toInt ∧ (vz 35).toInt ≤ 3) ∧ ((-1 : Int) ≤ (vz 36).toInt ∧ (vz 36).toInt ≤ 3) ∧ ((0 : Int) ≤ (vz 37).toInt ∧ (vz 37).toInt ≤ 60) ∧ ((0 : Int) ≤ (vz 38).toInt ∧ (vz 38).toInt ≤ 60) ∧ ((0 : Int) ≤ (vz 39).toInt ∧ (vz 39).toInt ≤ 60) ∧ ((0 : Int) ≤ (vz 40).toInt ∧ (vz 40).toInt ≤ 60) ∧ ((vz 9).toInt ≤ (vz 10).toInt) ∧ ((va 18) = (va 17)) ∧ ((va 17) ≤ 20000) ∧ ((vz 15).toInt ≤ ((va 17) : Int)) ∧ (RK (vz 13) (vz 14) (vz 15)) ∧ ((va 23) = (va 22)) ∧ ((va 22) ≤ 20000) ∧ ((vz 20).toInt ≤ ((va 22) : Int)) ∧ (RK (vz 18) (vz 19) (vz 20)) ∧ ((va 28) = (va 27)) ∧ ((va 27) ≤ 20000) ∧ ((vz 25).toInt ≤ ((va 27) : Int)) ∧ (RK (vz 23) (vz 24) (vz 25)) ∧ ((va 33) = (va 32)) ∧ ((va 32) ≤ 20000) ∧ ((vz 30).toInt ≤ ((va 32) : Int)) ∧ (RK (vz 28) (vz 29) (vz 30)) ∧ ((va 46) = (va 45)) ∧ ((va 45) ≤ 20000) ∧ ((va 47) ≤ 200000) ∧ (rg (vF 1) 9 0 600) ∧ (tot H + (2 * pot (va 17) + 2 * pot (va 22) + 2 * pot (va 27) + 2 * pot (va 32) + (2 * pot (va 45) + potg (va 47))) ≤ cc) ∧ va_P (dC, dI) vwCl [(h0, .inr (7, [.ref (va 0), .ref (va 1), .ref (va 2), .ref (va 3), .ref (va 4), .ref (va 5), .ref (va 6), .ref (va 7), .ref (va 8), .ref (va 9)])), ((va 0), .inr (6, [.ref (va 10), .int (vz 0)])), ((va 10), .inl ((vk 0), 1200, .inl (vF 0))), ((va 1), .inr (3, [.int (vz 1), .int (vz 2), .int (vz 3), .int (vz 4), .int (vz 5), .ref (va 11), .ref (va 12), .ref (va 13), .ref (va 14)])), ((va 11), .inl ((vk 1), 9, .inl (vF 1))), ((va 12), .inl ((vk 2), 600, .inl (vF 2))), ((va 13), .inl ((vk 3), 600, .inr (.inl (vG 0)))), ((va 14), .inl ((vk 4), 600, .inr (.inl (vG 1)))), ((va 2), .inr (0, [.ref (va 0), .ref (va 1), .int (vz 6), .int (vz 7), .int (vz 8), .int (vz 9), .int (vz 10), .int (vz 11), .int (vz 12)])), ((va 3), .inr (1, [.int (vz 13), .int (vz 14), .int (vz 15), .int (vz 16), .int (vz 17), .ref (va 15), .ref (va 16)])), ((va 15), .inl ((vk 5), (va 17), .inr (.inl (vG 2)))), ((va 16), .inl ((vk 6), (va 18), .inl (vF 3))), ((va 4), .inl ((vk 7), 3, .inr (.inr (.inr (.inr (sf3 (va 19) (va 24) (va 29))))))), ((va 19), .inr (1, [.int (vz 18), .int (vz 19), .int (vz 20), .int (vz 21), .int (vz 22), .ref (va 20), .ref (va 21)])), ((va 20), .inl ((vk 9), (va 22), .inr (.inl (vG 3)))), ((va 21), .inl ((vk 10), (va 23), .inl (vF 5))), ((va 24), .inr (1, [.int (vz 23), .int (vz 24), .int (vz 25), .int (vz 26), .int (vz 27), .ref (va 25), .ref (va 26)])), ((va 25), .inl ((vk 11), (va 27), .inr (.inl (vG 4)))), ((va 26), .inl ((vk 12), (va 28), .inl (vF 6))), ((va 29), .inr (1, [.int (vz 28), .int (vz 29), .int (vz 30), .int (vz 31), .int (vz 32), .ref (va 30), .ref (va 31)])), ((va 30), .inl ((vk 13), (va 32), .inr (.inl (vG 5)))), ((va 31), .inl ((vk 14), (va 33), .inl (vF 7))), ((va 5), .inl ((vk 8), 3, .inl (vF 4))), ((va 6), .inl ((vk 15), 4, .inr (.inr (.inr (.inr (sf4 (va 34) (va 35) (va 36) (va 37))))))), ((va 34), .inr (2, [.int (vz 33), .int (vz 37), .ref (va 38)])), ((va 35), .inr (2, [.int (vz 34), .int (vz 38), .ref (va 39)])), ((va 36), .inr (2, [.int (vz 35), .int (vz 39), .ref (va 40)])), ((va 37), .inr (2, [.int (vz 36), .int (vz 40), .ref (va 41)])), ((va 38), .inl ((vk 16), 60, .inr (.inl (vG 6)))), ((va 39), .inl ((vk 17), 60, .inr (.inl (vG 7)))), ((va 40), .inl ((vk 18), 60, .inr (.inl (vG 8)))), ((va 41), .inl ((vk 19), 60, .inr (.inl (vG 9)))), ((va 7), .inr (4, [.ref (va 42), .ref (va 43), .ref (va 44)])), ((va 42), .inl ((vk 20), (va 45), .inl (vF 8))), ((va 43), .inl ((vk 21), (va 46), .inl (vF 9))), ((va 44), .inl ((vk 22), (va 47), .inl (vF 10))), ((va 8), .inr (5, [.ref (va 48)])), ((va 48), .inl ((vk 23), 181, .inr (.inl (vG 10)))), ((va 9), .inl ((vk 24), 16, .inl (vF 11)))] H ∧ va_K (dC, dI) vwCl [((vk 0), .byte), ((vk 1), .int), ((vk 2), .int), ((vk 3), .long), ((vk 4), .long), ((vk 5), .long), ((vk 6), .int), ((vk 7), .object RX2), ((vk 9), .long), ((vk 10), .int), ((vk 11), .long), ((vk 12), .int), ((vk 13), .long), ((vk 14), .int), ((vk 8), .boolean), ((vk 15), .object RX3), ((vk 16), .long), ((vk 17), .long), ((vk 18), .long), ((vk 19), .long), ((vk 20), .int), ((vk 21), .int), ((vk 22), .byte), ((vk 23), .long), ((vk 24), .int)] U ∧ va_D AX [(h0, .inr (7, [.ref (va 0), .ref (va 1), .ref (va 2), .ref (va 3), .ref (va 4), .ref (va 5), .ref (va 6), .ref (va 7), .ref (va 8), .ref (va 9)])), ((va 0), .inr (6, [.ref (va 10), .int (vz 0)])), ((va 10), .inl ((vk 0), 1200, .inl (vF 0))), ((va 1), .inr (3, [.int (vz 1), .int (vz 2), .int (vz 3), .int (vz 4), .int (vz 5), .ref (va 11), .ref (va 12), .ref (va 13), .ref (va 14)])), ((va 11), .inl ((vk 1), 9, .inl (vF 1))), ((va 12), .inl ((vk 2), 600, .inl (vF 2))), ((va 13), .inl ((vk 3), 600, .inr (.inl (vG 0)))), ((va 14), .inl ((vk 4), 600, .inr (.inl (vG 1)))), ((va 2), .inr (0, [.ref (va 0), .ref (va 1), .int (vz 6), .int (vz 7), .int (vz 8), .int (vz 9), .int (vz 10), .int (vz 11), .int (vz 12)])), ((va 3), .inr (1, [.int (vz 13), .int (vz 14), .int (vz 15), .int (vz 16), .int (vz 17), .ref (va 15), .ref (va 16)])), ((va 15), .inl ((vk 5), (va 17), .inr (.inl (vG 2)))), ((va 16), .inl ((vk 6), (va 18), .inl (vF 3))), ((va 4), .inl ((vk 7), 3, .inr (.inr (.inr (.inr (sf3 (va 19) (va 24) (va 29))))))), ((va 19), .inr (1, [.int (vz 18), .int (vz 19), .int (vz 20), .int (vz 21), .int (vz 22), .ref (va 20), .ref (va 21)])), ((va 20), .inl ((vk 9), (va 22), .inr (.inl (vG 3)))), ((va 21), .inl ((vk 10), (va 23), .inl (vF 5))), ((va 24), .inr (1, [.int (vz 23), .int (vz 24), .int (vz 25), .int (vz 26), .int (vz 27), .ref (va 25), .ref (va 26)])), ((va 25), .inl ((vk 11), (va 27), .inr (.inl (vG 4)))), ((va 26), .inl ((vk 12), (va 28), .inl (vF 6))), ((va 29), .inr (1, [.int (vz 28), .int (vz 29), .int (vz 30), .int (vz 31), .int (vz 32), .ref (va 30), .ref (va 31)])), ((va 30), .inl ((vk 13), (va 32), .inr (.inl (vG 5)))), ((va 31), .inl ((vk 14), (va 33), .inl (vF 7))), ((va 5), .inl ((vk 8), 3, .inl (vF 4))), ((va 6), .inl ((vk 15), 4, .inr (.inr (.inr (.inr (sf4 (va 34) (va 35) (va 36) (va 37))))))), ((va 34), .inr (2, [.int (vz 33), .int (vz 37), .ref (va 38)])), ((va 35), .inr (2, [.int (vz 34), .int (vz 38), .ref (va 39)])), ((va 36), .inr (2, [.int (vz 35), .int (vz 39), .ref (va 40)])), ((va 37), .inr (2, [.int (vz 36), .int (vz 40), .ref (va 41)])), ((va 38), .inl ((vk 16), 60, .inr (.inl (vG 6)))), ((va 39), .inl ((vk 17), 60, .inr (.inl (vG 7)))), ((va 40), .inl ((vk 18), 60, .inr (.inl (vG 8)))), ((va 41), .inl ((vk 19), 60, .inr (.inl (vG 9)))), ((va 7), .inr (4, [.ref (va 42), .ref (va 43), .ref (va 44)])), ((va 42), .inl ((vk 20), (va 45), .inl (vF 8))), ((va 43), .inl ((vk 21), (va 46), .inl (vF 9))), ((va 44), .inl ((vk 22), (va 47), .inl (vF 10))), ((va 8), .inr (5, [.ref (va 48)])), ((va 48), .inl ((vk 23), 181, .inr (.inl (vG 10)))), ((va 9), .inl ((vk 24), 16, .inl (vF 11)))]
set_option maxRecDepth 20000 in
theorem XI.moved {dC : Nat → ClassId} {dI : Nat → Nat → Nat} {AX : Nat → Prop} {cc h0 : Nat} {u U : State} {H : Heap} (hv : u.vm.Alike U.vm) (h : XI dC dI AX cc h0 u H) : XI dC dI AX cc h0 U H := by
  obtain ⟨va, vz, vk, vF, vG, b_ts, b_sn, b_sb, b_si, b_sw, b_ss, b_xf, b_xp, b_xt, b_xa, b_xo, b_ln, b_bs, b_tk, b_lw, b_ln_0, b_bs_0, b_tk_0, b_lw_0, b_ln_1, b_bs_1, b_tk_1, b_lw_1, b_ln_2, b_bs_2, b_tk_2, b_lw_2, b_wd0, b_wd1, b_wd2, b_wd3, b_rz0, b_rz1, b_rz2, b_rz3, hrd, hnl, hnm, hge, hrk, hnl0, hnm0, hge0, hrk0, hnl1, hnm1, hge1, hrk1, hnl2, hnm2, hge2, hrk2, hnr, hq1, hq3, ha_en, htot, hP, hK, hD⟩ := h
  exact ⟨va, vz, vk, vF, vG, b_ts, b_sn, b_sb, b_si, b_sw, b_ss, b_xf, b_xp, b_xt, b_xa, b_xo, b_ln, b_bs, b_tk, b_lw, b_ln_0, b_bs_0, b_tk_0, b_lw_0, b_ln_1, b_bs_1, b_tk_1, b_lw_1, b_ln_2, b_bs_2, b_tk_2, b_lw_2, b_wd0, b_wd1, b_wd2, b_wd3, b_rz0, b_rz1, b_rz2, b_rz3, hrd, hnl, hnm, hge, hrk, hnl0, hnm0, hge0, hrk0, hnl1, hnm1, hge1, hrk1, hnl2, hnm2, hge2, hrk2, hnr, hq1, hq3, ha_en, htot, hP, va_K.moved hv hK, hD⟩
set_option maxRecDepth 20000 in
theorem XI.recv {dC : Nat → ClassId} {dI : Nat → Nat → Nat} {AX : Nat → Prop} {cc h0 : Nat} {U : State} {H : Heap} (h : XI dC dI AX cc h0 U H) : ∃ cell : Cell, H[h0]? = some cell ∧ cell.vm.isStatics = false ∧ U.vm.findClass RX9 = some cell.cls := by
  obtain ⟨va, vz, vk, vF, vG, b_ts, b_sn, b_sb, b_si, b_sw, b_ss, b_xf, b_xp, b_xt, b_xa, b_xo, b_ln, b_bs, b_tk, b_lw, b_ln_0, b_bs_0, b_tk_0, b_lw_0, b_ln_1, b_bs_1, b_tk_1, b_lw_1, b_ln_2, b_bs_2, b_tk_2, b_lw_2, b_wd0, b_wd1, b_wd2, b_wd3, b_rz0, b_rz1, b_rz2, b_rz3, hrd, hnl, hnm, hge, hrk, hnl0, hnm0, hge0, hrk0, hnl1, hnm1, hge1, hrk1, hnl2, hnm2, hge2, hrk2, hnr, hq1, hq3, ha_en, htot, hP, hK, hD⟩ := h
  exact va_recv hK hP (ci := 7) (q0 := 0) rfl rfl
set_option maxRecDepth 20000 in
theorem XI.kept {dC : Nat → ClassId} {dI : Nat → Nat → Nat} {AX : Nat → Prop} {cc h0 : Nat} {U : State} {H H1 : Heap} (ht : tot H1 ≤ tot H) (hk : ∀ q : Nat, q < H.size → AX q → H1[q]? = H[q]?) (h : XI dC dI AX cc h0 U H) : XI dC dI AX cc h0 U H1 := by
  obtain ⟨va, vz, vk, vF, vG, b_ts, b_sn, b_sb, b_si, b_sw, b_ss, b_xf, b_xp, b_xt, b_xa, b_xo, b_ln, b_bs, b_tk, b_lw, b_ln_0, b_bs_0, b_tk_0, b_lw_0, b_ln_1, b_bs_1, b_tk_1, b_lw_1, b_ln_2, b_bs_2, b_tk_2, b_lw_2, b_wd0, b_wd1, b_wd2, b_wd3, b_rz0, b_rz1, b_rz2, b_rz3, hrd, hnl, hnm, hge, hrk, hnl0, hnm0, hge0, hrk0, hnl1, hnm1, hge1, hrk1, hnl2, hnm2, hge2, hrk2, hnr, hq1, hq3, ha_en, htot, hP, hK, hD⟩ := h
  exact ⟨va, vz, vk, vF, vG, b_ts, b_sn, b_sb, b_si, b_sw, b_ss, b_xf, b_xp, b_xt, b_xa, b_xo, b_ln, b_bs, b_tk, b_lw, b_ln_0, b_bs_0, b_tk_0, b_lw_0, b_ln_1, b_bs_1, b_tk_1, b_lw_1, b_ln_2, b_bs_2, b_tk_2, b_lw_2, b_wd0, b_wd1, b_wd2, b_wd3, b_rz0, b_rz1, b_rz2, b_rz3, hrd, hnl, hnm, hge, hrk, hnl0, hnm0, hge0, hrk0, hnl1, hnm1, hge1, hrk1, hnl2, hnm2, hge2, hrk2, hnr, hq1, hq3, ha_en, by omega, hP.kept (fun k q hq => hk q.1 (hP k q hq).lt (hD.2 k q hq)), hK, hD⟩
set_option maxRecDepth 20000 in
theorem XI.tot {dC : Nat → ClassId} {dI : Nat → Nat → Nat} {AX : Nat → Prop} {cc h0 : Nat} {U : State} {H : Heap} (h : XI dC dI AX cc h0 U H) : tot H ≤ cc := by
  obtain ⟨va, vz, vk, vF, vG, b_ts, b_sn, b_sb, b_si, b_sw, b_ss, b_xf, b_xp, b_xt, b_xa, b_xo, b_ln, b_bs, b_tk, b_lw, b_ln_0, b_bs_0, b_tk_0, b_lw_0, b_ln_1, b_bs_1, b_tk_1, b_lw_1, b_ln_2, b_bs_2, b_tk_2, b_lw_2, b_wd0, b_wd1, b_wd2, b_wd3, b_rz0, b_rz1, b_rz2, b_rz3, hrd, hnl, hnm, hge, hrk, hnl0, hnm0, hge0, hrk0, hnl1, hnm1, hge1, hrk1, hnl2, hnm2, hge2, hrk2, hnr, hq1, hq3, ha_en, htot, hP, hK, hD⟩ := h
  omega
def PX (dC : Nat → ClassId) (dI : Nat → Nat → Nat) (AX : Nat → Prop) (cc n0 h0 : Nat) (U : State) : Prop := XI dC dI AX cc h0 U U.heap ∧ nst U ∧ sx n0 U ∧ n0 ≤ U.heap.size ∧ ∀ q : Nat, U.heap.size ≤ q → AX q
theorem PX_fb {av : List Value} {dC : Nat → ClassId} {dI : Nat → Nat → Nat} {AX : Nat → Prop} {cc n0 h0 : Nat} : FrameBlind (va_Pc av (PX dC dI AX cc n0 h0)) := fun a U g mk q => by
  obtain ⟨q0, q1, q2, q3, q4, q5⟩ := q
  exact ⟨q0, XI.moved (u := U) (U := U.calling g mk a) (Vm.Alike.refl U.vm) q1, nst.same (u := U) (U := U.calling g mk a) rfl q2, q3.call, q4, q5⟩
theorem PX_use {av : List Value} {dC : Nat → ClassId} {dI : Nat → Nat → Nat} {AX AL : Nat → Prop} {cc n0 h0 : Nat} {s : State} {H : Heap} {locs : List Loc} (h : XI dC dI AX cc h0 s H) (hN : nst s) (hX : sx n0 s) (hn : n0 ≤ s.heap.size) (hS : va_S AL s.heap H locs) (hAL : ∀ q, AL q → n0 ≤ q) (hA : ∀ q : Nat, H.size ≤ q → AX q) : ∀ U : State, U.heap = H → s.WarmedH U.vm → va_Pc av (PX dC dI AX cc n0 h0) av.toArray U := fun U hU hW => by
  have hk : ∀ a : Nat, a < s.heap.size → ¬ n0 ≤ a → U.heap[a]? = s.heap[a]? := fun a h1 h2 => by rw [hU]; exact hS.2.1 a h1 (fun z => h2 (hAL a z))
  exact ⟨rfl, by rw [hU]; exact XI.moved hW.alike h, hN.warm hW, hX.mv hk hW.alike (fun _ _ _ _ q => vk_R.warm hW q), by rw [hU]; exact Nat.le_trans hn hS.1, by rw [hU]; exact hA⟩
theorem PX_same {dC : Nat → ClassId} {dI : Nat → Nat → Nat} {AX : Nat → Prop} {cc n0 h0 : Nat} {U t : State} (h : PX dC dI AX cc n0 h0 U) (ht : t.heap = U.heap) (hW : U.WarmedH t.vm) : PX dC dI AX cc n0 h0 t := by
  obtain ⟨q1, q2, q3, q4, q5⟩ := h
  exact ⟨by rw [ht]; exact XI.moved hW.alike q1, q2.warm hW, q3.mv (fun a _ _ => by rw [ht]) hW.alike (fun _ _ _ _ q => vk_R.warm hW q), by rw [ht]; exact q4, by rw [ht]; exact q5⟩
def MI (dC : Nat → ClassId) (dI : Nat → Nat → Nat) (AX : Nat → Prop) (o0 : Nat) (U : State) (H : Heap) : Prop := ∃ (va : Nat → Nat) (vz : Nat → Int32) (vl : Nat → Int64) (vk : Nat → ClassId) (vF : Nat → (Nat → Int32)) (vG : Nat → (Nat → Int64)), ((0 : Int) ≤ (vz 2).toInt ∧ (vz 2).toInt ≤ 1200) ∧ ((0 : Int) ≤ (vz 3).toInt ∧ (vz 3).toInt ≤ 1200) ∧ ((0 : Int) ≤ (vz 4).toInt ∧ (vz 4).toInt ≤ 1200) ∧ ((0 : Int) ≤ (vz 5).toInt ∧ (vz 5).toInt ≤ 6) ∧ ((0 : Int) ≤ (vz 7).toInt ∧ (vz 7).toInt ≤ 3) ∧ ((0 : Int) ≤ (vz 1).toInt ∧ (vz 1).toInt ≤ 1200) ∧ (GW (vF 0)) ∧ (GI (vF 1) (vF 2)) ∧ (rg (vF 8) 12 0 15) ∧ (rg (vF 13) 4 (-1) 60) ∧ (rg (vF 14) 4 0 3) ∧ (rg (vF 9) 26 0 1) ∧ va_P (dC, dI) vwCl [(o0, .inr (8, [.int (vz 0), .ref (va 0), .ref (va 1), .ref (va 2), .ref (va 3), .ref (va 4), .int (vz 1), .ref (va 5), .int (vz 2), .int (vz 3), .int (vz 4), .int (vz 5), .int (vz 6), .int (vz 7), .int (vz 8), .ref (va 6), .ref (va 7), .int (vz 9), .int (vz 10), .int (vz 11), .ref (va 8), .ref (va 9), .long (vl 0), .ref (va 10), .ref (va 11), .ref (va 12), .ref (va 13), .ref (va 14), .ref (va 15), .ref (va 16), .ref (va 17), .ref (va 18), .ref (va 19)])), ((va 0), .inl ((vk 0), 1875, .inl (vF 0))), ((va 1), .inl ((vk 1), 5625, .inl (vF 1))), ((va 2), .inl ((vk 2), 3, .inl (vF 2))), ((va 3), .inl ((vk 3), 20000, .inl (vF 3))), ((va 4), .inl ((vk 4), 1200, .inl (vF 4))), ((va 5), .inl ((vk 5), 5, .inl (vF 5))), ((va 6), .inl ((vk 6), 1875, .inl (vF 6))), ((va 7), .inl ((vk 7), 78, .inl (vF 7))), ((va 8), .inl ((vk 8), 12, .inl (vF 8))), ((va 9), .inl ((vk 9), 26, .inl (vF 9))), ((va 10), .inl ((vk 10), 16, .inl (vF 10))), ((va 11), .inl ((vk 11), 20000, .inl (vF 11))), ((va 12), .inl ((vk 12), 20000, .inl (vF 12))), ((va 13), .inl ((vk 13), 12, .inl monthsF)), ((va 14), .inl ((vk 14), 201, .inr (.inl (vG 0)))), ((va 15), .inl ((vk 15), 201, .inr (.inl (vG 1)))), ((va 16), .inl ((vk 16), 4, .inl (vF 13))), ((va 17), .inl ((vk 17), 4, .inl (vF 14))), ((va 18), .inl ((vk 18), 240, .inr (.inl (vG 2)))), ((va 19), .inl ((vk 19), 60, .inr (.inl (vG 3))))] H ∧ va_K (dC, dI) vwCl [((vk 0), .int), ((vk 1), .int), ((vk 2), .boolean), ((vk 3), .int), ((vk 4), .byte), ((vk 5), .int), ((vk 6), .int), ((vk 7), .int), ((vk 8), .int), ((vk 9), .boolean), ((vk 10), .int), ((vk 11), .int), ((vk 12), .int), ((vk 13), .int), ((vk 14), .long), ((vk 15), .long), ((vk 16), .int), ((vk 17), .int), ((vk 18), .long), ((vk 19), .long)] U ∧ va_D AX [(o0, .inr (8, [.int (vz 0), .ref (va 0), .ref (va 1), .ref (va 2), .ref (va 3), .ref (va 4), .int (vz 1), .ref (va 5), .int (vz 2), .int (vz 3), .int (vz 4), .int (vz 5), .int (vz 6), .int (vz 7), .int (vz 8), .ref (va 6), .ref (va 7), .int (vz 9), .int (vz 10), .int (vz 11), .ref (va 8), .ref (va 9), .long (vl 0), .ref (va 10), .ref (va 11), .ref (va 12), .ref (va 13), .ref (va 14), .ref (va 15), .ref (va 16), .ref (va 17), .ref (va 18), .ref (va 19)])), ((va 0), .inl ((vk 0), 1875, .inl (vF 0))), ((va 1), .inl ((vk 1), 5625, .inl (vF 1))), ((va 2), .inl ((vk 2), 3, .inl (vF 2))), ((va 3), .inl ((vk 3), 20000, .inl (vF 3))), ((va 4), .inl ((vk 4), 1200, .inl (vF 4))), ((va 5), .inl ((vk 5), 5, .inl (vF 5))), ((va 6), .inl ((vk 6), 1875, .inl (vF 6))), ((va 7), .inl ((vk 7), 78, .inl (vF 7))), ((va 8), .inl ((vk 8), 12, .inl (vF 8))), ((va 9), .inl ((vk 9), 26, .inl (vF 9))), ((va 10), .inl ((vk 10), 16, .inl (vF 10))), ((va 11), .inl ((vk 11), 20000, .inl (vF 11))), ((va 12), .inl ((vk 12), 20000, .inl (vF 12))), ((va 13), .inl ((vk 13), 12, .inl monthsF)), ((va 14), .inl ((vk 14), 201, .inr (.inl (vG 0)))), ((va 15), .inl ((vk 15), 201, .inr (.inl (vG 1)))), ((va 16), .inl ((vk 16), 4, .inl (vF 13))), ((va 17), .inl ((vk 17), 4, .inl (vF 14))), ((va 18), .inl ((vk 18), 240, .inr (.inl (vG 2)))), ((va 19), .inl ((vk 19), 60, .inr (.inl (vG 3))))]
set_option maxRecDepth 20000 in
theorem MI.moved {dC : Nat → ClassId} {dI : Nat → Nat → Nat} {AX : Nat → Prop} {o0 : Nat} {u U : State} {H : Heap} (hv : u.vm.Alike U.vm) (h : MI dC dI AX o0 u H) : MI dC dI AX o0 U H := by
  obtain ⟨va, vz, vl, vk, vF, vG, b_x_sz, b_x_at, b_x_fr, b_x_to, b_x_fk, b_x_td, hgw, hgi, ha_mfg, ha_mma, ha_mwi, ha_mpl, hP, hK, hD⟩ := h
  exact ⟨va, vz, vl, vk, vF, vG, b_x_sz, b_x_at, b_x_fr, b_x_to, b_x_fk, b_x_td, hgw, hgi, ha_mfg, ha_mma, ha_mwi, ha_mpl, hP, va_K.moved hv hK, hD⟩
set_option maxRecDepth 20000 in
theorem MI.recv {dC : Nat → ClassId} {dI : Nat → Nat → Nat} {AX : Nat → Prop} {o0 : Nat} {U : State} {H : Heap} (h : MI dC dI AX o0 U H) : ∃ cell : Cell, H[o0]? = some cell ∧ cell.vm.isStatics = false ∧ U.vm.findClass RX10 = some cell.cls := by
  obtain ⟨va, vz, vl, vk, vF, vG, b_x_sz, b_x_at, b_x_fr, b_x_to, b_x_fk, b_x_td, hgw, hgi, ha_mfg, ha_mma, ha_mwi, ha_mpl, hP, hK, hD⟩ := h
  exact va_recv hK hP (ci := 8) (q0 := 0) rfl rfl
set_option maxRecDepth 20000 in
theorem MI.kept {dC : Nat → ClassId} {dI : Nat → Nat → Nat} {AX : Nat → Prop} {o0 : Nat} {U : State} {H H1 : Heap} (hk : ∀ q : Nat, q < H.size → AX q → H1[q]? = H[q]?) (h : MI dC dI AX o0 U H) : MI dC dI AX o0 U H1 := by
  obtain ⟨va, vz, vl, vk, vF, vG, b_x_sz, b_x_at, b_x_fr, b_x_to, b_x_fk, b_x_td, hgw, hgi, ha_mfg, ha_mma, ha_mwi, ha_mpl, hP, hK, hD⟩ := h
  exact ⟨va, vz, vl, vk, vF, vG, b_x_sz, b_x_at, b_x_fr, b_x_to, b_x_fk, b_x_td, hgw, hgi, ha_mfg, ha_mma, ha_mwi, ha_mpl, hP.kept (fun k q hq => hk q.1 (hP k q hq).lt (hD.2 k q hq)), hK, hD⟩
def PM (dC : Nat → ClassId) (dI : Nat → Nat → Nat) (AX : Nat → Prop) (tt n0 o0 : Nat) (U : State) : Prop := MI dC dI AX o0 U U.heap ∧ tot U.heap ≤ tt ∧ nst U ∧ sx n0 U ∧ n0 ≤ U.heap.size ∧ ∀ q : Nat, U.heap.size ≤ q → ¬ AX q
theorem PM_fb {av : List Value} {dC : Nat → ClassId} {dI : Nat → Nat → Nat} {AX : Nat → Prop} {tt n0 o0 : Nat} : FrameBlind (va_Pc av (PM dC dI AX tt n0 o0)) := fun a U g mk q => by
  obtain ⟨q0, q1, qt, q2, q3, q4, q5⟩ := q
  exact ⟨q0, MI.moved (u := U) (U := U.calling g mk a) (Vm.Alike.refl U.vm) q1, qt, nst.same (u := U) (U := U.calling g mk a) rfl q2, q3.call, q4, q5⟩
theorem PM_use {av : List Value} {dC : Nat → ClassId} {dI : Nat → Nat → Nat} {AX AL : Nat → Prop} {tt n0 o0 : Nat} {s : State} {H : Heap} {locs : List Loc} (h : MI dC dI AX o0 s H) (htt : tot H ≤ tt) (hN : nst s) (hX : sx n0 s) (hn : n0 ≤ s.heap.size) (hS : va_S AL s.heap H locs) (hAL : ∀ q, AL q → n0 ≤ q) (hA : ∀ q : Nat, H.size ≤ q → ¬ AX q) : ∀ U : State, U.heap = H → s.WarmedH U.vm → va_Pc av (PM dC dI AX tt n0 o0) av.toArray U := fun U hU hW => by
  have hk : ∀ a : Nat, a < s.heap.size → ¬ n0 ≤ a → U.heap[a]? = s.heap[a]? := fun a h1 h2 => by rw [hU]; exact hS.2.1 a h1 (fun z => h2 (hAL a z))
  exact ⟨rfl, by rw [hU]; exact MI.moved hW.alike h, by rw [hU]; exact htt, hN.warm hW, hX.mv hk hW.alike (fun _ _ _ _ q => vk_R.warm hW q), by rw [hU]; exact Nat.le_trans hn hS.1, by rw [hU]; exact hA⟩
theorem PM_same {dC : Nat → ClassId} {dI : Nat → Nat → Nat} {AX : Nat → Prop} {tt n0 o0 : Nat} {U t : State} (h : PM dC dI AX tt n0 o0 U) (ht : t.heap = U.heap) (hW : U.WarmedH t.vm) : PM dC dI AX tt n0 o0 t := by
  obtain ⟨q1, qt, q2, q3, q4, q5⟩ := h
  exact ⟨by rw [ht]; exact MI.moved hW.alike q1, by rw [ht]; exact qt, q2.warm hW, q3.mv (fun a _ _ => by rw [ht]) hW.alike (fun _ _ _ _ q => vk_R.warm hW q), by rw [ht]; exact q4, by rw [ht]; exact q5⟩
