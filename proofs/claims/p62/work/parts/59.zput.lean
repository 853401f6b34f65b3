theorem setL_get2 : ∀ (is : List Nat) (ws oc : va_W) (k : Nat) (q : Nat × va_E), is.length ≤ oc.length → (setL ws is oc)[k]? = some q → (k ∉ is ∧ ws[k]? = some q) ∨ ∃ j : Nat, is[j]? = some k ∧ oc[j]? = some q
  | [], ws, oc, k, q, _, h => by
    cases oc <;> exact Or.inl ⟨List.not_mem_nil, h⟩
  | i :: is, ws, [], k, q, hl, h => by simp at hl
  | i :: is, ws, o :: oc, k, q, hl, h => by
    have h2 : (setL (ws.set i o) is oc)[k]? = some q := h
    rcases setL_get2 is (ws.set i o) oc k q (by simpa using hl) h2 with ⟨h3, h4⟩ | ⟨j, hj, hj2⟩
    · by_cases e : i = k
      · subst e
        rw [List.getElem?_set] at h4
        by_cases hlt : i < ws.length
        · rw [if_pos rfl, if_pos hlt] at h4
          exact Or.inr ⟨0, rfl, by rw [← h4]; rfl⟩
        · rw [if_pos rfl, if_neg hlt] at h4
          cases h4
      · rw [List.getElem?_set_ne e] at h4
        exact Or.inl ⟨fun hm => (List.mem_cons.mp hm).elim (fun e2 => e e2.symm) h3, h4⟩
    · exact Or.inr ⟨j + 1, hj, hj2⟩
theorem va_Dput {D : va_G} {cl : List vw_C} {ws wc oc : va_W} {H : Heap} {A A' : Nat → Prop} (is : List Nat) (hP : va_P D cl ws H) (hD : va_D A ws) (hC : is.map (fun i => ws[i]?) = wc.map some) (hD1 : va_D (va_A wc H.size) oc) (hl : is.length ≤ oc.length) (hA : ∀ q, A q → A' q) (hA1 : ∀ q, va_A wc H.size q → A' q) : va_D A' (setL ws is oc) := by
  have key : ∀ (k j k2 : Nat) (p q : Nat × va_E), k ∉ is → ws[k]? = some p → is[j]? = some k2 → oc[j]? = some q → p.1 = q.1 → False := fun k j k2 p q h1 h2 h3 h4 h5 => by
    rcases hD1.2 j q h4 with ⟨m, e, hm⟩ | h6
    · have h7 : (wc.map some)[m]? = some (some (q.1, e)) := by rw [List.getElem?_map, hm]; rfl
      rw [← hC, List.getElem?_map] at h7
      cases hi : is[m]? with
      | none => rw [hi] at h7; cases h7
      | some i =>
        rw [hi] at h7
        have h8 : ws[i]? = some (q.1, e) := Option.some.inj h7
        have h9 := hD.1 k i p (q.1, e) h2 h8 h5
        subst h9
        exact h1 (List.mem_of_getElem? hi)
    · have h7 := (hP k p h2).lt
      rw [h5] at h7
      exact absurd h7 (Nat.not_lt.mpr h6)
  refine ⟨fun i j p q hi hj hpq => ?_, fun k q hk => ?_⟩
  · rcases setL_get2 is ws oc i p hl hi with ⟨a1, a2⟩ | ⟨m, a1, a2⟩
    · rcases setL_get2 is ws oc j q hl hj with ⟨b1, b2⟩ | ⟨n, b1, b2⟩
      · exact hD.1 i j p q a2 b2 hpq
      · exact (key i n j p q a1 a2 b1 b2 hpq).elim
    · rcases setL_get2 is ws oc j q hl hj with ⟨b1, b2⟩ | ⟨n, b1, b2⟩
      · exact (key j m i q p b1 b2 a1 a2 hpq.symm).elim
      · have e := hD1.1 m n p q a2 b2 hpq
        subst e
        exact Option.some.inj (a1.symm.trans b1)
  · rcases setL_get2 is ws oc k q hl hk with ⟨a1, a2⟩ | ⟨m, a1, a2⟩
    · exact hA _ (hD.2 k q a2)
    · exact hA1 _ (hD1.2 m q a2)
def setK9 : List (ClassId × FieldType) → List Nat → List (ClassId × FieldType) → List (ClassId × FieldType)
  | ws, i :: is, o :: oc => setK9 (ws.set i o) is oc
  | ws, _, _ => ws
theorem setK9_get : ∀ (is : List Nat) (ws oc : List (ClassId × FieldType)) (k : Nat) (q : ClassId × FieldType), (setK9 ws is oc)[k]? = some q → ws[k]? = some q ∨ ∃ j : Nat, oc[j]? = some q
  | [], ws, oc, k, q, h => by
    cases oc <;> exact Or.inl h
  | i :: is, ws, [], k, q, h => Or.inl h
  | i :: is, ws, o :: oc, k, q, h => by
    have h2 : (setK9 (ws.set i o) is oc)[k]? = some q := h
    rcases setK9_get is (ws.set i o) oc k q h2 with h4 | ⟨j, hj⟩
    · by_cases e : i = k
      · subst e
        rw [List.getElem?_set] at h4
        by_cases hlt : i < ws.length
        · rw [if_pos rfl, if_pos hlt] at h4
          exact Or.inr ⟨0, by rw [← h4]; rfl⟩
        · rw [if_pos rfl, if_neg hlt] at h4
          cases h4
      · rw [List.getElem?_set_ne e] at h4
        exact Or.inl h4
    · exact Or.inr ⟨j + 1, hj⟩
theorem va_Kput {D : va_G} {cl : List vw_C} {tys ot : List (ClassId × FieldType)} {U : State} (is : List Nat) (h : va_K D cl tys U) (h1 : va_K D cl ot U) : va_K D cl (setK9 tys is ot) U :=
  ⟨h.1, fun k q hk => (setK9_get is tys ot k q hk).elim (fun g => h.2 k q g) (fun ⟨j, g⟩ => h1.2 j q g)⟩
