def GU (ws : List Cond) : Prop := ∀ w ∈ ws, (w.onTables && w.keeps) = true ∨ ∃ ty, w = .arrayClass ty
theorem gu_all {ws : List Cond} (h : ws.all goodWord = true) : GU ws := fun w hw => good_of_word (List.all_eq_true.mp h w hw)
theorem gu_ap {a b : List Cond} (h1 : GU a) (h2 : GU b) : GU (a ++ b) := List.forall_mem_append.mpr ⟨h1, h2⟩
theorem gu_app {a b : List Cond} (h1 : a.all goodWord = true) (h2 : GU b) : GU (a ++ b) := gu_ap (gu_all h1) h2
theorem gu_cons {y : MethodName} {cb : ByteArray} {n : Nat} {r : Option FieldType} {ws : List Cond} (h : GU ws) : GU (List.cons (Cond.code y cb n r) ws) := List.forall_mem_cons.mpr ⟨Or.inl rfl, h⟩
theorem gu_V {own : String} {idx : Nat} {C : String} {y : MethodName} {ws : List Cond} (h : GU ws) : GU (wsV own idx C y ws) := gu_app rfl h
theorem gu_S {own : String} {idx : Nat} {y : MethodName} {ws : List Cond} (h : GU ws) : GU (va_wsS own idx y ws) := gu_app rfl h
theorem gin_U {big ws : List Cond} (h : ∀ w ∈ ws, w ∈ big) (hg : GU ws) : GoodIn big ws := fun w hw => ⟨h w hw, hg w hw⟩
theorem gin_V {big : List Cond} {own : String} {idx : Nat} {C : String} {y : MethodName} {ws : List Cond} (h1 : Cond.methodLink own idx y ∈ big) (h2 : Cond.instanceMethod y ∈ big) (h3 : Cond.selects C y y ∈ big) (h4 : Cond.initialized C ∈ big) (hs : ∀ w ∈ ws, w ∈ big) (hg : GU ws) : GoodIn big (wsV own idx C y ws) :=
  gin_U (List.forall_mem_append.mpr ⟨List.forall_mem_cons.mpr ⟨h1, List.forall_mem_cons.mpr ⟨h2, List.forall_mem_cons.mpr ⟨h3, List.forall_mem_cons.mpr ⟨h4, fun _ h => absurd h List.not_mem_nil⟩⟩⟩⟩, hs⟩) (gu_V hg)
theorem gin_S {big : List Cond} {own : String} {idx : Nat} {y : MethodName} {ws : List Cond} (h1 : Cond.methodLink own idx y ∈ big) (h2 : Cond.static y ∈ big) (h3 : Cond.initialized y.cls ∈ big) (hs : ∀ w ∈ ws, w ∈ big) (hg : GU ws) : GoodIn big (va_wsS own idx y ws) :=
  gin_U (List.forall_mem_append.mpr ⟨List.forall_mem_cons.mpr ⟨h1, List.forall_mem_cons.mpr ⟨h2, List.forall_mem_cons.mpr ⟨h3, fun _ h => absurd h List.not_mem_nil⟩⟩⟩, hs⟩) (gu_S hg)
theorem gws_X1 : GU wsX10 := gu_all (by decide +kernel)
theorem gws_X2 : GU wsX20 := gu_all (by decide +kernel)
theorem gws_X3 : GU wsX30 := gu_all (by decide +kernel)
theorem gws_X4 : GU wsX40 := gu_all (by decide +kernel)
theorem gws_X5 : GU wsX50 := gu_all (by decide +kernel)
theorem gws_X6 : GU wsX60 := gu_all (by decide +kernel)
theorem gws_X7 : GU wsX70 := gu_all (by decide +kernel)
theorem gws_X9 : GU wsX90 := gu_all (by decide +kernel)
theorem gws_X10 : GU wsX100 := gu_all (by decide +kernel)
theorem hown_of {s : State} {y : MethodName} {m : MethodId} {C : String} (h : s.methodNamed? y = some m) (hc : y.cls = C) : s.vm.findClass C = some m.cls := by
  subst hc; exact findClass_of_methodNamed h
theorem rcv_X1 {s : State} {H : Heap} {D : va_G} {a q0 : Nat} {fs : List Value} {ws : va_W} {tys : List (ClassId × FieldType)} (hK : va_K D vwCl tys s) (hP : va_P D vwCl ws H) (he : ws[q0]? = some (a, .inr (0, fs))) : ∃ cell : Cell, H[a]? = some cell ∧ cell.vm.isStatics = false ∧ s.vm.findClass RX1 = some cell.cls := va_recv hK hP (ci := 0) (q0 := q0) (q := (RX1, TX1, 9)) rfl he
theorem rcv_X2 {s : State} {H : Heap} {D : va_G} {a q0 : Nat} {fs : List Value} {ws : va_W} {tys : List (ClassId × FieldType)} (hK : va_K D vwCl tys s) (hP : va_P D vwCl ws H) (he : ws[q0]? = some (a, .inr (1, fs))) : ∃ cell : Cell, H[a]? = some cell ∧ cell.vm.isStatics = false ∧ s.vm.findClass RX2 = some cell.cls := va_recv hK hP (ci := 1) (q0 := q0) (q := (RX2, TX2, 7)) rfl he
theorem rcv_X3 {s : State} {H : Heap} {D : va_G} {a q0 : Nat} {fs : List Value} {ws : va_W} {tys : List (ClassId × FieldType)} (hK : va_K D vwCl tys s) (hP : va_P D vwCl ws H) (he : ws[q0]? = some (a, .inr (2, fs))) : ∃ cell : Cell, H[a]? = some cell ∧ cell.vm.isStatics = false ∧ s.vm.findClass RX3 = some cell.cls := va_recv hK hP (ci := 2) (q0 := q0) (q := (RX3, TX3, 3)) rfl he
theorem rcv_X4 {s : State} {H : Heap} {D : va_G} {a q0 : Nat} {fs : List Value} {ws : va_W} {tys : List (ClassId × FieldType)} (hK : va_K D vwCl tys s) (hP : va_P D vwCl ws H) (he : ws[q0]? = some (a, .inr (3, fs))) : ∃ cell : Cell, H[a]? = some cell ∧ cell.vm.isStatics = false ∧ s.vm.findClass RX4 = some cell.cls := va_recv hK hP (ci := 3) (q0 := q0) (q := (RX4, TX4, 9)) rfl he
theorem rcv_X5 {s : State} {H : Heap} {D : va_G} {a q0 : Nat} {fs : List Value} {ws : va_W} {tys : List (ClassId × FieldType)} (hK : va_K D vwCl tys s) (hP : va_P D vwCl ws H) (he : ws[q0]? = some (a, .inr (4, fs))) : ∃ cell : Cell, H[a]? = some cell ∧ cell.vm.isStatics = false ∧ s.vm.findClass RX5 = some cell.cls := va_recv hK hP (ci := 4) (q0 := q0) (q := (RX5, TX5, 3)) rfl he
theorem rcv_X6 {s : State} {H : Heap} {D : va_G} {a q0 : Nat} {fs : List Value} {ws : va_W} {tys : List (ClassId × FieldType)} (hK : va_K D vwCl tys s) (hP : va_P D vwCl ws H) (he : ws[q0]? = some (a, .inr (5, fs))) : ∃ cell : Cell, H[a]? = some cell ∧ cell.vm.isStatics = false ∧ s.vm.findClass RX6 = some cell.cls := va_recv hK hP (ci := 5) (q0 := q0) (q := (RX6, TX6, 1)) rfl he
theorem rcv_X7 {s : State} {H : Heap} {D : va_G} {a q0 : Nat} {fs : List Value} {ws : va_W} {tys : List (ClassId × FieldType)} (hK : va_K D vwCl tys s) (hP : va_P D vwCl ws H) (he : ws[q0]? = some (a, .inr (6, fs))) : ∃ cell : Cell, H[a]? = some cell ∧ cell.vm.isStatics = false ∧ s.vm.findClass RX7 = some cell.cls := va_recv hK hP (ci := 6) (q0 := q0) (q := (RX7, TX7, 2)) rfl he
theorem rcv_X9 {s : State} {H : Heap} {D : va_G} {a q0 : Nat} {fs : List Value} {ws : va_W} {tys : List (ClassId × FieldType)} (hK : va_K D vwCl tys s) (hP : va_P D vwCl ws H) (he : ws[q0]? = some (a, .inr (7, fs))) : ∃ cell : Cell, H[a]? = some cell ∧ cell.vm.isStatics = false ∧ s.vm.findClass RX9 = some cell.cls := va_recv hK hP (ci := 7) (q0 := q0) (q := (RX9, TX9, 10)) rfl he
theorem rcv_X10 {s : State} {H : Heap} {D : va_G} {a q0 : Nat} {fs : List Value} {ws : va_W} {tys : List (ClassId × FieldType)} (hK : va_K D vwCl tys s) (hP : va_P D vwCl ws H) (he : ws[q0]? = some (a, .inr (8, fs))) : ∃ cell : Cell, H[a]? = some cell ∧ cell.vm.isStatics = false ∧ s.vm.findClass RX10 = some cell.cls := va_recv hK hP (ci := 8) (q0 := q0) (q := (RX10, TX10, 33)) rfl he
theorem pn_X0 : plainName RX0 = true := by decide +kernel
theorem pn_X1 : plainName RX1 = true := by decide +kernel
theorem pn_X2 : plainName RX2 = true := by decide +kernel
theorem pn_X3 : plainName RX3 = true := by decide +kernel
theorem pn_X4 : plainName RX4 = true := by decide +kernel
theorem pn_X5 : plainName RX5 = true := by decide +kernel
theorem pn_X6 : plainName RX6 = true := by decide +kernel
theorem pn_X7 : plainName RX7 = true := by decide +kernel
theorem pn_X8 : plainName RX8 = true := by decide +kernel
theorem pn_X9 : plainName RX9 = true := by decide +kernel
theorem pn_X10 : plainName RX10 = true := by decide +kernel
theorem pn_J0 : plainName RJ0 = true := by decide +kernel
theorem pn_J1 : plainName RJ1 = true := by decide +kernel
theorem pn_J3 : plainName RJ3 = true := by decide +kernel
theorem pn_J6 : plainName RJ6 = true := by decide +kernel
theorem pn_J7 : plainName RJ7 = true := by decide +kernel
theorem pn_J13 : plainName RJ13 = true := by decide +kernel
